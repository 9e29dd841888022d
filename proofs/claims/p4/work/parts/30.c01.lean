set_option maxHeartbeats 4000000 in
set_option maxRecDepth 100000 in
theorem k_J7_rangeCheck_23922 (l : Launch) (D : va_G) (cy : Nat → ClassId) (S : HS) (n : Int32) (lo : Int32) (hlo0 : 0 ≤ lo.toInt) (hi : Int32) (h1 : lo.toInt ≤ hi.toInt) (h2 : hi.toInt ≤ n.toInt) : pq_C l D cy yJ7_rangeCheck_23922 cJ7_rangeCheck_23922 3 (none) 1 0 0 S [.int n, .int lo, .int hi] (fun v S2 => v = none ∧ S2 = S) := by
  refine pq_start (by decide) (Nat.le_of_ble_eq_true rfl) ?_
  intro p e s m args below meth c A F hr hlk hnm hA
  have lqm1 : (-1 : Int32).toInt = -1 := rfl
  have lq0 : (0 : Int32).toInt = 0 := rfl
  have lq1 : (1 : Int32).toInt = 1 := rfl
  refine pq_iload_n F dJ7_rangeCheck_23922_0 rfl rfl ?_
  refine pq_iload_n F dJ7_rangeCheck_23922_1 rfl rfl ?_
  refine pq_icmp_le (tgt := 46) F dJ7_rangeCheck_23922_2 (by decide) (fun c2 => ?_) (fun c2 => ?_)
  · skip
    refine pq_iload_n F dJ7_rangeCheck_23922_46 rfl rfl ?_
    refine pq_if_ge (tgt := 59) F dJ7_rangeCheck_23922_47 (by decide) (fun c47 => ?_) (fun c47 => ?_)
    · skip
      refine pq_iload_n F dJ7_rangeCheck_23922_59 rfl rfl ?_
      refine pq_iload_n F dJ7_rangeCheck_23922_60 rfl rfl ?_
      refine pq_icmp_le (tgt := 73) F dJ7_rangeCheck_23922_61 (by decide) (fun c61 => ?_) (fun c61 => ?_)
      · skip
        exact pq_vret F hr hlk hA (Nat.le_refl _) (Nat.le_refl _) (⟨rfl, rfl⟩) dJ7_rangeCheck_23922_73
      · exact absurd c61 (fun z => (by focus (simp only [vp_in_iff, Int32.lt_iff_toInt_lt, Int32.le_iff_toInt_le, ← Int32.toInt_inj, Int32.toInt_add, Int32.toInt_sub, Int32.toInt_mul, Int32.toInt_neg, pq_NuO, pq_NuI, pq_NuJ, pq_NuR, pq_shr6, pq_shr7, pq_shr8, lqm1, lq0, lq1] at *; (try simp (disch := omega) only [pq_bm] at *); all_goals omega)))
    · exact absurd c47 (fun z => (by focus (simp only [vp_in_iff, Int32.lt_iff_toInt_lt, Int32.le_iff_toInt_le, ← Int32.toInt_inj, Int32.toInt_add, Int32.toInt_sub, Int32.toInt_mul, Int32.toInt_neg, pq_NuO, pq_NuI, pq_NuJ, pq_NuR, pq_shr6, pq_shr7, pq_shr8, lqm1, lq0, lq1] at *; (try simp (disch := omega) only [pq_bm] at *); all_goals omega)))
  · exact absurd c2 (fun z => (by focus (simp only [vp_in_iff, Int32.lt_iff_toInt_lt, Int32.le_iff_toInt_le, ← Int32.toInt_inj, Int32.toInt_add, Int32.toInt_sub, Int32.toInt_mul, Int32.toInt_neg, pq_NuO, pq_NuI, pq_NuJ, pq_NuR, pq_shr6, pq_shr7, pq_shr8, lqm1, lq0, lq1] at *; (try simp (disch := omega) only [pq_bm] at *); all_goals omega)))

set_option maxHeartbeats 4000000 in
set_option maxRecDepth 100000 in
theorem k_J7_fill_d0a16 (l : Launch) (D : va_G) (cy : Nat → ClassId) (S : HS) (b rb : Nat) (hb : pq_R S b rb) (kb0 : 180 ≤ rb) (kb1 : rb < 200) (vv : Int64) (hb9 : hN S b ≤ 1000000) : pq_C l D cy yJ7_fill_d0a16 cJ7_fill_d0a16 5 (none) 1 0 0 S [.ref b, .long vv] (fun v S2 => v = none ∧ ∃ f : Nat → Int64, S2 = pq_uJ S b f ∧ (∀ i : Nat, i < hN S b → f i = vv)) := by
  refine pq_start (by decide) (Nat.le_of_ble_eq_true rfl) ?_
  intro p e s m args below meth c A F hr hlk hnm hA
  have lqm1 : (-1 : Int32).toInt = -1 := rfl
  have lq0 : (0 : Int32).toInt = 0 := rfl
  have lq1 : (1 : Int32).toInt = 1 := rfl
  have L6 : ∀  (fu : Nat) (S1 : HS) (k : Int32) (n : Int32)  (hF : ∃ f : Nat → Int64, S1 = pq_uJ S b f ∧ ∀ i : Nat, (i : Int) < k.toInt → f i = vv) (hk0 : 0 ≤ k.toInt) (hn0 : n.toInt = (hN S b : Int)), ((hN S b : Int) - k.toInt).toNat < fu → pq_At p l e (pq_rm 1 0 0) s m args below meth c (pq_Z below args s D cy S 0 0 (fun v S2 => v = none ∧ ∃ f : Nat → Int64, S2 = pq_uJ S b f ∧ (∀ i : Nat, i < hN S b → f i = vv))) D cy A 5 0 0 6 S1 [some (.ref b), some (.long vv), none, some (.int k), some (.int n)] [] := by
    intro  fu
    induction fu with
    | zero => intro S1 k n hF hk0 hn0 hm; exact absurd hm (Nat.not_lt_zero _)
    | succ fu ih =>
      intro S1 k n hF hk0 hn0 hm
      obtain ⟨f0, rfl, hf0⟩ := hF
      have hbL := hb
      refine pq_iload_n F dJ7_fill_d0a16_6 rfl rfl ?_
      refine pq_iload F dJ7_fill_d0a16_7 rfl ?_
      refine pq_icmp_ge (tgt := 22) F dJ7_fill_d0a16_9 (by decide) (fun c9 => ?_) (fun c9 => ?_)
      · skip
        exact pq_vret F hr hlk hA (Nat.le_refl _) (Nat.le_refl _) (⟨rfl, _, rfl, fun i hi => hf0 i (by focus (simp only [vp_in_iff, Int32.lt_iff_toInt_lt, Int32.le_iff_toInt_le, ← Int32.toInt_inj, Int32.toInt_add, Int32.toInt_sub, Int32.toInt_mul, Int32.toInt_neg, pq_NuO, pq_NuI, pq_NuJ, pq_NuR, pq_shr6, pq_shr7, pq_shr8, lqm1, lq0, lq1] at *; (try simp (disch := omega) only [pq_bm] at *); all_goals omega))⟩) dJ7_fill_d0a16_22
      · skip
        refine pq_aload_n F dJ7_fill_d0a16_12 rfl rfl ?_
        refine pq_iload_n F dJ7_fill_d0a16_13 rfl rfl ?_
        refine pq_lload_n F dJ7_fill_d0a16_14 rfl rfl ?_
        refine pq_last F hbL kb0 kb1 rfl (fun n1_15 n2_15 => (by focus (simp only [vp_in_iff, Int32.lt_iff_toInt_lt, Int32.le_iff_toInt_le, ← Int32.toInt_inj, Int32.toInt_add, Int32.toInt_sub, Int32.toInt_mul, Int32.toInt_neg, pq_NuO, pq_NuI, pq_NuJ, pq_NuR, pq_shr6, pq_shr7, pq_shr8, lqm1, lq0, lq1] at *; (try simp (disch := omega) only [pq_bm] at *); all_goals omega))) dJ7_fill_d0a16_15 ?_
        refine pq_iinc (v := 1) F dJ7_fill_d0a16_16 rfl (by decide) (by decide) ?_
        refine pq_goto (tgt := 6) F dJ7_fill_d0a16_19 (by decide) ?_
        exact pq_fgm [true, true, true, true, true] (ih _ _ _ ⟨_, pq_uJJ, fun i hi => (by rw [pq_Ja]; unfold vp_updL; have ck := pq_cl hk0; split; rfl; exact hf0 i (by focus (simp only [vp_in_iff, Int32.lt_iff_toInt_lt, Int32.le_iff_toInt_le, ← Int32.toInt_inj, Int32.toInt_add, Int32.toInt_sub, Int32.toInt_mul, Int32.toInt_neg, pq_NuO, pq_NuI, pq_NuJ, pq_NuR, pq_shr6, pq_shr7, pq_shr8, lqm1, lq0, lq1] at *; (try simp (disch := omega) only [pq_bm] at *); all_goals omega)))⟩ (by focus (simp only [vp_in_iff, Int32.lt_iff_toInt_lt, Int32.le_iff_toInt_le, ← Int32.toInt_inj, Int32.toInt_add, Int32.toInt_sub, Int32.toInt_mul, Int32.toInt_neg, pq_NuO, pq_NuI, pq_NuJ, pq_NuR, pq_shr6, pq_shr7, pq_shr8, lqm1, lq0, lq1] at *; (try simp (disch := omega) only [pq_bm] at *); all_goals omega)) (by focus (simp only [vp_in_iff, Int32.lt_iff_toInt_lt, Int32.le_iff_toInt_le, ← Int32.toInt_inj, Int32.toInt_add, Int32.toInt_sub, Int32.toInt_mul, Int32.toInt_neg, pq_NuO, pq_NuI, pq_NuJ, pq_NuR, pq_shr6, pq_shr7, pq_shr8, lqm1, lq0, lq1] at *; (try simp (disch := omega) only [pq_bm] at *); all_goals omega)) (by focus (simp only [vp_in_iff, Int32.lt_iff_toInt_lt, Int32.le_iff_toInt_le, ← Int32.toInt_inj, Int32.toInt_add, Int32.toInt_sub, Int32.toInt_mul, Int32.toInt_neg, pq_NuO, pq_NuI, pq_NuJ, pq_NuR, pq_shr6, pq_shr7, pq_shr8, lqm1, lq0, lq1] at *; (try simp (disch := omega) only [pq_bm] at *); all_goals omega)))
  refine pq_iconst (v := 0) F dJ7_fill_d0a16_0 (by decide) ?_
  refine pq_istore_n F dJ7_fill_d0a16_1 rfl (by decide) ?_
  refine pq_aload_n F dJ7_fill_d0a16_2 rfl rfl ?_
  refine pq_alen F hb (by omega) rfl dJ7_fill_d0a16_3 (fun l3 u3 => ?_)
  skip
  refine pq_istore F dJ7_fill_d0a16_4 (by decide) ?_
  exact pq_fgm [true, true, true, true, true] (L6 (hN S b + 1) _ _ _ ⟨_, pq_uJs, fun i hi => absurd hi (by focus (simp only [vp_in_iff, Int32.lt_iff_toInt_lt, Int32.le_iff_toInt_le, ← Int32.toInt_inj, Int32.toInt_add, Int32.toInt_sub, Int32.toInt_mul, Int32.toInt_neg, pq_NuO, pq_NuI, pq_NuJ, pq_NuR, pq_shr6, pq_shr7, pq_shr8, lqm1, lq0, lq1] at *; (try simp (disch := omega) only [pq_bm] at *); all_goals omega))⟩ (by focus (simp only [vp_in_iff, Int32.lt_iff_toInt_lt, Int32.le_iff_toInt_le, ← Int32.toInt_inj, Int32.toInt_add, Int32.toInt_sub, Int32.toInt_mul, Int32.toInt_neg, pq_NuO, pq_NuI, pq_NuJ, pq_NuR, pq_shr6, pq_shr7, pq_shr8, lqm1, lq0, lq1] at *; (try simp (disch := omega) only [pq_bm] at *); all_goals omega)) (by rw [nI_toInt (by omega)]) (by focus (simp only [vp_in_iff, Int32.lt_iff_toInt_lt, Int32.le_iff_toInt_le, ← Int32.toInt_inj, Int32.toInt_add, Int32.toInt_sub, Int32.toInt_mul, Int32.toInt_neg, pq_NuO, pq_NuI, pq_NuJ, pq_NuR, pq_shr6, pq_shr7, pq_shr8, lqm1, lq0, lq1] at *; (try simp (disch := omega) only [pq_bm] at *); all_goals omega)))

set_option maxHeartbeats 4000000 in
set_option maxRecDepth 100000 in
theorem k_J7_fill_bad5a (l : Launch) (D : va_G) (cy : Nat → ClassId) (S : HS) (b rb : Nat) (hb : pq_R S b rb) (kb0 : 180 ≤ rb) (kb1 : rb < 200) (lo : Int32) (hlo0 : 0 ≤ lo.toInt) (hi : Int32) (vv : Int64) (h1 : lo.toInt ≤ hi.toInt) (h2 : hi.toInt ≤ (hN S b : Int)) (hb9 : hN S b ≤ 1000000) : pq_C l D cy yJ7_fill_bad5a cJ7_fill_bad5a 6 (none) 2 0 0 S [.ref b, .int lo, .int hi, .long vv] (fun v S2 => v = none ∧ ∃ f : Nat → Int64, S2 = pq_uJ S b f) := by
  refine pq_start (by decide) (Nat.le_of_ble_eq_true rfl) ?_
  intro p e s m args below meth c A F hr hlk hnm hA
  have lqm1 : (-1 : Int32).toInt = -1 := rfl
  have lq0 : (0 : Int32).toInt = 0 := rfl
  have lq1 : (1 : Int32).toInt = 1 := rfl
  have L10 : ∀  (fu : Nat) (S1 : HS) (k : Int32)  (hF : ∃ f : Nat → Int64, S1 = pq_uJ S b f) (hk0 : 0 ≤ k.toInt) (hk1 : k.toInt ≤ hi.toInt), (hi.toInt - k.toInt).toNat < fu → pq_At p l e (pq_rm 2 0 0) s m args below meth c (pq_Z below args s D cy S 0 0 (fun v S2 => v = none ∧ ∃ f : Nat → Int64, S2 = pq_uJ S b f)) D cy A 6 0 0 10 S1 [some (.ref b), some (.int lo), some (.int hi), some (.long vv), none, some (.int k)] [] := by
    intro  fu
    induction fu with
    | zero => intro S1 k hF hk0 hk1 hm; exact absurd hm (Nat.not_lt_zero _)
    | succ fu ih =>
      intro S1 k hF hk0 hk1 hm
      obtain ⟨f0, rfl⟩ := hF
      have hbL := hb
      refine pq_iload F dJ7_fill_bad5a_10 rfl ?_
      refine pq_iload_n F dJ7_fill_bad5a_12 rfl rfl ?_
      refine pq_icmp_ge (tgt := 27) F dJ7_fill_bad5a_13 (by decide) (fun c13 => ?_) (fun c13 => ?_)
      · skip
        exact pq_vret F hr hlk hA (Nat.le_refl _) (Nat.le_refl _) (⟨rfl, (by first | exact ⟨_, rfl⟩ | exact ⟨_, pq_uJJ⟩ | exact ⟨_, pq_uJs⟩ | exact ⟨_, pq_uII⟩ | exact ⟨_, pq_uIs⟩)⟩) dJ7_fill_bad5a_27
      · skip
        refine pq_aload_n F dJ7_fill_bad5a_16 rfl rfl ?_
        refine pq_iload F dJ7_fill_bad5a_17 rfl ?_
        refine pq_lload_n F dJ7_fill_bad5a_19 rfl rfl ?_
        refine pq_last F hbL kb0 kb1 rfl (fun n1_20 n2_20 => (by focus (simp only [vp_in_iff, Int32.lt_iff_toInt_lt, Int32.le_iff_toInt_le, ← Int32.toInt_inj, Int32.toInt_add, Int32.toInt_sub, Int32.toInt_mul, Int32.toInt_neg, pq_NuO, pq_NuI, pq_NuJ, pq_NuR, pq_shr6, pq_shr7, pq_shr8, lqm1, lq0, lq1] at *; (try simp (disch := omega) only [pq_bm] at *); all_goals omega))) dJ7_fill_bad5a_20 ?_
        refine pq_iinc (v := 1) F dJ7_fill_bad5a_21 rfl (by decide) (by decide) ?_
        refine pq_goto (tgt := 10) F dJ7_fill_bad5a_24 (by decide) ?_
        exact pq_fgm [true, true, true, true, false, true] (ih _ _ (by first | exact ⟨_, rfl⟩ | exact ⟨_, pq_uJJ⟩ | exact ⟨_, pq_uJs⟩ | exact ⟨_, pq_uII⟩ | exact ⟨_, pq_uIs⟩) (by focus (simp only [vp_in_iff, Int32.lt_iff_toInt_lt, Int32.le_iff_toInt_le, ← Int32.toInt_inj, Int32.toInt_add, Int32.toInt_sub, Int32.toInt_mul, Int32.toInt_neg, pq_NuO, pq_NuI, pq_NuJ, pq_NuR, pq_shr6, pq_shr7, pq_shr8, lqm1, lq0, lq1] at *; (try simp (disch := omega) only [pq_bm] at *); all_goals omega)) (by focus (simp only [vp_in_iff, Int32.lt_iff_toInt_lt, Int32.le_iff_toInt_le, ← Int32.toInt_inj, Int32.toInt_add, Int32.toInt_sub, Int32.toInt_mul, Int32.toInt_neg, pq_NuO, pq_NuI, pq_NuJ, pq_NuR, pq_shr6, pq_shr7, pq_shr8, lqm1, lq0, lq1] at *; (try simp (disch := omega) only [pq_bm] at *); all_goals omega)) (by focus (simp only [vp_in_iff, Int32.lt_iff_toInt_lt, Int32.le_iff_toInt_le, ← Int32.toInt_inj, Int32.toInt_add, Int32.toInt_sub, Int32.toInt_mul, Int32.toInt_neg, pq_NuO, pq_NuI, pq_NuJ, pq_NuR, pq_shr6, pq_shr7, pq_shr8, lqm1, lq0, lq1] at *; (try simp (disch := omega) only [pq_bm] at *); all_goals omega)))
  refine pq_aload_n F dJ7_fill_bad5a_0 rfl rfl ?_
  refine pq_alen F hb (by omega) rfl dJ7_fill_bad5a_1 (fun l1 u1 => ?_)
  skip
  refine pq_iload_n F dJ7_fill_bad5a_2 rfl rfl ?_
  refine pq_iload_n F dJ7_fill_bad5a_3 rfl rfl ?_
  have nq1 := nI_toInt (n := hN S b) (by omega)
  refine pq_callS (As := [_, _, _]) F (k_J7_rangeCheck_23922 l D cy _ _ _ ?_ _ ?_ ?_) ml_J7_13 (Nat.le_of_ble_eq_true rfl) ⟨Nat.le_of_ble_eq_true rfl, Nat.le_of_ble_eq_true rfl⟩ ⟨by decide, by decide⟩ dJ7_fill_bad5a_4 (fun v4 S4 w4 => ?_)
  · focus (simp only [vp_in_iff, Int32.lt_iff_toInt_lt, Int32.le_iff_toInt_le, ← Int32.toInt_inj, Int32.toInt_add, Int32.toInt_sub, Int32.toInt_mul, Int32.toInt_neg, pq_NuO, pq_NuI, pq_NuJ, pq_NuR, pq_shr6, pq_shr7, pq_shr8, lqm1, lq0, lq1] at *; (try simp (disch := omega) only [pq_bm] at *); all_goals omega)
  · focus (simp only [vp_in_iff, Int32.lt_iff_toInt_lt, Int32.le_iff_toInt_le, ← Int32.toInt_inj, Int32.toInt_add, Int32.toInt_sub, Int32.toInt_mul, Int32.toInt_neg, pq_NuO, pq_NuI, pq_NuJ, pq_NuR, pq_shr6, pq_shr7, pq_shr8, lqm1, lq0, lq1] at *; (try simp (disch := omega) only [pq_bm] at *); all_goals omega)
  · focus (simp only [vp_in_iff, Int32.lt_iff_toInt_lt, Int32.le_iff_toInt_le, ← Int32.toInt_inj, Int32.toInt_add, Int32.toInt_sub, Int32.toInt_mul, Int32.toInt_neg, pq_NuO, pq_NuI, pq_NuJ, pq_NuR, pq_shr6, pq_shr7, pq_shr8, lqm1, lq0, lq1] at *; (try simp (disch := omega) only [pq_bm] at *); all_goals omega)
  obtain ⟨rfl, u4⟩ := w4
  rw [u4]
  refine pq_iload_n F dJ7_fill_bad5a_7 rfl rfl ?_
  refine pq_istore F dJ7_fill_bad5a_8 (by decide) ?_
  exact pq_fgm [true, true, true, true, false, true] (L10  (hN S b + 1) _ _  (by first | exact ⟨_, rfl⟩ | exact ⟨_, pq_uJJ⟩ | exact ⟨_, pq_uJs⟩ | exact ⟨_, pq_uII⟩ | exact ⟨_, pq_uIs⟩) (by focus (simp only [vp_in_iff, Int32.lt_iff_toInt_lt, Int32.le_iff_toInt_le, ← Int32.toInt_inj, Int32.toInt_add, Int32.toInt_sub, Int32.toInt_mul, Int32.toInt_neg, pq_NuO, pq_NuI, pq_NuJ, pq_NuR, pq_shr6, pq_shr7, pq_shr8, lqm1, lq0, lq1] at *; (try simp (disch := omega) only [pq_bm] at *); all_goals omega)) (by focus (simp only [vp_in_iff, Int32.lt_iff_toInt_lt, Int32.le_iff_toInt_le, ← Int32.toInt_inj, Int32.toInt_add, Int32.toInt_sub, Int32.toInt_mul, Int32.toInt_neg, pq_NuO, pq_NuI, pq_NuJ, pq_NuR, pq_shr6, pq_shr7, pq_shr8, lqm1, lq0, lq1] at *; (try simp (disch := omega) only [pq_bm] at *); all_goals omega)) (by focus (simp only [vp_in_iff, Int32.lt_iff_toInt_lt, Int32.le_iff_toInt_le, ← Int32.toInt_inj, Int32.toInt_add, Int32.toInt_sub, Int32.toInt_mul, Int32.toInt_neg, pq_NuO, pq_NuI, pq_NuJ, pq_NuR, pq_shr6, pq_shr7, pq_shr8, lqm1, lq0, lq1] at *; (try simp (disch := omega) only [pq_bm] at *); all_goals omega)))

set_option maxHeartbeats 4000000 in
set_option maxRecDepth 100000 in
theorem k_J7_fill_53178 (l : Launch) (D : va_G) (cy : Nat → ClassId) (S : HS) (b : Nat) (hb : pq_R S b 166) (vv : Int32) (hvv0 : 0 ≤ vv.toInt) (hvv1 : vv.toInt ≤ 401) : pq_C l D cy yJ7_fill_53178 cJ7_fill_53178 4 (none) 1 0 0 S [.ref b, .int vv] (fun v S2 => v = none ∧ pq_Fr [(166, 0)] S S2) := by
  refine pq_start (by decide) (Nat.le_of_ble_eq_true rfl) ?_
  intro p e s m args below meth c A F hr hlk hnm hA
  have lqm1 : (-1 : Int32).toInt = -1 := rfl
  have lq0 : (0 : Int32).toInt = 0 := rfl
  have lq1 : (1 : Int32).toInt = 1 := rfl
  have L5 : ∀  (fu : Nat) (S1 : HS) (k : Int32) (n : Int32)  (hF : pq_Fr [(166, 0)] S S1) (hk0 : 0 ≤ k.toInt) (hn0 : n.toInt ≤ 1024), (1024 - k.toInt).toNat < fu → pq_At p l e (pq_rm 1 0 0) s m args below meth c (pq_Z below args s D cy S 0 0 (fun v S2 => v = none ∧ pq_Fr [(166, 0)] S S2)) D cy A 4 0 0 5 S1 [some (.ref b), some (.int vv), some (.int k), some (.int n)] [] := by
    intro  fu
    induction fu with
    | zero => intro S1 k n hF hk0 hn0 hm; exact absurd hm (Nat.not_lt_zero _)
    | succ fu ih =>
      intro S1 k n hF hk0 hn0 hm
      have hbL := hF.R hb (by first | decide | omega)
      refine pq_iload_n F dJ7_fill_53178_5 rfl rfl ?_
      refine pq_iload_n F dJ7_fill_53178_6 rfl rfl ?_
      refine pq_icmp_ge (tgt := 20) F dJ7_fill_53178_7 (by decide) (fun c7 => ?_) (fun c7 => ?_)
      · skip
        exact pq_vret F hr hlk hA (Nat.le_refl _) (Nat.le_refl _) (⟨rfl, hF⟩) dJ7_fill_53178_20
      · skip
        refine pq_aload_n F dJ7_fill_53178_10 rfl rfl ?_
        refine pq_iload_n F dJ7_fill_53178_11 rfl rfl ?_
        refine pq_iload_n F dJ7_fill_53178_12 rfl rfl ?_
        refine pq_iast F hbL (by decide) (by decide) rfl (fun n1_13 n2_13 => (by focus (simp only [vp_in_iff, Int32.lt_iff_toInt_lt, Int32.le_iff_toInt_le, ← Int32.toInt_inj, Int32.toInt_add, Int32.toInt_sub, Int32.toInt_mul, Int32.toInt_neg, pq_NuO, pq_NuI, pq_NuJ, pq_NuR, pq_shr6, pq_shr7, pq_shr8, lqm1, lq0, lq1] at *; (try simp (disch := omega) only [pq_bm] at *); all_goals omega))) (⟨(by focus (simp only [vp_in_iff, Int32.lt_iff_toInt_lt, Int32.le_iff_toInt_le, ← Int32.toInt_inj, Int32.toInt_add, Int32.toInt_sub, Int32.toInt_mul, Int32.toInt_neg, pq_NuO, pq_NuI, pq_NuJ, pq_NuR, pq_shr6, pq_shr7, pq_shr8, lqm1, lq0, lq1] at *; (try simp (disch := omega) only [pq_bm] at *); all_goals omega)), (by focus (simp only [vp_in_iff, Int32.lt_iff_toInt_lt, Int32.le_iff_toInt_le, ← Int32.toInt_inj, Int32.toInt_add, Int32.toInt_sub, Int32.toInt_mul, Int32.toInt_neg, pq_NuO, pq_NuI, pq_NuJ, pq_NuR, pq_shr6, pq_shr7, pq_shr8, lqm1, lq0, lq1] at *; (try simp (disch := omega) only [pq_bm] at *); all_goals omega))⟩) dJ7_fill_53178_13 ?_
        refine pq_iinc (v := 1) F dJ7_fill_53178_14 rfl (by decide) (by decide) ?_
        refine pq_goto (tgt := 5) F dJ7_fill_53178_17 (by decide) ?_
        exact pq_fgm [true, true, true, true] (ih _ _ _ (hF.uI hbL (by first | decide | exact List.mem_cons_self)) (by focus (simp only [vp_in_iff, Int32.lt_iff_toInt_lt, Int32.le_iff_toInt_le, ← Int32.toInt_inj, Int32.toInt_add, Int32.toInt_sub, Int32.toInt_mul, Int32.toInt_neg, pq_NuO, pq_NuI, pq_NuJ, pq_NuR, pq_shr6, pq_shr7, pq_shr8, lqm1, lq0, lq1] at *; (try simp (disch := omega) only [pq_bm] at *); all_goals omega)) (by focus (simp only [vp_in_iff, Int32.lt_iff_toInt_lt, Int32.le_iff_toInt_le, ← Int32.toInt_inj, Int32.toInt_add, Int32.toInt_sub, Int32.toInt_mul, Int32.toInt_neg, pq_NuO, pq_NuI, pq_NuJ, pq_NuR, pq_shr6, pq_shr7, pq_shr8, lqm1, lq0, lq1] at *; (try simp (disch := omega) only [pq_bm] at *); all_goals omega)) (by focus (simp only [vp_in_iff, Int32.lt_iff_toInt_lt, Int32.le_iff_toInt_le, ← Int32.toInt_inj, Int32.toInt_add, Int32.toInt_sub, Int32.toInt_mul, Int32.toInt_neg, pq_NuO, pq_NuI, pq_NuJ, pq_NuR, pq_shr6, pq_shr7, pq_shr8, lqm1, lq0, lq1] at *; (try simp (disch := omega) only [pq_bm] at *); all_goals omega)))
  refine pq_iconst (v := 0) F dJ7_fill_53178_0 (by decide) ?_
  refine pq_istore_n F dJ7_fill_53178_1 rfl (by decide) ?_
  refine pq_aload_n F dJ7_fill_53178_2 rfl rfl ?_
  refine pq_alen F hb (by decide) rfl dJ7_fill_53178_3 (fun l3 u3 => ?_)
  have nq3 := nI_toInt (n := hN _ b) (Nat.lt_of_le_of_lt u3 (by decide))
  refine pq_istore_n F dJ7_fill_53178_4 rfl (by decide) ?_
  exact pq_fgm [true, true, true, true] (L5  100000 _ _ _  pq_Fr.rf (by focus (simp only [vp_in_iff, Int32.lt_iff_toInt_lt, Int32.le_iff_toInt_le, ← Int32.toInt_inj, Int32.toInt_add, Int32.toInt_sub, Int32.toInt_mul, Int32.toInt_neg, pq_NuO, pq_NuI, pq_NuJ, pq_NuR, pq_shr6, pq_shr7, pq_shr8, lqm1, lq0, lq1] at *; (try simp (disch := omega) only [pq_bm] at *); all_goals omega)) (by focus (simp only [vp_in_iff, Int32.lt_iff_toInt_lt, Int32.le_iff_toInt_le, ← Int32.toInt_inj, Int32.toInt_add, Int32.toInt_sub, Int32.toInt_mul, Int32.toInt_neg, pq_NuO, pq_NuI, pq_NuJ, pq_NuR, pq_shr6, pq_shr7, pq_shr8, lqm1, lq0, lq1] at *; (try simp (disch := omega) only [pq_bm] at *); all_goals omega)) (by focus (simp only [vp_in_iff, Int32.lt_iff_toInt_lt, Int32.le_iff_toInt_le, ← Int32.toInt_inj, Int32.toInt_add, Int32.toInt_sub, Int32.toInt_mul, Int32.toInt_neg, pq_NuO, pq_NuI, pq_NuJ, pq_NuR, pq_shr6, pq_shr7, pq_shr8, lqm1, lq0, lq1] at *; (try simp (disch := omega) only [pq_bm] at *); all_goals omega)))

set_option maxHeartbeats 4000000 in
set_option maxRecDepth 100000 in
theorem k_J7_fill_fda19 (l : Launch) (D : va_G) (cy : Nat → ClassId) (S : HS) (b rb : Nat) (hb : pq_R S b rb) (kb0 : 120 ≤ rb) (kb1 : rb < 180) (lo : Int32) (hlo0 : 0 ≤ lo.toInt) (hi : Int32) (vv : Int32) (h1 : lo.toInt ≤ hi.toInt) (h2 : hi.toInt ≤ (hN S b : Int)) (hb9 : hN S b ≤ 1000000) (hv : (pq_al rb).2.2.1 ≤ vv.toInt ∧ vv.toInt ≤ (pq_al rb).2.2.2) : pq_C l D cy yJ7_fill_fda19 cJ7_fill_fda19 5 (none) 2 0 0 S [.ref b, .int lo, .int hi, .int vv] (fun v S2 => v = none ∧ ∃ f : Nat → Int32, S2 = pq_uI S b f) := by
  refine pq_start (by decide) (Nat.le_of_ble_eq_true rfl) ?_
  intro p e s m args below meth c A F hr hlk hnm hA
  have lqm1 : (-1 : Int32).toInt = -1 := rfl
  have lq0 : (0 : Int32).toInt = 0 := rfl
  have lq1 : (1 : Int32).toInt = 1 := rfl
  have L10 : ∀  (fu : Nat) (S1 : HS) (k : Int32)  (hF : ∃ f : Nat → Int32, S1 = pq_uI S b f) (hk0 : 0 ≤ k.toInt) (hk1 : k.toInt ≤ hi.toInt), (hi.toInt - k.toInt).toNat < fu → pq_At p l e (pq_rm 2 0 0) s m args below meth c (pq_Z below args s D cy S 0 0 (fun v S2 => v = none ∧ ∃ f : Nat → Int32, S2 = pq_uI S b f)) D cy A 5 0 0 10 S1 [some (.ref b), some (.int lo), some (.int hi), some (.int vv), some (.int k)] [] := by
    intro  fu
    induction fu with
    | zero => intro S1 k hF hk0 hk1 hm; exact absurd hm (Nat.not_lt_zero _)
    | succ fu ih =>
      intro S1 k hF hk0 hk1 hm
      obtain ⟨f0, rfl⟩ := hF
      have hbL := hb
      refine pq_iload F dJ7_fill_fda19_10 rfl ?_
      refine pq_iload_n F dJ7_fill_fda19_12 rfl rfl ?_
      refine pq_icmp_ge (tgt := 27) F dJ7_fill_fda19_13 (by decide) (fun c13 => ?_) (fun c13 => ?_)
      · skip
        exact pq_vret F hr hlk hA (Nat.le_refl _) (Nat.le_refl _) (⟨rfl, (by first | exact ⟨_, rfl⟩ | exact ⟨_, pq_uJJ⟩ | exact ⟨_, pq_uJs⟩ | exact ⟨_, pq_uII⟩ | exact ⟨_, pq_uIs⟩)⟩) dJ7_fill_fda19_27
      · skip
        refine pq_aload_n F dJ7_fill_fda19_16 rfl rfl ?_
        refine pq_iload F dJ7_fill_fda19_17 rfl ?_
        refine pq_iload_n F dJ7_fill_fda19_19 rfl rfl ?_
        refine pq_iast F hbL kb0 kb1 rfl (fun n1_20 n2_20 => (by focus ((try clear hv); simp only [vp_in_iff, Int32.lt_iff_toInt_lt, Int32.le_iff_toInt_le, ← Int32.toInt_inj, Int32.toInt_add, Int32.toInt_sub, Int32.toInt_mul, Int32.toInt_neg, pq_NuO, pq_NuI, pq_NuJ, pq_NuR, pq_shr6, pq_shr7, pq_shr8, lqm1, lq0, lq1] at *; (try simp (disch := omega) only [pq_bm] at *); all_goals omega))) (hv) dJ7_fill_fda19_20 ?_
        refine pq_iinc (v := 1) F dJ7_fill_fda19_21 rfl (by decide) (by decide) ?_
        refine pq_goto (tgt := 10) F dJ7_fill_fda19_24 (by decide) ?_
        exact pq_fgm [true, true, true, true, true] (ih _ _ (by first | exact ⟨_, rfl⟩ | exact ⟨_, pq_uJJ⟩ | exact ⟨_, pq_uJs⟩ | exact ⟨_, pq_uII⟩ | exact ⟨_, pq_uIs⟩) (by focus ((try clear hv); simp only [vp_in_iff, Int32.lt_iff_toInt_lt, Int32.le_iff_toInt_le, ← Int32.toInt_inj, Int32.toInt_add, Int32.toInt_sub, Int32.toInt_mul, Int32.toInt_neg, pq_NuO, pq_NuI, pq_NuJ, pq_NuR, pq_shr6, pq_shr7, pq_shr8, lqm1, lq0, lq1] at *; (try simp (disch := omega) only [pq_bm] at *); all_goals omega)) (by focus ((try clear hv); simp only [vp_in_iff, Int32.lt_iff_toInt_lt, Int32.le_iff_toInt_le, ← Int32.toInt_inj, Int32.toInt_add, Int32.toInt_sub, Int32.toInt_mul, Int32.toInt_neg, pq_NuO, pq_NuI, pq_NuJ, pq_NuR, pq_shr6, pq_shr7, pq_shr8, lqm1, lq0, lq1] at *; (try simp (disch := omega) only [pq_bm] at *); all_goals omega)) (by focus ((try clear hv); simp only [vp_in_iff, Int32.lt_iff_toInt_lt, Int32.le_iff_toInt_le, ← Int32.toInt_inj, Int32.toInt_add, Int32.toInt_sub, Int32.toInt_mul, Int32.toInt_neg, pq_NuO, pq_NuI, pq_NuJ, pq_NuR, pq_shr6, pq_shr7, pq_shr8, lqm1, lq0, lq1] at *; (try simp (disch := omega) only [pq_bm] at *); all_goals omega)))
  refine pq_aload_n F dJ7_fill_fda19_0 rfl rfl ?_
  refine pq_alen F hb (by omega) rfl dJ7_fill_fda19_1 (fun l1 u1 => ?_)
  skip
  refine pq_iload_n F dJ7_fill_fda19_2 rfl rfl ?_
  refine pq_iload_n F dJ7_fill_fda19_3 rfl rfl ?_
  have nq1 := nI_toInt (n := hN S b) (by omega)
  refine pq_callS (As := [_, _, _]) F (k_J7_rangeCheck_23922 l D cy _ _ _ ?_ _ ?_ ?_) ml_J7_13 (Nat.le_of_ble_eq_true rfl) ⟨Nat.le_of_ble_eq_true rfl, Nat.le_of_ble_eq_true rfl⟩ ⟨by decide, by decide⟩ dJ7_fill_fda19_4 (fun v4 S4 w4 => ?_)
  · focus ((try clear hv); simp only [vp_in_iff, Int32.lt_iff_toInt_lt, Int32.le_iff_toInt_le, ← Int32.toInt_inj, Int32.toInt_add, Int32.toInt_sub, Int32.toInt_mul, Int32.toInt_neg, pq_NuO, pq_NuI, pq_NuJ, pq_NuR, pq_shr6, pq_shr7, pq_shr8, lqm1, lq0, lq1] at *; (try simp (disch := omega) only [pq_bm] at *); all_goals omega)
  · focus ((try clear hv); simp only [vp_in_iff, Int32.lt_iff_toInt_lt, Int32.le_iff_toInt_le, ← Int32.toInt_inj, Int32.toInt_add, Int32.toInt_sub, Int32.toInt_mul, Int32.toInt_neg, pq_NuO, pq_NuI, pq_NuJ, pq_NuR, pq_shr6, pq_shr7, pq_shr8, lqm1, lq0, lq1] at *; (try simp (disch := omega) only [pq_bm] at *); all_goals omega)
  · focus ((try clear hv); simp only [vp_in_iff, Int32.lt_iff_toInt_lt, Int32.le_iff_toInt_le, ← Int32.toInt_inj, Int32.toInt_add, Int32.toInt_sub, Int32.toInt_mul, Int32.toInt_neg, pq_NuO, pq_NuI, pq_NuJ, pq_NuR, pq_shr6, pq_shr7, pq_shr8, lqm1, lq0, lq1] at *; (try simp (disch := omega) only [pq_bm] at *); all_goals omega)
  obtain ⟨rfl, u4⟩ := w4
  rw [u4]
  refine pq_iload_n F dJ7_fill_fda19_7 rfl rfl ?_
  refine pq_istore F dJ7_fill_fda19_8 (by decide) ?_
  exact pq_fgm [true, true, true, true, true] (L10  (hN S b + 1) _ _  (by first | exact ⟨_, rfl⟩ | exact ⟨_, pq_uJJ⟩ | exact ⟨_, pq_uJs⟩ | exact ⟨_, pq_uII⟩ | exact ⟨_, pq_uIs⟩) (by focus ((try clear hv); simp only [vp_in_iff, Int32.lt_iff_toInt_lt, Int32.le_iff_toInt_le, ← Int32.toInt_inj, Int32.toInt_add, Int32.toInt_sub, Int32.toInt_mul, Int32.toInt_neg, pq_NuO, pq_NuI, pq_NuJ, pq_NuR, pq_shr6, pq_shr7, pq_shr8, lqm1, lq0, lq1] at *; (try simp (disch := omega) only [pq_bm] at *); all_goals omega)) (by focus ((try clear hv); simp only [vp_in_iff, Int32.lt_iff_toInt_lt, Int32.le_iff_toInt_le, ← Int32.toInt_inj, Int32.toInt_add, Int32.toInt_sub, Int32.toInt_mul, Int32.toInt_neg, pq_NuO, pq_NuI, pq_NuJ, pq_NuR, pq_shr6, pq_shr7, pq_shr8, lqm1, lq0, lq1] at *; (try simp (disch := omega) only [pq_bm] at *); all_goals omega)) (by focus ((try clear hv); simp only [vp_in_iff, Int32.lt_iff_toInt_lt, Int32.le_iff_toInt_le, ← Int32.toInt_inj, Int32.toInt_add, Int32.toInt_sub, Int32.toInt_mul, Int32.toInt_neg, pq_NuO, pq_NuI, pq_NuJ, pq_NuR, pq_shr6, pq_shr7, pq_shr8, lqm1, lq0, lq1] at *; (try simp (disch := omega) only [pq_bm] at *); all_goals omega)))

set_option maxHeartbeats 4000000 in
set_option maxRecDepth 100000 in
theorem k_X10_isPattern (l : Launch) (D : va_G) (cy : Nat → ClassId) (S : HS) (w : Int32) : pq_C l D cy yX10_isPattern cX10_isPattern 1 (some .boolean) 1 0 0 S [.int w] (fun v S2 => S2 = S ∧ ∃ x : Int32, v = some (.int x) ∧ 0 ≤ x.toInt ∧ x.toInt ≤ 1 ∧ (x = 1 ↔ (w = 0 ∨ w = 1))) := by
  refine pq_start (by decide) (Nat.le_of_ble_eq_true rfl) ?_
  intro p e s m args below meth c A F hr hlk hnm hA
  have lqm1 : (-1 : Int32).toInt = -1 := rfl
  have lq0 : (0 : Int32).toInt = 0 := rfl
  have lq1 : (1 : Int32).toInt = 1 := rfl
  refine pq_iload_n F dX10_isPattern_0 rfl rfl ?_
  refine pq_if_eq (tgt := 9) F dX10_isPattern_1 (by decide) (fun c1 => ?_) (fun c1 => ?_)
  · skip
    refine pq_iconst (v := 1) F dX10_isPattern_9 (by decide) ?_
    refine pq_goto (tgt := 14) F dX10_isPattern_10 (by decide) ?_
    exact pq_zret F hr hlk hA rfl (Nat.le_refl _) (Nat.le_refl _) (⟨rfl, 1, rfl, (by focus (simp only [vp_in_iff, Int32.lt_iff_toInt_lt, Int32.le_iff_toInt_le, ← Int32.toInt_inj, Int32.toInt_add, Int32.toInt_sub, Int32.toInt_mul, Int32.toInt_neg, pq_NuO, pq_NuI, pq_NuJ, pq_NuR, pq_shr6, pq_shr7, pq_shr8, lqm1, lq0, lq1] at *; (try simp (disch := omega) only [pq_bm] at *); all_goals omega)), (by focus (simp only [vp_in_iff, Int32.lt_iff_toInt_lt, Int32.le_iff_toInt_le, ← Int32.toInt_inj, Int32.toInt_add, Int32.toInt_sub, Int32.toInt_mul, Int32.toInt_neg, pq_NuO, pq_NuI, pq_NuJ, pq_NuR, pq_shr6, pq_shr7, pq_shr8, lqm1, lq0, lq1] at *; (try simp (disch := omega) only [pq_bm] at *); all_goals omega)), ⟨fun _ => Or.inl c1, fun _ => rfl⟩⟩) dX10_isPattern_14
  · skip
    refine pq_iload_n F dX10_isPattern_4 rfl rfl ?_
    refine pq_iconst (v := 1) F dX10_isPattern_5 (by decide) ?_
    refine pq_icmp_ne (tgt := 13) F dX10_isPattern_6 (by decide) (fun c6 => ?_) (fun c6 => ?_)
    · skip
      refine pq_iconst (v := 0) F dX10_isPattern_13 (by decide) ?_
      exact pq_zret F hr hlk hA rfl (Nat.le_refl _) (Nat.le_refl _) (⟨rfl, 0, rfl, (by focus (simp only [vp_in_iff, Int32.lt_iff_toInt_lt, Int32.le_iff_toInt_le, ← Int32.toInt_inj, Int32.toInt_add, Int32.toInt_sub, Int32.toInt_mul, Int32.toInt_neg, pq_NuO, pq_NuI, pq_NuJ, pq_NuR, pq_shr6, pq_shr7, pq_shr8, lqm1, lq0, lq1] at *; (try simp (disch := omega) only [pq_bm] at *); all_goals omega)), (by focus (simp only [vp_in_iff, Int32.lt_iff_toInt_lt, Int32.le_iff_toInt_le, ← Int32.toInt_inj, Int32.toInt_add, Int32.toInt_sub, Int32.toInt_mul, Int32.toInt_neg, pq_NuO, pq_NuI, pq_NuJ, pq_NuR, pq_shr6, pq_shr7, pq_shr8, lqm1, lq0, lq1] at *; (try simp (disch := omega) only [pq_bm] at *); all_goals omega)), ⟨fun z => absurd z (by decide), fun z => (by rcases z with z | z; exact absurd z c1; exact absurd z c6)⟩⟩) dX10_isPattern_14
    · skip
      refine pq_iconst (v := 1) F dX10_isPattern_9 (by decide) ?_
      refine pq_goto (tgt := 14) F dX10_isPattern_10 (by decide) ?_
      exact pq_zret F hr hlk hA rfl (Nat.le_refl _) (Nat.le_refl _) (⟨rfl, 1, rfl, (by focus (simp only [vp_in_iff, Int32.lt_iff_toInt_lt, Int32.le_iff_toInt_le, ← Int32.toInt_inj, Int32.toInt_add, Int32.toInt_sub, Int32.toInt_mul, Int32.toInt_neg, pq_NuO, pq_NuI, pq_NuJ, pq_NuR, pq_shr6, pq_shr7, pq_shr8, lqm1, lq0, lq1] at *; (try simp (disch := omega) only [pq_bm] at *); all_goals omega)), (by focus (simp only [vp_in_iff, Int32.lt_iff_toInt_lt, Int32.le_iff_toInt_le, ← Int32.toInt_inj, Int32.toInt_add, Int32.toInt_sub, Int32.toInt_mul, Int32.toInt_neg, pq_NuO, pq_NuI, pq_NuJ, pq_NuR, pq_shr6, pq_shr7, pq_shr8, lqm1, lq0, lq1] at *; (try simp (disch := omega) only [pq_bm] at *); all_goals omega)), ⟨fun _ => Or.inr c6, fun _ => rfl⟩⟩) dX10_isPattern_14

set_option maxHeartbeats 4000000 in
set_option maxRecDepth 100000 in
theorem k_X10_hasBit (l : Launch) (D : va_G) (cy : Nat → ClassId) (S : HS) (b rb : Nat) (hb : pq_R S b rb) (kb0 : 180 ≤ rb) (kb1 : rb < 200) (lo : Int32) (hlo0 : 0 ≤ lo.toInt) (bit : Int32) (hbit0 : 0 ≤ bit.toInt) (h1 : lo.toInt + bit.toInt / 64 < (hN S b : Int)) (h2 : hN S b ≤ 1000000) : pq_C l D cy yX10_hasBit cX10_hasBit 3 (some .boolean) 1 0 0 S [.ref b, .int lo, .int bit] (fun v S2 => S2 = S ∧ ∃ x : Int32, v = some (.int x) ∧ 0 ≤ x.toInt ∧ x.toInt ≤ 1) := by
  refine pq_start (by decide) (Nat.le_of_ble_eq_true rfl) ?_
  intro p e s m args below meth c A F hr hlk hnm hA
  have lqm1 : (-1 : Int32).toInt = -1 := rfl
  have lq0 : (0 : Int32).toInt = 0 := rfl
  have lq1 : (1 : Int32).toInt = 1 := rfl
  have lq6 : (6 : Int32).toInt = 6 := rfl
  have lq63 : (63 : Int32).toInt = 63 := rfl
  refine pq_aload_n F dX10_hasBit_0 rfl rfl ?_
  refine pq_iload_n F dX10_hasBit_1 rfl rfl ?_
  refine pq_iload_n F dX10_hasBit_2 rfl rfl ?_
  refine pq_bipush (v := 6) F dX10_hasBit_3 (by decide) ?_
  refine pq_ishr F dX10_hasBit_5 ?_
  refine pq_iadd F dX10_hasBit_6 ?_
  refine pq_lald F hb kb0 kb1 rfl (fun n1_7 n2_7 => (by focus (simp only [vp_in_iff, Int32.lt_iff_toInt_lt, Int32.le_iff_toInt_le, ← Int32.toInt_inj, Int32.toInt_add, Int32.toInt_sub, Int32.toInt_mul, Int32.toInt_neg, pq_NuO, pq_NuI, pq_NuJ, pq_NuR, pq_shr6, pq_shr7, pq_shr8, lqm1, lq0, lq1, lq6, lq63] at *; (try simp (disch := omega) only [pq_bm] at *); all_goals omega))) dX10_hasBit_7 (fun x7 e7 => ?_)
  refine pq_iload_n F dX10_hasBit_8 rfl rfl ?_
  refine pq_bipush (v := 63) F dX10_hasBit_9 (by decide) ?_
  refine pq_iand F dX10_hasBit_11 ?_
  refine pq_lushr F dX10_hasBit_12 ?_
  refine pq_lconst (v := 1) F dX10_hasBit_13 (by decide) ?_
  refine pq_land F dX10_hasBit_14 ?_
  refine pq_lconst (v := 0) F dX10_hasBit_15 (by decide) ?_
  refine pq_lcmp F dX10_hasBit_16 ?_
  refine pq_if_eq (tgt := 24) F dX10_hasBit_17 (by decide) (fun c17 => ?_) (fun c17 => ?_)
  · skip
    refine pq_iconst (v := 0) F dX10_hasBit_24 (by decide) ?_
    exact pq_zret F hr hlk hA rfl (Nat.le_refl _) (Nat.le_refl _) (⟨rfl, _, rfl, (by focus (simp only [vp_in_iff, Int32.lt_iff_toInt_lt, Int32.le_iff_toInt_le, ← Int32.toInt_inj, Int32.toInt_add, Int32.toInt_sub, Int32.toInt_mul, Int32.toInt_neg, pq_NuO, pq_NuI, pq_NuJ, pq_NuR, pq_shr6, pq_shr7, pq_shr8, lqm1, lq0, lq1, lq6, lq63] at *; (try simp (disch := omega) only [pq_bm] at *); all_goals omega)), (by focus (simp only [vp_in_iff, Int32.lt_iff_toInt_lt, Int32.le_iff_toInt_le, ← Int32.toInt_inj, Int32.toInt_add, Int32.toInt_sub, Int32.toInt_mul, Int32.toInt_neg, pq_NuO, pq_NuI, pq_NuJ, pq_NuR, pq_shr6, pq_shr7, pq_shr8, lqm1, lq0, lq1, lq6, lq63] at *; (try simp (disch := omega) only [pq_bm] at *); all_goals omega))⟩) dX10_hasBit_25
  · skip
    refine pq_iconst (v := 1) F dX10_hasBit_20 (by decide) ?_
    refine pq_goto (tgt := 25) F dX10_hasBit_21 (by decide) ?_
    exact pq_zret F hr hlk hA rfl (Nat.le_refl _) (Nat.le_refl _) (⟨rfl, _, rfl, (by focus (simp only [vp_in_iff, Int32.lt_iff_toInt_lt, Int32.le_iff_toInt_le, ← Int32.toInt_inj, Int32.toInt_add, Int32.toInt_sub, Int32.toInt_mul, Int32.toInt_neg, pq_NuO, pq_NuI, pq_NuJ, pq_NuR, pq_shr6, pq_shr7, pq_shr8, lqm1, lq0, lq1, lq6, lq63] at *; (try simp (disch := omega) only [pq_bm] at *); all_goals omega)), (by focus (simp only [vp_in_iff, Int32.lt_iff_toInt_lt, Int32.le_iff_toInt_le, ← Int32.toInt_inj, Int32.toInt_add, Int32.toInt_sub, Int32.toInt_mul, Int32.toInt_neg, pq_NuO, pq_NuI, pq_NuJ, pq_NuR, pq_shr6, pq_shr7, pq_shr8, lqm1, lq0, lq1, lq6, lq63] at *; (try simp (disch := omega) only [pq_bm] at *); all_goals omega))⟩) dX10_hasBit_25

set_option maxHeartbeats 4000000 in
set_option maxRecDepth 100000 in
theorem k_X10_addBit (l : Launch) (D : va_G) (cy : Nat → ClassId) (S : HS) (b rb : Nat) (hb : pq_R S b rb) (kb0 : 180 ≤ rb) (kb1 : rb < 200) (lo : Int32) (hlo0 : 0 ≤ lo.toInt) (bit : Int32) (hbit0 : 0 ≤ bit.toInt) (h1 : lo.toInt + bit.toInt / 64 < (hN S b : Int)) (h2 : hN S b ≤ 1000000) : pq_C l D cy yX10_addBit cX10_addBit 3 (none) 1 0 0 S [.ref b, .int lo, .int bit] (fun v S2 => v = none ∧ ∃ f : Nat → Int64, S2 = pq_uJ S b f) := by
  refine pq_start (by decide) (Nat.le_of_ble_eq_true rfl) ?_
  intro p e s m args below meth c A F hr hlk hnm hA
  have lqm1 : (-1 : Int32).toInt = -1 := rfl
  have lq0 : (0 : Int32).toInt = 0 := rfl
  have lq1 : (1 : Int32).toInt = 1 := rfl
  have lq6 : (6 : Int32).toInt = 6 := rfl
  have lq63 : (63 : Int32).toInt = 63 := rfl
  refine pq_aload_n F dX10_addBit_0 rfl rfl ?_
  refine pq_iload_n F dX10_addBit_1 rfl rfl ?_
  refine pq_iload_n F dX10_addBit_2 rfl rfl ?_
  refine pq_bipush (v := 6) F dX10_addBit_3 (by decide) ?_
  refine pq_ishr F dX10_addBit_5 ?_
  refine pq_iadd F dX10_addBit_6 ?_
  refine pq_dup2 F dX10_addBit_7 rfl rfl ?_
  refine pq_lald F hb kb0 kb1 rfl (fun n1_8 n2_8 => (by focus (simp only [vp_in_iff, Int32.lt_iff_toInt_lt, Int32.le_iff_toInt_le, ← Int32.toInt_inj, Int32.toInt_add, Int32.toInt_sub, Int32.toInt_mul, Int32.toInt_neg, pq_NuO, pq_NuI, pq_NuJ, pq_NuR, pq_shr6, pq_shr7, pq_shr8, lqm1, lq0, lq1, lq6, lq63] at *; (try simp (disch := omega) only [pq_bm] at *); all_goals omega))) dX10_addBit_8 (fun x8 e8 => ?_)
  refine pq_lconst (v := 1) F dX10_addBit_9 (by decide) ?_
  refine pq_iload_n F dX10_addBit_10 rfl rfl ?_
  refine pq_bipush (v := 63) F dX10_addBit_11 (by decide) ?_
  refine pq_iand F dX10_addBit_13 ?_
  refine pq_lshl F dX10_addBit_14 ?_
  refine pq_lor F dX10_addBit_15 ?_
  refine pq_last F hb kb0 kb1 rfl (fun n1_16 n2_16 => (by focus (simp only [vp_in_iff, Int32.lt_iff_toInt_lt, Int32.le_iff_toInt_le, ← Int32.toInt_inj, Int32.toInt_add, Int32.toInt_sub, Int32.toInt_mul, Int32.toInt_neg, pq_NuO, pq_NuI, pq_NuJ, pq_NuR, pq_shr6, pq_shr7, pq_shr8, lqm1, lq0, lq1, lq6, lq63] at *; (try simp (disch := omega) only [pq_bm] at *); all_goals omega))) dX10_addBit_16 ?_
  exact pq_vret F hr hlk hA (Nat.le_refl _) (Nat.le_refl _) (⟨rfl, (by first | exact ⟨_, rfl⟩ | exact ⟨_, pq_uJJ⟩ | exact ⟨_, pq_uJs⟩ | exact ⟨_, pq_uII⟩ | exact ⟨_, pq_uIs⟩)⟩) dX10_addBit_17

set_option maxHeartbeats 4000000 in
set_option maxRecDepth 100000 in
theorem k_X10_addAll (l : Launch) (D : va_G) (cy : Nat → ClassId) (S : HS) (b rb : Nat) (hb : pq_R S b rb) (kb0 : 180 ≤ rb) (kb1 : rb < 200) (lo : Int32) (hlo0 : 0 ≤ lo.toInt) (w rw : Nat) (hw : pq_R S w rw) (kw0 : 180 ≤ rw) (kw1 : rw < 200) (h1 : lo.toInt + 7 ≤ (hN S b : Int)) (h2 : hN S b ≤ 1000000) (h3 : 7 ≤ hN S w) : pq_C l D cy yX10_addAll cX10_addAll 4 (none) 1 0 0 S [.ref b, .int lo, .ref w] (fun v S2 => v = none ∧ ∃ f : Nat → Int64, S2 = pq_uJ S b f) := by
  refine pq_start (by decide) (Nat.le_of_ble_eq_true rfl) ?_
  intro p e s m args below meth c A F hr hlk hnm hA
  have lqm1 : (-1 : Int32).toInt = -1 := rfl
  have lq0 : (0 : Int32).toInt = 0 := rfl
  have lq1 : (1 : Int32).toInt = 1 := rfl
  have lq7 : (7 : Int32).toInt = 7 := rfl
  have L2 : ∀  (fu : Nat) (S1 : HS) (k : Int32)  (hF : ∃ f : Nat → Int64, S1 = pq_uJ S b f) (hk0 : 0 ≤ k.toInt) (hk1 : k.toInt ≤ 7), (7 - k.toInt).toNat < fu → pq_At p l e (pq_rm 1 0 0) s m args below meth c (pq_Z below args s D cy S 0 0 (fun v S2 => v = none ∧ ∃ f : Nat → Int64, S2 = pq_uJ S b f)) D cy A 4 0 0 2 S1 [some (.ref b), some (.int lo), some (.ref w), some (.int k)] [] := by
    intro  fu
    induction fu with
    | zero => intro S1 k hF hk0 hk1 hm; exact absurd hm (Nat.not_lt_zero _)
    | succ fu ih =>
      intro S1 k hF hk0 hk1 hm
      obtain ⟨f0, rfl⟩ := hF
      have hbL := hb
      have hwL := hw
      refine pq_iload_n F dX10_addAll_2 rfl rfl ?_
      refine pq_bipush (v := 7) F dX10_addAll_3 (by decide) ?_
      refine pq_icmp_ge (tgt := 25) F dX10_addAll_5 (by decide) (fun c5 => ?_) (fun c5 => ?_)
      · skip
        exact pq_vret F hr hlk hA (Nat.le_refl _) (Nat.le_refl _) (⟨rfl, (by first | exact ⟨_, rfl⟩ | exact ⟨_, pq_uJJ⟩ | exact ⟨_, pq_uJs⟩ | exact ⟨_, pq_uII⟩ | exact ⟨_, pq_uIs⟩)⟩) dX10_addAll_25
      · skip
        refine pq_aload_n F dX10_addAll_8 rfl rfl ?_
        refine pq_iload_n F dX10_addAll_9 rfl rfl ?_
        refine pq_iload_n F dX10_addAll_10 rfl rfl ?_
        refine pq_iadd F dX10_addAll_11 ?_
        refine pq_dup2 F dX10_addAll_12 rfl rfl ?_
        refine pq_lald F hbL kb0 kb1 rfl (fun n1_13 n2_13 => (by focus (simp only [vp_in_iff, Int32.lt_iff_toInt_lt, Int32.le_iff_toInt_le, ← Int32.toInt_inj, Int32.toInt_add, Int32.toInt_sub, Int32.toInt_mul, Int32.toInt_neg, pq_NuO, pq_NuI, pq_NuJ, pq_NuR, pq_shr6, pq_shr7, pq_shr8, lqm1, lq0, lq1, lq7] at *; (try simp (disch := omega) only [pq_bm] at *); all_goals omega))) dX10_addAll_13 (fun x13 e13 => ?_)
        refine pq_aload_n F dX10_addAll_14 rfl rfl ?_
        refine pq_iload_n F dX10_addAll_15 rfl rfl ?_
        refine pq_lald F hwL kw0 kw1 rfl (fun n1_16 n2_16 => (by focus (simp only [vp_in_iff, Int32.lt_iff_toInt_lt, Int32.le_iff_toInt_le, ← Int32.toInt_inj, Int32.toInt_add, Int32.toInt_sub, Int32.toInt_mul, Int32.toInt_neg, pq_NuO, pq_NuI, pq_NuJ, pq_NuR, pq_shr6, pq_shr7, pq_shr8, lqm1, lq0, lq1, lq7] at *; (try simp (disch := omega) only [pq_bm] at *); all_goals omega))) dX10_addAll_16 (fun x16 e16 => ?_)
        refine pq_lor F dX10_addAll_17 ?_
        refine pq_last F hbL kb0 kb1 rfl (fun n1_18 n2_18 => (by focus (simp only [vp_in_iff, Int32.lt_iff_toInt_lt, Int32.le_iff_toInt_le, ← Int32.toInt_inj, Int32.toInt_add, Int32.toInt_sub, Int32.toInt_mul, Int32.toInt_neg, pq_NuO, pq_NuI, pq_NuJ, pq_NuR, pq_shr6, pq_shr7, pq_shr8, lqm1, lq0, lq1, lq7] at *; (try simp (disch := omega) only [pq_bm] at *); all_goals omega))) dX10_addAll_18 ?_
        refine pq_iinc (v := 1) F dX10_addAll_19 rfl (by decide) (by decide) ?_
        refine pq_goto (tgt := 2) F dX10_addAll_22 (by decide) ?_
        exact pq_fgm [true, true, true, true] (ih _ _ (by first | exact ⟨_, rfl⟩ | exact ⟨_, pq_uJJ⟩ | exact ⟨_, pq_uJs⟩ | exact ⟨_, pq_uII⟩ | exact ⟨_, pq_uIs⟩) (by focus (simp only [vp_in_iff, Int32.lt_iff_toInt_lt, Int32.le_iff_toInt_le, ← Int32.toInt_inj, Int32.toInt_add, Int32.toInt_sub, Int32.toInt_mul, Int32.toInt_neg, pq_NuO, pq_NuI, pq_NuJ, pq_NuR, pq_shr6, pq_shr7, pq_shr8, lqm1, lq0, lq1, lq7] at *; (try simp (disch := omega) only [pq_bm] at *); all_goals omega)) (by focus (simp only [vp_in_iff, Int32.lt_iff_toInt_lt, Int32.le_iff_toInt_le, ← Int32.toInt_inj, Int32.toInt_add, Int32.toInt_sub, Int32.toInt_mul, Int32.toInt_neg, pq_NuO, pq_NuI, pq_NuJ, pq_NuR, pq_shr6, pq_shr7, pq_shr8, lqm1, lq0, lq1, lq7] at *; (try simp (disch := omega) only [pq_bm] at *); all_goals omega)) (by focus (simp only [vp_in_iff, Int32.lt_iff_toInt_lt, Int32.le_iff_toInt_le, ← Int32.toInt_inj, Int32.toInt_add, Int32.toInt_sub, Int32.toInt_mul, Int32.toInt_neg, pq_NuO, pq_NuI, pq_NuJ, pq_NuR, pq_shr6, pq_shr7, pq_shr8, lqm1, lq0, lq1, lq7] at *; (try simp (disch := omega) only [pq_bm] at *); all_goals omega)))
  refine pq_iconst (v := 0) F dX10_addAll_0 (by decide) ?_
  refine pq_istore_n F dX10_addAll_1 rfl (by decide) ?_
  exact pq_fgm [true, true, true, true] (L2  100000 _ _  (by first | exact ⟨_, rfl⟩ | exact ⟨_, pq_uJJ⟩ | exact ⟨_, pq_uJs⟩ | exact ⟨_, pq_uII⟩ | exact ⟨_, pq_uIs⟩) (by focus (simp only [vp_in_iff, Int32.lt_iff_toInt_lt, Int32.le_iff_toInt_le, ← Int32.toInt_inj, Int32.toInt_add, Int32.toInt_sub, Int32.toInt_mul, Int32.toInt_neg, pq_NuO, pq_NuI, pq_NuJ, pq_NuR, pq_shr6, pq_shr7, pq_shr8, lqm1, lq0, lq1, lq7] at *; (try simp (disch := omega) only [pq_bm] at *); all_goals omega)) (by focus (simp only [vp_in_iff, Int32.lt_iff_toInt_lt, Int32.le_iff_toInt_le, ← Int32.toInt_inj, Int32.toInt_add, Int32.toInt_sub, Int32.toInt_mul, Int32.toInt_neg, pq_NuO, pq_NuI, pq_NuJ, pq_NuR, pq_shr6, pq_shr7, pq_shr8, lqm1, lq0, lq1, lq7] at *; (try simp (disch := omega) only [pq_bm] at *); all_goals omega)) (by focus (simp only [vp_in_iff, Int32.lt_iff_toInt_lt, Int32.le_iff_toInt_le, ← Int32.toInt_inj, Int32.toInt_add, Int32.toInt_sub, Int32.toInt_mul, Int32.toInt_neg, pq_NuO, pq_NuI, pq_NuJ, pq_NuR, pq_shr6, pq_shr7, pq_shr8, lqm1, lq0, lq1, lq7] at *; (try simp (disch := omega) only [pq_bm] at *); all_goals omega)))

set_option maxHeartbeats 4000000 in
set_option maxRecDepth 100000 in
theorem k_X10_sameRow (l : Launch) (D : va_G) (cy : Nat → ClassId) (S : HS) (b rb : Nat) (hb : pq_R S b rb) (kb0 : 180 ≤ rb) (kb1 : rb < 200) (lo : Int32) (hlo0 : 0 ≤ lo.toInt) (w rw : Nat) (hw : pq_R S w rw) (kw0 : 180 ≤ rw) (kw1 : rw < 200) (hi : Int32) (hhi0 : 0 ≤ hi.toInt) (h1 : lo.toInt + 7 ≤ (hN S b : Int)) (h2 : hN S b ≤ 1000000) (h3 : hi.toInt + 7 ≤ (hN S w : Int)) (h4 : hN S w ≤ 1000000) : pq_C l D cy yX10_sameRow cX10_sameRow 5 (some .boolean) 1 0 0 S [.ref b, .int lo, .ref w, .int hi] (fun v S2 => S2 = S ∧ ∃ x : Int32, v = some (.int x) ∧ 0 ≤ x.toInt ∧ x.toInt ≤ 1 ∧ ((∀ i, i < hN S b → hJ S b i = 0) → (∀ i, i < hN S w → hJ S w i = 0) → x = 1)) := by
  refine pq_start (by decide) (Nat.le_of_ble_eq_true rfl) ?_
  intro p e s m args below meth c A F hr hlk hnm hA
  have lqm1 : (-1 : Int32).toInt = -1 := rfl
  have lq0 : (0 : Int32).toInt = 0 := rfl
  have lq1 : (1 : Int32).toInt = 1 := rfl
  have lq7 : (7 : Int32).toInt = 7 := rfl
  have L3 : ∀  (fu : Nat)  (k : Int32)  (hk0 : 0 ≤ k.toInt) (hk1 : k.toInt ≤ 7), (7 - k.toInt).toNat < fu → pq_At p l e (pq_rm 1 0 0) s m args below meth c (pq_Z below args s D cy S 0 0 (fun v S2 => S2 = S ∧ ∃ x : Int32, v = some (.int x) ∧ 0 ≤ x.toInt ∧ x.toInt ≤ 1 ∧ ((∀ i, i < hN S b → hJ S b i = 0) → (∀ i, i < hN S w → hJ S w i = 0) → x = 1))) D cy A 5 0 0 3 S [some (.ref b), some (.int lo), some (.ref w), some (.int hi), some (.int k)] [] := by
    intro  fu
    induction fu with
    | zero => intro k hk0 hk1 hm; exact absurd hm (Nat.not_lt_zero _)
    | succ fu ih =>
      intro k hk0 hk1 hm
      refine pq_iload F dX10_sameRow_3 rfl ?_
      refine pq_bipush (v := 7) F dX10_sameRow_5 (by decide) ?_
      refine pq_icmp_ge (tgt := 34) F dX10_sameRow_7 (by decide) (fun c7 => ?_) (fun c7 => ?_)
      · skip
        refine pq_iconst (v := 1) F dX10_sameRow_34 (by decide) ?_
        exact pq_zret F hr hlk hA rfl (Nat.le_refl _) (Nat.le_refl _) (⟨rfl, 1, rfl, (by focus (simp only [vp_in_iff, Int32.lt_iff_toInt_lt, Int32.le_iff_toInt_le, ← Int32.toInt_inj, Int32.toInt_add, Int32.toInt_sub, Int32.toInt_mul, Int32.toInt_neg, pq_NuO, pq_NuI, pq_NuJ, pq_NuR, pq_shr6, pq_shr7, pq_shr8, lqm1, lq0, lq1, lq7] at *; (try simp (disch := omega) only [pq_bm] at *); all_goals omega)), (by focus (simp only [vp_in_iff, Int32.lt_iff_toInt_lt, Int32.le_iff_toInt_le, ← Int32.toInt_inj, Int32.toInt_add, Int32.toInt_sub, Int32.toInt_mul, Int32.toInt_neg, pq_NuO, pq_NuI, pq_NuJ, pq_NuR, pq_shr6, pq_shr7, pq_shr8, lqm1, lq0, lq1, lq7] at *; (try simp (disch := omega) only [pq_bm] at *); all_goals omega)), fun _ _ => rfl⟩) dX10_sameRow_35
      · skip
        refine pq_aload_n F dX10_sameRow_10 rfl rfl ?_
        refine pq_iload_n F dX10_sameRow_11 rfl rfl ?_
        refine pq_iload F dX10_sameRow_12 rfl ?_
        refine pq_iadd F dX10_sameRow_14 ?_
        refine pq_lald F hb kb0 kb1 rfl (fun n1_15 n2_15 => (by focus (simp only [vp_in_iff, Int32.lt_iff_toInt_lt, Int32.le_iff_toInt_le, ← Int32.toInt_inj, Int32.toInt_add, Int32.toInt_sub, Int32.toInt_mul, Int32.toInt_neg, pq_NuO, pq_NuI, pq_NuJ, pq_NuR, pq_shr6, pq_shr7, pq_shr8, lqm1, lq0, lq1, lq7] at *; (try simp (disch := omega) only [pq_bm] at *); all_goals omega))) dX10_sameRow_15 (fun x15 e15 => ?_)
        refine pq_aload_n F dX10_sameRow_16 rfl rfl ?_
        refine pq_iload_n F dX10_sameRow_17 rfl rfl ?_
        refine pq_iload F dX10_sameRow_18 rfl ?_
        refine pq_iadd F dX10_sameRow_20 ?_
        refine pq_lald F hw kw0 kw1 rfl (fun n1_21 n2_21 => (by focus (simp only [vp_in_iff, Int32.lt_iff_toInt_lt, Int32.le_iff_toInt_le, ← Int32.toInt_inj, Int32.toInt_add, Int32.toInt_sub, Int32.toInt_mul, Int32.toInt_neg, pq_NuO, pq_NuI, pq_NuJ, pq_NuR, pq_shr6, pq_shr7, pq_shr8, lqm1, lq0, lq1, lq7] at *; (try simp (disch := omega) only [pq_bm] at *); all_goals omega))) dX10_sameRow_21 (fun x21 e21 => ?_)
        refine pq_lcmp F dX10_sameRow_22 ?_
        refine pq_if_eq (tgt := 28) F dX10_sameRow_23 (by decide) (fun c23 => ?_) (fun c23 => ?_)
        · skip
          refine pq_iinc (v := 1) F dX10_sameRow_28 rfl (by decide) (by decide) ?_
          refine pq_goto (tgt := 3) F dX10_sameRow_31 (by decide) ?_
          exact pq_fgm [true, true, true, true, true] (ih _ (by focus (simp only [vp_in_iff, Int32.lt_iff_toInt_lt, Int32.le_iff_toInt_le, ← Int32.toInt_inj, Int32.toInt_add, Int32.toInt_sub, Int32.toInt_mul, Int32.toInt_neg, pq_NuO, pq_NuI, pq_NuJ, pq_NuR, pq_shr6, pq_shr7, pq_shr8, lqm1, lq0, lq1, lq7] at *; (try simp (disch := omega) only [pq_bm] at *); all_goals omega)) (by focus (simp only [vp_in_iff, Int32.lt_iff_toInt_lt, Int32.le_iff_toInt_le, ← Int32.toInt_inj, Int32.toInt_add, Int32.toInt_sub, Int32.toInt_mul, Int32.toInt_neg, pq_NuO, pq_NuI, pq_NuJ, pq_NuR, pq_shr6, pq_shr7, pq_shr8, lqm1, lq0, lq1, lq7] at *; (try simp (disch := omega) only [pq_bm] at *); all_goals omega)) (by focus (simp only [vp_in_iff, Int32.lt_iff_toInt_lt, Int32.le_iff_toInt_le, ← Int32.toInt_inj, Int32.toInt_add, Int32.toInt_sub, Int32.toInt_mul, Int32.toInt_neg, pq_NuO, pq_NuI, pq_NuJ, pq_NuR, pq_shr6, pq_shr7, pq_shr8, lqm1, lq0, lq1, lq7] at *; (try simp (disch := omega) only [pq_bm] at *); all_goals omega)))
        · skip
          refine pq_iconst (v := 0) F dX10_sameRow_26 (by decide) ?_
          exact pq_zret F hr hlk hA rfl (Nat.le_refl _) (Nat.le_refl _) (⟨rfl, 0, rfl, (by focus (simp only [vp_in_iff, Int32.lt_iff_toInt_lt, Int32.le_iff_toInt_le, ← Int32.toInt_inj, Int32.toInt_add, Int32.toInt_sub, Int32.toInt_mul, Int32.toInt_neg, pq_NuO, pq_NuI, pq_NuJ, pq_NuR, pq_shr6, pq_shr7, pq_shr8, lqm1, lq0, lq1, lq7] at *; (try simp (disch := omega) only [pq_bm] at *); all_goals omega)), (by focus (simp only [vp_in_iff, Int32.lt_iff_toInt_lt, Int32.le_iff_toInt_le, ← Int32.toInt_inj, Int32.toInt_add, Int32.toInt_sub, Int32.toInt_mul, Int32.toInt_neg, pq_NuO, pq_NuI, pq_NuJ, pq_NuR, pq_shr6, pq_shr7, pq_shr8, lqm1, lq0, lq1, lq7] at *; (try simp (disch := omega) only [pq_bm] at *); all_goals omega)), fun z1 z2 => absurd (show lg_cmp x15 x21 = 0 by (have w1 := pq_cl (x := lo + k) (by focus (simp only [vp_in_iff, Int32.lt_iff_toInt_lt, Int32.le_iff_toInt_le, ← Int32.toInt_inj, Int32.toInt_add, Int32.toInt_sub, Int32.toInt_mul, Int32.toInt_neg, pq_NuO, pq_NuI, pq_NuJ, pq_NuR, pq_shr6, pq_shr7, pq_shr8, lqm1, lq0, lq1, lq7] at *; (try simp (disch := omega) only [pq_bm] at *); all_goals omega)); have w2 := pq_cl (x := hi + k) (by focus (simp only [vp_in_iff, Int32.lt_iff_toInt_lt, Int32.le_iff_toInt_le, ← Int32.toInt_inj, Int32.toInt_add, Int32.toInt_sub, Int32.toInt_mul, Int32.toInt_neg, pq_NuO, pq_NuI, pq_NuJ, pq_NuR, pq_shr6, pq_shr7, pq_shr8, lqm1, lq0, lq1, lq7] at *; (try simp (disch := omega) only [pq_bm] at *); all_goals omega)); rw [e15, e21, z1 _ (by clear z1 z2; focus (simp only [vp_in_iff, Int32.lt_iff_toInt_lt, Int32.le_iff_toInt_le, ← Int32.toInt_inj, Int32.toInt_add, Int32.toInt_sub, Int32.toInt_mul, Int32.toInt_neg, pq_NuO, pq_NuI, pq_NuJ, pq_NuR, pq_shr6, pq_shr7, pq_shr8, lqm1, lq0, lq1, lq7] at *; (try simp (disch := omega) only [pq_bm] at *); all_goals omega)), z2 _ (by clear z1 z2; focus (simp only [vp_in_iff, Int32.lt_iff_toInt_lt, Int32.le_iff_toInt_le, ← Int32.toInt_inj, Int32.toInt_add, Int32.toInt_sub, Int32.toInt_mul, Int32.toInt_neg, pq_NuO, pq_NuI, pq_NuJ, pq_NuR, pq_shr6, pq_shr7, pq_shr8, lqm1, lq0, lq1, lq7] at *; (try simp (disch := omega) only [pq_bm] at *); all_goals omega))]; exact pq_cmp0 0)) c23⟩) dX10_sameRow_27
  refine pq_iconst (v := 0) F dX10_sameRow_0 (by decide) ?_
  refine pq_istore F dX10_sameRow_1 (by decide) ?_
  exact pq_fgm [true, true, true, true, true] (L3  100000 _  (by focus (simp only [vp_in_iff, Int32.lt_iff_toInt_lt, Int32.le_iff_toInt_le, ← Int32.toInt_inj, Int32.toInt_add, Int32.toInt_sub, Int32.toInt_mul, Int32.toInt_neg, pq_NuO, pq_NuI, pq_NuJ, pq_NuR, pq_shr6, pq_shr7, pq_shr8, lqm1, lq0, lq1, lq7] at *; (try simp (disch := omega) only [pq_bm] at *); all_goals omega)) (by focus (simp only [vp_in_iff, Int32.lt_iff_toInt_lt, Int32.le_iff_toInt_le, ← Int32.toInt_inj, Int32.toInt_add, Int32.toInt_sub, Int32.toInt_mul, Int32.toInt_neg, pq_NuO, pq_NuI, pq_NuJ, pq_NuR, pq_shr6, pq_shr7, pq_shr8, lqm1, lq0, lq1, lq7] at *; (try simp (disch := omega) only [pq_bm] at *); all_goals omega)) (by focus (simp only [vp_in_iff, Int32.lt_iff_toInt_lt, Int32.le_iff_toInt_le, ← Int32.toInt_inj, Int32.toInt_add, Int32.toInt_sub, Int32.toInt_mul, Int32.toInt_neg, pq_NuO, pq_NuI, pq_NuJ, pq_NuR, pq_shr6, pq_shr7, pq_shr8, lqm1, lq0, lq1, lq7] at *; (try simp (disch := omega) only [pq_bm] at *); all_goals omega)))

set_option maxHeartbeats 4000000 in
set_option maxRecDepth 100000 in
theorem k_X9_byteAt (l : Launch) (D : va_G) (cy : Nat → ClassId) (S : HS) (a : Nat) (ha : pq_R S a 12) (i : Int32) : pq_C l D cy yX9_byteAt cX9_byteAt 2 (some .int) 1 0 0 S [.ref a, .int i] (fun v S2 => S2 = S ∧ ∃ x : Int32, v = some (.int x) ∧ -1 ≤ x.toInt ∧ x.toInt ≤ 255 ∧ ((∀ t : Int32, hO S a 1 = .int t → t.toInt ≤ i.toInt → x = -1) ∧ (i.toInt < 0 → x = -1))) := by
  refine pq_start (by decide) (Nat.le_of_ble_eq_true rfl) ?_
  intro p e s m args below meth c A F hr hlk hnm hA
  have lqm1 : (-1 : Int32).toInt = -1 := rfl
  have lq0 : (0 : Int32).toInt = 0 := rfl
  have lq1 : (1 : Int32).toInt = 1 := rfl
  have lq255 : (255 : Int32).toInt = 255 := rfl
  refine pq_iload_n F dX9_byteAt_0 rfl rfl ?_
  refine pq_if_lt (tgt := 25) F dX9_byteAt_1 (by decide) (fun c1 => ?_) (fun c1 => ?_)
  · skip
    refine pq_iconst (v := -1) F dX9_byteAt_25 (by decide) ?_
    exact pq_iret F hr hlk hA (Nat.le_refl _) (Nat.le_refl _) (⟨rfl, -1, rfl, (by focus (simp only [vp_in_iff, Int32.lt_iff_toInt_lt, Int32.le_iff_toInt_le, ← Int32.toInt_inj, Int32.toInt_add, Int32.toInt_sub, Int32.toInt_mul, Int32.toInt_neg, pq_NuO, pq_NuI, pq_NuJ, pq_NuR, pq_shr6, pq_shr7, pq_shr8, lqm1, lq0, lq1, lq255] at *; (try simp (disch := omega) only [pq_bm] at *); all_goals omega)), (by focus (simp only [vp_in_iff, Int32.lt_iff_toInt_lt, Int32.le_iff_toInt_le, ← Int32.toInt_inj, Int32.toInt_add, Int32.toInt_sub, Int32.toInt_mul, Int32.toInt_neg, pq_NuO, pq_NuI, pq_NuJ, pq_NuR, pq_shr6, pq_shr7, pq_shr8, lqm1, lq0, lq1, lq255] at *; (try simp (disch := omega) only [pq_bm] at *); all_goals omega)), fun _ _ _ => rfl, fun _ => rfl⟩) dX9_byteAt_26
  · skip
    refine pq_iload_n F dX9_byteAt_4 rfl rfl ?_
    refine pq_aload_n F dX9_byteAt_5 rfl rfl ?_
    refine pq_getI F ha (by decide) lk_X9_15 rfl dX9_byteAt_6 (fun x6 e6 l6 u6 => ?_)
    refine pq_icmp_ge (tgt := 25) F dX9_byteAt_9 (by decide) (fun c9 => ?_) (fun c9 => ?_)
    · skip
      refine pq_iconst (v := -1) F dX9_byteAt_25 (by decide) ?_
      exact pq_iret F hr hlk hA (Nat.le_refl _) (Nat.le_refl _) (⟨rfl, -1, rfl, (by focus (simp only [vp_in_iff, Int32.lt_iff_toInt_lt, Int32.le_iff_toInt_le, ← Int32.toInt_inj, Int32.toInt_add, Int32.toInt_sub, Int32.toInt_mul, Int32.toInt_neg, pq_NuO, pq_NuI, pq_NuJ, pq_NuR, pq_shr6, pq_shr7, pq_shr8, lqm1, lq0, lq1, lq255] at *; (try simp (disch := omega) only [pq_bm] at *); all_goals omega)), (by focus (simp only [vp_in_iff, Int32.lt_iff_toInt_lt, Int32.le_iff_toInt_le, ← Int32.toInt_inj, Int32.toInt_add, Int32.toInt_sub, Int32.toInt_mul, Int32.toInt_neg, pq_NuO, pq_NuI, pq_NuJ, pq_NuR, pq_shr6, pq_shr7, pq_shr8, lqm1, lq0, lq1, lq255] at *; (try simp (disch := omega) only [pq_bm] at *); all_goals omega)), fun _ _ _ => rfl, fun _ => rfl⟩) dX9_byteAt_26
    · skip
      refine pq_aload_n F dX9_byteAt_12 rfl rfl ?_
      refine pq_getR F ha (by decide) lk_X9_9 rfl dX9_byteAt_13 (fun r13 e13 h13 => ?_)
      refine pq_iload_n F dX9_byteAt_16 rfl rfl ?_
      refine pq_bald F h13 (by decide) (by decide) rfl (fun n1_17 n2_17 => (by focus (simp only [vp_in_iff, Int32.lt_iff_toInt_lt, Int32.le_iff_toInt_le, ← Int32.toInt_inj, Int32.toInt_add, Int32.toInt_sub, Int32.toInt_mul, Int32.toInt_neg, pq_NuO, pq_NuI, pq_NuJ, pq_NuR, pq_shr6, pq_shr7, pq_shr8, lqm1, lq0, lq1, lq255] at *; (try simp (disch := omega) only [pq_bm] at *); all_goals omega))) dX9_byteAt_17 (fun x17 e17 l17 u17 => ?_)
      refine pq_sipush (v := 255) F dX9_byteAt_18 (by decide) ?_
      have z17 := pq_and255 x17
      refine pq_iand F dX9_byteAt_21 ?_
      refine pq_goto (tgt := 26) F dX9_byteAt_22 (by decide) ?_
      exact pq_iret F hr hlk hA (Nat.le_refl _) (Nat.le_refl _) (⟨rfl, _, rfl, (by focus (simp only [vp_in_iff, Int32.lt_iff_toInt_lt, Int32.le_iff_toInt_le, ← Int32.toInt_inj, Int32.toInt_add, Int32.toInt_sub, Int32.toInt_mul, Int32.toInt_neg, pq_NuO, pq_NuI, pq_NuJ, pq_NuR, pq_shr6, pq_shr7, pq_shr8, lqm1, lq0, lq1, lq255] at *; (try simp (disch := omega) only [pq_bm] at *); all_goals omega)), z17.2, fun t ht hl => absurd c9 (by rw [e6] at ht; cases ht; focus (simp only [vp_in_iff, Int32.lt_iff_toInt_lt, Int32.le_iff_toInt_le, ← Int32.toInt_inj, Int32.toInt_add, Int32.toInt_sub, Int32.toInt_mul, Int32.toInt_neg, pq_NuO, pq_NuI, pq_NuJ, pq_NuR, pq_shr6, pq_shr7, pq_shr8, lqm1, lq0, lq1, lq255] at *; (try simp (disch := omega) only [pq_bm] at *); all_goals omega)), fun z => absurd c1 (by focus (simp only [vp_in_iff, Int32.lt_iff_toInt_lt, Int32.le_iff_toInt_le, ← Int32.toInt_inj, Int32.toInt_add, Int32.toInt_sub, Int32.toInt_mul, Int32.toInt_neg, pq_NuO, pq_NuI, pq_NuJ, pq_NuR, pq_shr6, pq_shr7, pq_shr8, lqm1, lq0, lq1, lq255] at *; (try simp (disch := omega) only [pq_bm] at *); all_goals omega))⟩) dX9_byteAt_26

set_option maxHeartbeats 4000000 in
set_option maxRecDepth 100000 in
theorem k_X9_put (l : Launch) (D : va_G) (cy : Nat → ClassId) (S : HS) (a : Nat) (ha : pq_R S a 12) (v : Int32) (t : Int32) (ht : hO S a 1 = .int t) (ht0 : 0 ≤ t.toInt) (ht1 : t.toInt ≤ 2044) : pq_C l D cy yX9_put cX9_put 3 (none) 1 0 0 S [.ref a, .int v] (fun v S2 => v = none ∧ pq_Fr [(12, 1), (104, 0)] S S2 ∧ (∃ t2 : Int32, hO S2 a 1 = .int t2 ∧ t2.toInt = t.toInt + 4)) := by
  refine pq_start (by decide) (Nat.le_of_ble_eq_true rfl) ?_
  intro p e s m args below meth c A F hr hlk hnm hA
  have lqm8 : (-8 : Int32).toInt = -8 := rfl
  have lqm1 : (-1 : Int32).toInt = -1 := rfl
  have lq0 : (0 : Int32).toInt = 0 := rfl
  have lq1 : (1 : Int32).toInt = 1 := rfl
  have lq8 : (8 : Int32).toInt = 8 := rfl
  have lq24 : (24 : Int32).toInt = 24 := rfl
  have lq2048 : (2048 : Int32).toInt = 2048 := rfl
  have L3 : ∀  (fu : Nat) (S1 : HS) (k : Int32) (t3 : Int32) (hF : pq_Fr [(12, 1), (104, 0)] S S1) (h3 : hO S1 a 1 = .int t3) (hk : 8 * t3.toInt = 8 * t.toInt + 24 - k.toInt) (hk1 : -8 ≤ k.toInt) (hk2 : k.toInt ≤ 24) (hk3 : k.toInt % 8 = 0), (k.toInt + 8).toNat < fu → pq_At p l e (pq_rm 1 0 0) s m args below meth c (pq_Z below args s D cy S 0 0 (fun v S2 => v = none ∧ pq_Fr [(12, 1), (104, 0)] S S2 ∧ (∃ t2 : Int32, hO S2 a 1 = .int t2 ∧ t2.toInt = t.toInt + 4))) D cy A 3 0 0 3 S1 [some (.ref a), some (.int v), some (.int k)] [] := by
    intro  fu
    induction fu with
    | zero => intro S1 k t3 hF h3 hk hk1 hk2 hk3 hm; exact absurd hm (Nat.not_lt_zero _)
    | succ fu ih =>
      intro S1 k t3 hF h3 hk hk1 hk2 hk3 hm
      have haL := hF.R ha (by first | decide | omega)
      refine pq_iload_n F dX9_put_3 rfl rfl ?_
      refine pq_if_lt (tgt := 46) F dX9_put_4 (by decide) (fun c4 => ?_) (fun c4 => ?_)
      · skip
        exact pq_vret F hr hlk hA (Nat.le_refl _) (Nat.le_refl _) (⟨rfl, hF, t3, h3, (by focus (simp only [vp_in_iff, Int32.lt_iff_toInt_lt, Int32.le_iff_toInt_le, ← Int32.toInt_inj, Int32.toInt_add, Int32.toInt_sub, Int32.toInt_mul, Int32.toInt_neg, pq_NuO, pq_NuI, pq_NuJ, pq_NuR, pq_shr6, pq_shr7, pq_shr8, lqm8, lqm1, lq0, lq1, lq8, lq24, lq2048] at *; (try simp (disch := omega) only [pq_bm] at *); all_goals omega))⟩) dX9_put_46
      · skip
        refine pq_aload_n F dX9_put_7 rfl rfl ?_
        refine pq_get F haL (by decide) lk_X9_15 h3 dX9_put_8 ?_
        refine pq_sipush (v := 2048) F dX9_put_11 (by decide) ?_
        refine pq_icmp_ge (tgt := 40) F dX9_put_14 (by decide) (fun c14 => ?_) (fun c14 => ?_)
        · exact absurd c14 (by focus (simp only [vp_in_iff, Int32.lt_iff_toInt_lt, Int32.le_iff_toInt_le, ← Int32.toInt_inj, Int32.toInt_add, Int32.toInt_sub, Int32.toInt_mul, Int32.toInt_neg, pq_NuO, pq_NuI, pq_NuJ, pq_NuR, pq_shr6, pq_shr7, pq_shr8, lqm8, lqm1, lq0, lq1, lq8, lq24, lq2048] at *; (try simp (disch := omega) only [pq_bm] at *); all_goals omega))
        · skip
          refine pq_aload_n F dX9_put_17 rfl rfl ?_
          refine pq_getR F haL (by decide) lk_X9_9 rfl dX9_put_18 (fun r18 e18 h18 => ?_)
          refine pq_aload_n F dX9_put_21 rfl rfl ?_
          refine pq_get F haL (by decide) lk_X9_15 h3 dX9_put_22 ?_
          refine pq_iload_n F dX9_put_25 rfl rfl ?_
          refine pq_iload_n F dX9_put_26 rfl rfl ?_
          refine pq_iushr F dX9_put_27 ?_
          refine pq_i2b F dX9_put_28 ?_
          refine pq_bast F h18 (by decide) (by decide) rfl (fun n1_29 n2_29 => (by focus (simp only [vp_in_iff, Int32.lt_iff_toInt_lt, Int32.le_iff_toInt_le, ← Int32.toInt_inj, Int32.toInt_add, Int32.toInt_sub, Int32.toInt_mul, Int32.toInt_neg, pq_NuO, pq_NuI, pq_NuJ, pq_NuR, pq_shr6, pq_shr7, pq_shr8, lqm8, lqm1, lq0, lq1, lq8, lq24, lq2048] at *; (try simp (disch := omega) only [pq_bm] at *); all_goals omega))) (pq_nb _) dX9_put_29 ?_
          refine pq_aload_n F dX9_put_30 rfl rfl ?_
          refine pq_dup F dX9_put_31 rfl ?_
          refine pq_get F haL (by decide) lk_X9_15 h3 dX9_put_32 ?_
          refine pq_iconst (v := 1) F dX9_put_35 (by decide) ?_
          refine pq_iadd F dX9_put_36 ?_
          refine pq_putI F haL (by decide) lp_X9_15 rfl (by focus (simp only [vp_in_iff, Int32.lt_iff_toInt_lt, Int32.le_iff_toInt_le, ← Int32.toInt_inj, Int32.toInt_add, Int32.toInt_sub, Int32.toInt_mul, Int32.toInt_neg, pq_NuO, pq_NuI, pq_NuJ, pq_NuR, pq_shr6, pq_shr7, pq_shr8, lqm8, lqm1, lq0, lq1, lq8, lq24, lq2048] at *; (try simp (disch := omega) only [pq_bm] at *); all_goals omega)) (by focus (simp only [vp_in_iff, Int32.lt_iff_toInt_lt, Int32.le_iff_toInt_le, ← Int32.toInt_inj, Int32.toInt_add, Int32.toInt_sub, Int32.toInt_mul, Int32.toInt_neg, pq_NuO, pq_NuI, pq_NuJ, pq_NuR, pq_shr6, pq_shr7, pq_shr8, lqm8, lqm1, lq0, lq1, lq8, lq24, lq2048] at *; (try simp (disch := omega) only [pq_bm] at *); all_goals omega)) dX9_put_37 ?_
          refine pq_iinc (v := -8) F dX9_put_40 rfl (by decide) (by decide) ?_
          refine pq_goto (tgt := 3) F dX9_put_43 (by decide) ?_
          exact pq_fgm [true, true, true] (ih _ _ _ ((hF.uI h18 (by first | decide | exact List.mem_cons_self)).uO haL (by decide)) pq_ks (by focus (simp only [vp_in_iff, Int32.lt_iff_toInt_lt, Int32.le_iff_toInt_le, ← Int32.toInt_inj, Int32.toInt_add, Int32.toInt_sub, Int32.toInt_mul, Int32.toInt_neg, pq_NuO, pq_NuI, pq_NuJ, pq_NuR, pq_shr6, pq_shr7, pq_shr8, lqm8, lqm1, lq0, lq1, lq8, lq24, lq2048] at *; (try simp (disch := omega) only [pq_bm] at *); all_goals omega)) (by focus (simp only [vp_in_iff, Int32.lt_iff_toInt_lt, Int32.le_iff_toInt_le, ← Int32.toInt_inj, Int32.toInt_add, Int32.toInt_sub, Int32.toInt_mul, Int32.toInt_neg, pq_NuO, pq_NuI, pq_NuJ, pq_NuR, pq_shr6, pq_shr7, pq_shr8, lqm8, lqm1, lq0, lq1, lq8, lq24, lq2048] at *; (try simp (disch := omega) only [pq_bm] at *); all_goals omega)) (by focus (simp only [vp_in_iff, Int32.lt_iff_toInt_lt, Int32.le_iff_toInt_le, ← Int32.toInt_inj, Int32.toInt_add, Int32.toInt_sub, Int32.toInt_mul, Int32.toInt_neg, pq_NuO, pq_NuI, pq_NuJ, pq_NuR, pq_shr6, pq_shr7, pq_shr8, lqm8, lqm1, lq0, lq1, lq8, lq24, lq2048] at *; (try simp (disch := omega) only [pq_bm] at *); all_goals omega)) (by focus (simp only [vp_in_iff, Int32.lt_iff_toInt_lt, Int32.le_iff_toInt_le, ← Int32.toInt_inj, Int32.toInt_add, Int32.toInt_sub, Int32.toInt_mul, Int32.toInt_neg, pq_NuO, pq_NuI, pq_NuJ, pq_NuR, pq_shr6, pq_shr7, pq_shr8, lqm8, lqm1, lq0, lq1, lq8, lq24, lq2048] at *; (try simp (disch := omega) only [pq_bm] at *); all_goals omega)) (by focus (simp only [vp_in_iff, Int32.lt_iff_toInt_lt, Int32.le_iff_toInt_le, ← Int32.toInt_inj, Int32.toInt_add, Int32.toInt_sub, Int32.toInt_mul, Int32.toInt_neg, pq_NuO, pq_NuI, pq_NuJ, pq_NuR, pq_shr6, pq_shr7, pq_shr8, lqm8, lqm1, lq0, lq1, lq8, lq24, lq2048] at *; (try simp (disch := omega) only [pq_bm] at *); all_goals omega)))
  refine pq_bipush (v := 24) F dX9_put_0 (by decide) ?_
  refine pq_istore_n F dX9_put_2 rfl (by decide) ?_
  exact pq_fgm [true, true, true] (L3  100000 _ _ t pq_Fr.rf ht (by focus (simp only [vp_in_iff, Int32.lt_iff_toInt_lt, Int32.le_iff_toInt_le, ← Int32.toInt_inj, Int32.toInt_add, Int32.toInt_sub, Int32.toInt_mul, Int32.toInt_neg, pq_NuO, pq_NuI, pq_NuJ, pq_NuR, pq_shr6, pq_shr7, pq_shr8, lqm8, lqm1, lq0, lq1, lq8, lq24, lq2048] at *; (try simp (disch := omega) only [pq_bm] at *); all_goals omega)) (by focus (simp only [vp_in_iff, Int32.lt_iff_toInt_lt, Int32.le_iff_toInt_le, ← Int32.toInt_inj, Int32.toInt_add, Int32.toInt_sub, Int32.toInt_mul, Int32.toInt_neg, pq_NuO, pq_NuI, pq_NuJ, pq_NuR, pq_shr6, pq_shr7, pq_shr8, lqm8, lqm1, lq0, lq1, lq8, lq24, lq2048] at *; (try simp (disch := omega) only [pq_bm] at *); all_goals omega)) (by focus (simp only [vp_in_iff, Int32.lt_iff_toInt_lt, Int32.le_iff_toInt_le, ← Int32.toInt_inj, Int32.toInt_add, Int32.toInt_sub, Int32.toInt_mul, Int32.toInt_neg, pq_NuO, pq_NuI, pq_NuJ, pq_NuR, pq_shr6, pq_shr7, pq_shr8, lqm8, lqm1, lq0, lq1, lq8, lq24, lq2048] at *; (try simp (disch := omega) only [pq_bm] at *); all_goals omega)) (by focus (simp only [vp_in_iff, Int32.lt_iff_toInt_lt, Int32.le_iff_toInt_le, ← Int32.toInt_inj, Int32.toInt_add, Int32.toInt_sub, Int32.toInt_mul, Int32.toInt_neg, pq_NuO, pq_NuI, pq_NuJ, pq_NuR, pq_shr6, pq_shr7, pq_shr8, lqm8, lqm1, lq0, lq1, lq8, lq24, lq2048] at *; (try simp (disch := omega) only [pq_bm] at *); all_goals omega)) (by focus (simp only [vp_in_iff, Int32.lt_iff_toInt_lt, Int32.le_iff_toInt_le, ← Int32.toInt_inj, Int32.toInt_add, Int32.toInt_sub, Int32.toInt_mul, Int32.toInt_neg, pq_NuO, pq_NuI, pq_NuJ, pq_NuR, pq_shr6, pq_shr7, pq_shr8, lqm8, lqm1, lq0, lq1, lq8, lq24, lq2048] at *; (try simp (disch := omega) only [pq_bm] at *); all_goals omega)))

