set_option maxHeartbeats 4000000 in
set_option maxRecDepth 100000 in
theorem k_J7_rangeCheck_23922 (l : Launch) (D : va_G) (cy : Nat → ClassId) (S : HS) (n : Int32) (lo : Int32) (hlo0 : 0 ≤ lo.toInt) (hi : Int32) (h1 : lo.toInt ≤ hi.toInt) (h2 : hi.toInt ≤ n.toInt) : pq_C l D cy yJ7_rangeCheck_23922 cJ7_rangeCheck_23922 3 (none) 1 0 0 S [.int n, .int lo, .int hi] (fun v S2 => v = none ∧ S2 = S) := by
  refine pq_start (by decide) (Nat.le_of_ble_eq_true rfl) ?_
  intro p e s m args below meth c A F hr hlk hnm hA
  have lqm1 : (-1 : Int32).toInt = -1 := rfl
  have lq0 : (0 : Int32).toInt = 0 := rfl
  have lq1 : (1 : Int32).toInt = 1 := rfl
  refine pq_iload_n F dJ7_rangeCheck_23922_0 rfl rfl ?_
  refine pq_iload_n F dJ7_rangeCheck_23922_1 rfl rfl ?_
  refine pq_icmp_le (tgt := 46) F dJ7_rangeCheck_23922_2 (by decide) (fun c2 => ?_) (fun c2 => ?_)
  · skip
    refine pq_iload_n F dJ7_rangeCheck_23922_46 rfl rfl ?_
    refine pq_if_ge (tgt := 59) F dJ7_rangeCheck_23922_47 (by decide) (fun c47 => ?_) (fun c47 => ?_)
    · skip
      refine pq_iload_n F dJ7_rangeCheck_23922_59 rfl rfl ?_
      refine pq_iload_n F dJ7_rangeCheck_23922_60 rfl rfl ?_
      refine pq_icmp_le (tgt := 73) F dJ7_rangeCheck_23922_61 (by decide) (fun c61 => ?_) (fun c61 => ?_)
      · skip
        exact pq_vret F hr hlk hA (Nat.le_refl _) (Nat.le_refl _) (⟨rfl, rfl⟩) dJ7_rangeCheck_23922_73
      · exact absurd c61 (fun z => (by focus (simp only [vp_in_iff, Int32.lt_iff_toInt_lt, Int32.le_iff_toInt_le, ← Int32.toInt_inj, Int32.toInt_add, Int32.toInt_sub, Int32.toInt_mul, Int32.toInt_neg, pq_NuO, pq_NuI, pq_NuJ, pq_NuR, pq_shr6, pq_shr7, pq_shr8, lqm1, lq0, lq1] at *; (try simp (disch := omega) only [pq_bm] at *); all_goals omega)))
    · exact absurd c47 (fun z => (by focus (simp only [vp_in_iff, Int32.lt_iff_toInt_lt, Int32.le_iff_toInt_le, ← Int32.toInt_inj, Int32.toInt_add, Int32.toInt_sub, Int32.toInt_mul, Int32.toInt_neg, pq_NuO, pq_NuI, pq_NuJ, pq_NuR, pq_shr6, pq_shr7, pq_shr8, lqm1, lq0, lq1] at *; (try simp (disch := omega) only [pq_bm] at *); all_goals omega)))
  · exact absurd c2 (fun z => (by focus (simp only [vp_in_iff, Int32.lt_iff_toInt_lt, Int32.le_iff_toInt_le, ← Int32.toInt_inj, Int32.toInt_add, Int32.toInt_sub, Int32.toInt_mul, Int32.toInt_neg, pq_NuO, pq_NuI, pq_NuJ, pq_NuR, pq_shr6, pq_shr7, pq_shr8, lqm1, lq0, lq1] at *; (try simp (disch := omega) only [pq_bm] at *); all_goals omega)))

set_option maxHeartbeats 4000000 in
set_option maxRecDepth 100000 in
theorem k_J7_fill_d0a16 (l : Launch) (D : va_G) (cy : Nat → ClassId) (S : HS) (b rb : Nat) (hb : pq_R S b rb) (kb0 : 180 ≤ rb) (kb1 : rb < 200) (vv : Int64) (hb9 : hN S b ≤ 1000000) : pq_C l D cy yJ7_fill_d0a16 cJ7_fill_d0a16 5 (none) 1 0 0 S [.ref b, .long vv] (fun v S2 => v = none ∧ ∃ f : Nat → Int64, S2 = pq_uJ S b f ∧ (∀ i : Nat, i < hN S b → f i = vv)) := by
  refine pq_start (by decide) (Nat.le_of_ble_eq_true rfl) ?_
  intro p e s m args below meth c A F hr hlk hnm hA
  have lqm1 : (-1 : Int32).toInt = -1 := rfl
  have lq0 : (0 : Int32).toInt = 0 := rfl
  have lq1 : (1 : Int32).toInt = 1 := rfl
  have L6 : ∀  (fu : Nat) (S1 : HS) (k : Int32) (n : Int32)  (hF : ∃ f : Nat → Int64, S1 = pq_uJ S b f ∧ ∀ i : Nat, (i : Int) < k.toInt → f i = vv) (hk0 : 0 ≤ k.toInt) (hn0 : n.toInt = (hN S b : Int)), ((hN S b : Int) - k.toInt).toNat < fu → pq_At p l e (pq_rm 1 0 0) s m args below meth c (pq_Z below args s D cy S 0 0 (fun v S2 => v = none ∧ ∃ f : Nat → Int64, S2 = pq_uJ S b f ∧ (∀ i : Nat, i < hN S b → f i = vv))) D cy A 5 0 0 6 S1 [some (.ref b), some (.long vv), none, some (.int k), some (.int n)] [] := by
    intro  fu
    induction fu with
    | zero => intro S1 k n hF hk0 hn0 hm; exact absurd hm (Nat.not_lt_zero _)
    | succ fu ih =>
      intro S1 k n hF hk0 hn0 hm
      obtain ⟨f0, rfl, hf0⟩ := hF
      have hbL := hb
      refine pq_iload_n F dJ7_fill_d0a16_6 rfl rfl ?_
      refine pq_iload F dJ7_fill_d0a16_7 rfl ?_
      refine pq_icmp_ge (tgt := 22) F dJ7_fill_d0a16_9 (by decide) (fun c9 => ?_) (fun c9 => ?_)
      · skip
        exact pq_vret F hr hlk hA (Nat.le_refl _) (Nat.le_refl _) (⟨rfl, _, rfl, fun i hi => hf0 i (by focus (simp only [vp_in_iff, Int32.lt_iff_toInt_lt, Int32.le_iff_toInt_le, ← Int32.toInt_inj, Int32.toInt_add, Int32.toInt_sub, Int32.toInt_mul, Int32.toInt_neg, pq_NuO, pq_NuI, pq_NuJ, pq_NuR, pq_shr6, pq_shr7, pq_shr8, lqm1, lq0, lq1] at *; (try simp (disch := omega) only [pq_bm] at *); all_goals omega))⟩) dJ7_fill_d0a16_22
      · skip
        refine pq_aload_n F dJ7_fill_d0a16_12 rfl rfl ?_
        refine pq_iload_n F dJ7_fill_d0a16_13 rfl rfl ?_
        refine pq_lload_n F dJ7_fill_d0a16_14 rfl rfl ?_
        refine pq_last F hbL kb0 kb1 rfl (fun n1_15 n2_15 => (by focus (simp only [vp_in_iff, Int32.lt_iff_toInt_lt, Int32.le_iff_toInt_le, ← Int32.toInt_inj, Int32.toInt_add, Int32.toInt_sub, Int32.toInt_mul, Int32.toInt_neg, pq_NuO, pq_NuI, pq_NuJ, pq_NuR, pq_shr6, pq_shr7, pq_shr8, lqm1, lq0, lq1] at *; (try simp (disch := omega) only [pq_bm] at *); all_goals omega))) dJ7_fill_d0a16_15 ?_
        refine pq_iinc (v := 1) F dJ7_fill_d0a16_16 rfl (by decide) (by decide) ?_
        refine pq_goto (tgt := 6) F dJ7_fill_d0a16_19 (by decide) ?_
        exact pq_fgm [true, true, true, true, true] (ih _ _ _ ⟨_, pq_uJJ, fun i hi => (by rw [pq_Ja]; unfold vp_updL; have ck := pq_cl hk0; split; rfl; exact hf0 i (by focus (simp only [vp_in_iff, Int32.lt_iff_toInt_lt, Int32.le_iff_toInt_le, ← Int32.toInt_inj, Int32.toInt_add, Int32.toInt_sub, Int32.toInt_mul, Int32.toInt_neg, pq_NuO, pq_NuI, pq_NuJ, pq_NuR, pq_shr6, pq_shr7, pq_shr8, lqm1, lq0, lq1] at *; (try simp (disch := omega) only [pq_bm] at *); all_goals omega)))⟩ (by focus (simp only [vp_in_iff, Int32.lt_iff_toInt_lt, Int32.le_iff_toInt_le, ← Int32.toInt_inj, Int32.toInt_add, Int32.toInt_sub, Int32.toInt_mul, Int32.toInt_neg, pq_NuO, pq_NuI, pq_NuJ, pq_NuR, pq_shr6, pq_shr7, pq_shr8, lqm1, lq0, lq1] at *; (try simp (disch := omega) only [pq_bm] at *); all_goals omega)) (by focus (simp only [vp_in_iff, Int32.lt_iff_toInt_lt, Int32.le_iff_toInt_le, ← Int32.toInt_inj, Int32.toInt_add, Int32.toInt_sub, Int32.toInt_mul, Int32.toInt_neg, pq_NuO, pq_NuI, pq_NuJ, pq_NuR, pq_shr6, pq_shr7, pq_shr8, lqm1, lq0, lq1] at *; (try simp (disch := omega) only [pq_bm] at *); all_goals omega)) (by focus (simp only [vp_in_iff, Int32.lt_iff_toInt_lt, Int32.le_iff_toInt_le, ← Int32.toInt_inj, Int32.toInt_add, Int32.toInt_sub, Int32.toInt_mul, Int32.toInt_neg, pq_NuO, pq_NuI, pq_NuJ, pq_NuR, pq_shr6, pq_shr7, pq_shr8, lqm1, lq0, lq1] at *; (try simp (disch := omega) only [pq_bm] at *); all_goals omega)))
  refine pq_iconst (v := 0) F dJ7_fill_d0a16_0 (by decide) ?_
  refine pq_istore_n F dJ7_fill_d0a16_1 rfl (by decide) ?_
  refine pq_aload_n F dJ7_fill_d0a16_2 rfl rfl ?_
  refine pq_alen F hb (by omega) rfl dJ7_fill_d0a16_3 (fun l3 u3 => ?_)
  skip
  refine pq_istore F dJ7_fill_d0a16_4 (by decide) ?_
  exact pq_fgm [true, true, true, true, true] (L6 (hN S b + 1) _ _ _ ⟨_, pq_uJs, fun i hi => absurd hi (by focus (simp only [vp_in_iff, Int32.lt_iff_toInt_lt, Int32.le_iff_toInt_le, ← Int32.toInt_inj, Int32.toInt_add, Int32.toInt_sub, Int32.toInt_mul, Int32.toInt_neg, pq_NuO, pq_NuI, pq_NuJ, pq_NuR, pq_shr6, pq_shr7, pq_shr8, lqm1, lq0, lq1] at *; (try simp (disch := omega) only [pq_bm] at *); all_goals omega))⟩ (by focus (simp only [vp_in_iff, Int32.lt_iff_toInt_lt, Int32.le_iff_toInt_le, ← Int32.toInt_inj, Int32.toInt_add, Int32.toInt_sub, Int32.toInt_mul, Int32.toInt_neg, pq_NuO, pq_NuI, pq_NuJ, pq_NuR, pq_shr6, pq_shr7, pq_shr8, lqm1, lq0, lq1] at *; (try simp (disch := omega) only [pq_bm] at *); all_goals omega)) (by rw [nI_toInt (by omega)]) (by focus (simp only [vp_in_iff, Int32.lt_iff_toInt_lt, Int32.le_iff_toInt_le, ← Int32.toInt_inj, Int32.toInt_add, Int32.toInt_sub, Int32.toInt_mul, Int32.toInt_neg, pq_NuO, pq_NuI, pq_NuJ, pq_NuR, pq_shr6, pq_shr7, pq_shr8, lqm1, lq0, lq1] at *; (try simp (disch := omega) only [pq_bm] at *); all_goals omega)))

set_option maxHeartbeats 4000000 in
set_option maxRecDepth 100000 in
theorem k_X10_isPattern (l : Launch) (D : va_G) (cy : Nat → ClassId) (S : HS) (w : Int32) : pq_C l D cy yX10_isPattern cX10_isPattern 1 (some .boolean) 1 0 0 S [.int w] (fun v S2 => S2 = S ∧ ∃ x : Int32, v = some (.int x) ∧ 0 ≤ x.toInt ∧ x.toInt ≤ 1 ∧ (x = 1 ↔ (w = 0 ∨ w = 1))) := by
  refine pq_start (by decide) (Nat.le_of_ble_eq_true rfl) ?_
  intro p e s m args below meth c A F hr hlk hnm hA
  have lqm1 : (-1 : Int32).toInt = -1 := rfl
  have lq0 : (0 : Int32).toInt = 0 := rfl
  have lq1 : (1 : Int32).toInt = 1 := rfl
  refine pq_iload_n F dX10_isPattern_0 rfl rfl ?_
  refine pq_if_eq (tgt := 9) F dX10_isPattern_1 (by decide) (fun c1 => ?_) (fun c1 => ?_)
  · skip
    refine pq_iconst (v := 1) F dX10_isPattern_9 (by decide) ?_
    refine pq_goto (tgt := 14) F dX10_isPattern_10 (by decide) ?_
    exact pq_zret F hr hlk hA rfl (Nat.le_refl _) (Nat.le_refl _) (⟨rfl, 1, rfl, (by focus (simp only [vp_in_iff, Int32.lt_iff_toInt_lt, Int32.le_iff_toInt_le, ← Int32.toInt_inj, Int32.toInt_add, Int32.toInt_sub, Int32.toInt_mul, Int32.toInt_neg, pq_NuO, pq_NuI, pq_NuJ, pq_NuR, pq_shr6, pq_shr7, pq_shr8, lqm1, lq0, lq1] at *; (try simp (disch := omega) only [pq_bm] at *); all_goals omega)), (by focus (simp only [vp_in_iff, Int32.lt_iff_toInt_lt, Int32.le_iff_toInt_le, ← Int32.toInt_inj, Int32.toInt_add, Int32.toInt_sub, Int32.toInt_mul, Int32.toInt_neg, pq_NuO, pq_NuI, pq_NuJ, pq_NuR, pq_shr6, pq_shr7, pq_shr8, lqm1, lq0, lq1] at *; (try simp (disch := omega) only [pq_bm] at *); all_goals omega)), ⟨fun _ => Or.inl c1, fun _ => rfl⟩⟩) dX10_isPattern_14
  · skip
    refine pq_iload_n F dX10_isPattern_4 rfl rfl ?_
    refine pq_iconst (v := 1) F dX10_isPattern_5 (by decide) ?_
    refine pq_icmp_ne (tgt := 13) F dX10_isPattern_6 (by decide) (fun c6 => ?_) (fun c6 => ?_)
    · skip
      refine pq_iconst (v := 0) F dX10_isPattern_13 (by decide) ?_
      exact pq_zret F hr hlk hA rfl (Nat.le_refl _) (Nat.le_refl _) (⟨rfl, 0, rfl, (by focus (simp only [vp_in_iff, Int32.lt_iff_toInt_lt, Int32.le_iff_toInt_le, ← Int32.toInt_inj, Int32.toInt_add, Int32.toInt_sub, Int32.toInt_mul, Int32.toInt_neg, pq_NuO, pq_NuI, pq_NuJ, pq_NuR, pq_shr6, pq_shr7, pq_shr8, lqm1, lq0, lq1] at *; (try simp (disch := omega) only [pq_bm] at *); all_goals omega)), (by focus (simp only [vp_in_iff, Int32.lt_iff_toInt_lt, Int32.le_iff_toInt_le, ← Int32.toInt_inj, Int32.toInt_add, Int32.toInt_sub, Int32.toInt_mul, Int32.toInt_neg, pq_NuO, pq_NuI, pq_NuJ, pq_NuR, pq_shr6, pq_shr7, pq_shr8, lqm1, lq0, lq1] at *; (try simp (disch := omega) only [pq_bm] at *); all_goals omega)), ⟨fun z => absurd z (by decide), fun z => (by rcases z with z | z; exact absurd z c1; exact absurd z c6)⟩⟩) dX10_isPattern_14
    · skip
      refine pq_iconst (v := 1) F dX10_isPattern_9 (by decide) ?_
      refine pq_goto (tgt := 14) F dX10_isPattern_10 (by decide) ?_
      exact pq_zret F hr hlk hA rfl (Nat.le_refl _) (Nat.le_refl _) (⟨rfl, 1, rfl, (by focus (simp only [vp_in_iff, Int32.lt_iff_toInt_lt, Int32.le_iff_toInt_le, ← Int32.toInt_inj, Int32.toInt_add, Int32.toInt_sub, Int32.toInt_mul, Int32.toInt_neg, pq_NuO, pq_NuI, pq_NuJ, pq_NuR, pq_shr6, pq_shr7, pq_shr8, lqm1, lq0, lq1] at *; (try simp (disch := omega) only [pq_bm] at *); all_goals omega)), (by focus (simp only [vp_in_iff, Int32.lt_iff_toInt_lt, Int32.le_iff_toInt_le, ← Int32.toInt_inj, Int32.toInt_add, Int32.toInt_sub, Int32.toInt_mul, Int32.toInt_neg, pq_NuO, pq_NuI, pq_NuJ, pq_NuR, pq_shr6, pq_shr7, pq_shr8, lqm1, lq0, lq1] at *; (try simp (disch := omega) only [pq_bm] at *); all_goals omega)), ⟨fun _ => Or.inr c6, fun _ => rfl⟩⟩) dX10_isPattern_14

set_option maxHeartbeats 4000000 in
set_option maxRecDepth 100000 in
theorem k_X9_byteAt (l : Launch) (D : va_G) (cy : Nat → ClassId) (S : HS) (a : Nat) (ha : pq_R S a 12) (i : Int32) : pq_C l D cy yX9_byteAt cX9_byteAt 2 (some .int) 1 0 0 S [.ref a, .int i] (fun v S2 => S2 = S ∧ ∃ x : Int32, v = some (.int x) ∧ -1 ≤ x.toInt ∧ x.toInt ≤ 255 ∧ ((∀ t : Int32, hO S a 1 = .int t → t.toInt ≤ i.toInt → x = -1) ∧ (i.toInt < 0 → x = -1))) := by
  refine pq_start (by decide) (Nat.le_of_ble_eq_true rfl) ?_
  intro p e s m args below meth c A F hr hlk hnm hA
  have lqm1 : (-1 : Int32).toInt = -1 := rfl
  have lq0 : (0 : Int32).toInt = 0 := rfl
  have lq1 : (1 : Int32).toInt = 1 := rfl
  have lq255 : (255 : Int32).toInt = 255 := rfl
  refine pq_iload_n F dX9_byteAt_0 rfl rfl ?_
  refine pq_if_lt (tgt := 25) F dX9_byteAt_1 (by decide) (fun c1 => ?_) (fun c1 => ?_)
  · skip
    refine pq_iconst (v := -1) F dX9_byteAt_25 (by decide) ?_
    exact pq_iret F hr hlk hA (Nat.le_refl _) (Nat.le_refl _) (⟨rfl, -1, rfl, (by focus (simp only [vp_in_iff, Int32.lt_iff_toInt_lt, Int32.le_iff_toInt_le, ← Int32.toInt_inj, Int32.toInt_add, Int32.toInt_sub, Int32.toInt_mul, Int32.toInt_neg, pq_NuO, pq_NuI, pq_NuJ, pq_NuR, pq_shr6, pq_shr7, pq_shr8, lqm1, lq0, lq1, lq255] at *; (try simp (disch := omega) only [pq_bm] at *); all_goals omega)), (by focus (simp only [vp_in_iff, Int32.lt_iff_toInt_lt, Int32.le_iff_toInt_le, ← Int32.toInt_inj, Int32.toInt_add, Int32.toInt_sub, Int32.toInt_mul, Int32.toInt_neg, pq_NuO, pq_NuI, pq_NuJ, pq_NuR, pq_shr6, pq_shr7, pq_shr8, lqm1, lq0, lq1, lq255] at *; (try simp (disch := omega) only [pq_bm] at *); all_goals omega)), fun _ _ _ => rfl, fun _ => rfl⟩) dX9_byteAt_26
  · skip
    refine pq_iload_n F dX9_byteAt_4 rfl rfl ?_
    refine pq_aload_n F dX9_byteAt_5 rfl rfl ?_
    refine pq_getI F ha (by decide) lk_X9_15 rfl dX9_byteAt_6 (fun x6 e6 l6 u6 => ?_)
    refine pq_icmp_ge (tgt := 25) F dX9_byteAt_9 (by decide) (fun c9 => ?_) (fun c9 => ?_)
    · skip
      refine pq_iconst (v := -1) F dX9_byteAt_25 (by decide) ?_
      exact pq_iret F hr hlk hA (Nat.le_refl _) (Nat.le_refl _) (⟨rfl, -1, rfl, (by focus (simp only [vp_in_iff, Int32.lt_iff_toInt_lt, Int32.le_iff_toInt_le, ← Int32.toInt_inj, Int32.toInt_add, Int32.toInt_sub, Int32.toInt_mul, Int32.toInt_neg, pq_NuO, pq_NuI, pq_NuJ, pq_NuR, pq_shr6, pq_shr7, pq_shr8, lqm1, lq0, lq1, lq255] at *; (try simp (disch := omega) only [pq_bm] at *); all_goals omega)), (by focus (simp only [vp_in_iff, Int32.lt_iff_toInt_lt, Int32.le_iff_toInt_le, ← Int32.toInt_inj, Int32.toInt_add, Int32.toInt_sub, Int32.toInt_mul, Int32.toInt_neg, pq_NuO, pq_NuI, pq_NuJ, pq_NuR, pq_shr6, pq_shr7, pq_shr8, lqm1, lq0, lq1, lq255] at *; (try simp (disch := omega) only [pq_bm] at *); all_goals omega)), fun _ _ _ => rfl, fun _ => rfl⟩) dX9_byteAt_26
    · skip
      refine pq_aload_n F dX9_byteAt_12 rfl rfl ?_
      refine pq_getR F ha (by decide) lk_X9_9 rfl dX9_byteAt_13 (fun r13 e13 h13 => ?_)
      refine pq_iload_n F dX9_byteAt_16 rfl rfl ?_
      refine pq_bald F h13 (by decide) (by decide) rfl (fun n1_17 n2_17 => (by focus (simp only [vp_in_iff, Int32.lt_iff_toInt_lt, Int32.le_iff_toInt_le, ← Int32.toInt_inj, Int32.toInt_add, Int32.toInt_sub, Int32.toInt_mul, Int32.toInt_neg, pq_NuO, pq_NuI, pq_NuJ, pq_NuR, pq_shr6, pq_shr7, pq_shr8, lqm1, lq0, lq1, lq255] at *; (try simp (disch := omega) only [pq_bm] at *); all_goals omega))) dX9_byteAt_17 (fun x17 e17 l17 u17 => ?_)
      refine pq_sipush (v := 255) F dX9_byteAt_18 (by decide) ?_
      have z17 := pq_and255 x17
      refine pq_iand F dX9_byteAt_21 ?_
      refine pq_goto (tgt := 26) F dX9_byteAt_22 (by decide) ?_
      exact pq_iret F hr hlk hA (Nat.le_refl _) (Nat.le_refl _) (⟨rfl, _, rfl, (by focus (simp only [vp_in_iff, Int32.lt_iff_toInt_lt, Int32.le_iff_toInt_le, ← Int32.toInt_inj, Int32.toInt_add, Int32.toInt_sub, Int32.toInt_mul, Int32.toInt_neg, pq_NuO, pq_NuI, pq_NuJ, pq_NuR, pq_shr6, pq_shr7, pq_shr8, lqm1, lq0, lq1, lq255] at *; (try simp (disch := omega) only [pq_bm] at *); all_goals omega)), z17.2, fun t ht hl => absurd c9 (by rw [e6] at ht; cases ht; focus (simp only [vp_in_iff, Int32.lt_iff_toInt_lt, Int32.le_iff_toInt_le, ← Int32.toInt_inj, Int32.toInt_add, Int32.toInt_sub, Int32.toInt_mul, Int32.toInt_neg, pq_NuO, pq_NuI, pq_NuJ, pq_NuR, pq_shr6, pq_shr7, pq_shr8, lqm1, lq0, lq1, lq255] at *; (try simp (disch := omega) only [pq_bm] at *); all_goals omega)), fun z => absurd c1 (by focus (simp only [vp_in_iff, Int32.lt_iff_toInt_lt, Int32.le_iff_toInt_le, ← Int32.toInt_inj, Int32.toInt_add, Int32.toInt_sub, Int32.toInt_mul, Int32.toInt_neg, pq_NuO, pq_NuI, pq_NuJ, pq_NuR, pq_shr6, pq_shr7, pq_shr8, lqm1, lq0, lq1, lq255] at *; (try simp (disch := omega) only [pq_bm] at *); all_goals omega))⟩) dX9_byteAt_26

