set_option maxHeartbeats 4000000 in
set_option maxRecDepth 100000 in
theorem k_J7_fillI (l : Launch) (D : va_G) (cy : Nat → ClassId) (S : HS) (b rb : Nat) (hb : pq_R S b rb) (kb0 : 120 ≤ rb) (kb1 : rb < 180) (lo : Int32) (hlo0 : 0 ≤ lo.toInt) (hi : Int32) (vv : Int32) (h1 : lo.toInt ≤ hi.toInt) (h2 : hi.toInt ≤ (hN S b : Int)) (hb9 : hN S b ≤ 1000000) (hv : (pq_al rb).2.2.1 ≤ vv.toInt ∧ vv.toInt ≤ (pq_al rb).2.2.2) : pq_C l D cy yJ7_fill_fda19 cJ7_fill_fda19 5 (none) 2 0 0 S [.ref b, .int lo, .int hi, .int vv] (fun v S2 => v = none ∧ ∃ f : Nat → Int32, S2 = pq_uI S b f ∧ (∀ i : Nat, lo.toInt ≤ (i : Int) → (i : Int) < hi.toInt → f i = vv)) := by
  refine pq_start (by decide) (Nat.le_of_ble_eq_true rfl) ?_
  intro p e s m args below meth c A F hr hlk hnm hA
  have lqm1 : (-1 : Int32).toInt = -1 := rfl
  have lq0 : (0 : Int32).toInt = 0 := rfl
  have lq1 : (1 : Int32).toInt = 1 := rfl
  have L10 : ∀  (fu : Nat) (S1 : HS) (k : Int32)  (hF : ∃ f : Nat → Int32, S1 = pq_uI S b f ∧ ∀ i : Nat, lo.toInt ≤ (i : Int) → (i : Int) < k.toInt → f i = vv) (hk0 : 0 ≤ k.toInt) (hk1 : k.toInt ≤ hi.toInt), (hi.toInt - k.toInt).toNat < fu → pq_At p l e (pq_rm 2 0 0) s m args below meth c (pq_Z below args s D cy S 0 0 (fun v S2 => v = none ∧ ∃ f : Nat → Int32, S2 = pq_uI S b f ∧ (∀ i : Nat, lo.toInt ≤ (i : Int) → (i : Int) < hi.toInt → f i = vv))) D cy A 5 0 0 10 S1 [some (.ref b), some (.int lo), some (.int hi), some (.int vv), some (.int k)] [] := by
    intro  fu
    induction fu with
    | zero => intro S1 k hF hk0 hk1 hm; exact absurd hm (Nat.not_lt_zero _)
    | succ fu ih =>
      intro S1 k hF hk0 hk1 hm
      obtain ⟨f0, rfl, hf0⟩ := hF
      have hbL := hb
      refine pq_iload F dJ7_fill_fda19_10 rfl ?_
      refine pq_iload_n F dJ7_fill_fda19_12 rfl rfl ?_
      refine pq_icmp_ge (tgt := 27) F dJ7_fill_fda19_13 (by decide) (fun c13 => ?_) (fun c13 => ?_)
      · skip
        exact pq_vret F hr hlk hA (Nat.le_refl _) (Nat.le_refl _) (⟨rfl, _, rfl, fun i hi1 hi2 => hf0 i hi1 (by focus ((try clear hv); (try clear hf0); simp only [vp_in_iff, Int32.lt_iff_toInt_lt, Int32.le_iff_toInt_le, ← Int32.toInt_inj, Int32.toInt_add, Int32.toInt_sub, Int32.toInt_mul, Int32.toInt_neg, pq_NuO, pq_NuI, pq_NuJ, pq_NuR, pq_shr6, pq_shr7, pq_shr8, lqm1, lq0, lq1] at *; (try simp (disch := omega) only [pq_bm] at *); all_goals omega))⟩) dJ7_fill_fda19_27
      · skip
        refine pq_aload_n F dJ7_fill_fda19_16 rfl rfl ?_
        refine pq_iload F dJ7_fill_fda19_17 rfl ?_
        refine pq_iload_n F dJ7_fill_fda19_19 rfl rfl ?_
        refine pq_iast F hbL kb0 kb1 rfl (fun n1_20 n2_20 => (by focus ((try clear hv); (try clear hf0); simp only [vp_in_iff, Int32.lt_iff_toInt_lt, Int32.le_iff_toInt_le, ← Int32.toInt_inj, Int32.toInt_add, Int32.toInt_sub, Int32.toInt_mul, Int32.toInt_neg, pq_NuO, pq_NuI, pq_NuJ, pq_NuR, pq_shr6, pq_shr7, pq_shr8, lqm1, lq0, lq1] at *; (try simp (disch := omega) only [pq_bm] at *); all_goals omega))) (hv) dJ7_fill_fda19_20 ?_
        refine pq_iinc (v := 1) F dJ7_fill_fda19_21 rfl (by decide) (by decide) ?_
        refine pq_goto (tgt := 10) F dJ7_fill_fda19_24 (by decide) ?_
        exact pq_fgm [true, true, true, true, true] (ih _ _ ⟨_, pq_uII, fun i hi1 hi2 => (by rw [pq_Ia]; have ck := pq_cl hk0; exact (if z9 : i = k.toNatClampNeg then (by rw [z9, pk_us]) else (by rw [pk_un z9]; exact hf0 i hi1 (by focus ((try clear hv); (try clear hf0); simp only [vp_in_iff, Int32.lt_iff_toInt_lt, Int32.le_iff_toInt_le, ← Int32.toInt_inj, Int32.toInt_add, Int32.toInt_sub, Int32.toInt_mul, Int32.toInt_neg, pq_NuO, pq_NuI, pq_NuJ, pq_NuR, pq_shr6, pq_shr7, pq_shr8, lqm1, lq0, lq1] at *; (try simp (disch := omega) only [pq_bm] at *); all_goals omega)))))⟩ (by focus ((try clear hv); (try clear hf0); simp only [vp_in_iff, Int32.lt_iff_toInt_lt, Int32.le_iff_toInt_le, ← Int32.toInt_inj, Int32.toInt_add, Int32.toInt_sub, Int32.toInt_mul, Int32.toInt_neg, pq_NuO, pq_NuI, pq_NuJ, pq_NuR, pq_shr6, pq_shr7, pq_shr8, lqm1, lq0, lq1] at *; (try simp (disch := omega) only [pq_bm] at *); all_goals omega)) (by focus ((try clear hv); (try clear hf0); simp only [vp_in_iff, Int32.lt_iff_toInt_lt, Int32.le_iff_toInt_le, ← Int32.toInt_inj, Int32.toInt_add, Int32.toInt_sub, Int32.toInt_mul, Int32.toInt_neg, pq_NuO, pq_NuI, pq_NuJ, pq_NuR, pq_shr6, pq_shr7, pq_shr8, lqm1, lq0, lq1] at *; (try simp (disch := omega) only [pq_bm] at *); all_goals omega)) (by focus ((try clear hv); (try clear hf0); simp only [vp_in_iff, Int32.lt_iff_toInt_lt, Int32.le_iff_toInt_le, ← Int32.toInt_inj, Int32.toInt_add, Int32.toInt_sub, Int32.toInt_mul, Int32.toInt_neg, pq_NuO, pq_NuI, pq_NuJ, pq_NuR, pq_shr6, pq_shr7, pq_shr8, lqm1, lq0, lq1] at *; (try simp (disch := omega) only [pq_bm] at *); all_goals omega)))
  refine pq_aload_n F dJ7_fill_fda19_0 rfl rfl ?_
  refine pq_alen F hb (by omega) rfl dJ7_fill_fda19_1 (fun l1 u1 => ?_)
  skip
  refine pq_iload_n F dJ7_fill_fda19_2 rfl rfl ?_
  refine pq_iload_n F dJ7_fill_fda19_3 rfl rfl ?_
  have nq1 := nI_toInt (n := hN S b) (by omega)
  refine pq_callS (As := [_, _, _]) F (k_J7_rangeCheck_23922 l D cy _ _ _ ?_ _ ?_ ?_) ml_J7_13 (Nat.le_of_ble_eq_true rfl) ⟨Nat.le_of_ble_eq_true rfl, Nat.le_of_ble_eq_true rfl⟩ ⟨by decide, by decide⟩ dJ7_fill_fda19_4 (fun v4 S4 w4 => ?_)
  · focus ((try clear hv); (try clear hf0); simp only [vp_in_iff, Int32.lt_iff_toInt_lt, Int32.le_iff_toInt_le, ← Int32.toInt_inj, Int32.toInt_add, Int32.toInt_sub, Int32.toInt_mul, Int32.toInt_neg, pq_NuO, pq_NuI, pq_NuJ, pq_NuR, pq_shr6, pq_shr7, pq_shr8, lqm1, lq0, lq1] at *; (try simp (disch := omega) only [pq_bm] at *); all_goals omega)
  · focus ((try clear hv); (try clear hf0); simp only [vp_in_iff, Int32.lt_iff_toInt_lt, Int32.le_iff_toInt_le, ← Int32.toInt_inj, Int32.toInt_add, Int32.toInt_sub, Int32.toInt_mul, Int32.toInt_neg, pq_NuO, pq_NuI, pq_NuJ, pq_NuR, pq_shr6, pq_shr7, pq_shr8, lqm1, lq0, lq1] at *; (try simp (disch := omega) only [pq_bm] at *); all_goals omega)
  · focus ((try clear hv); (try clear hf0); simp only [vp_in_iff, Int32.lt_iff_toInt_lt, Int32.le_iff_toInt_le, ← Int32.toInt_inj, Int32.toInt_add, Int32.toInt_sub, Int32.toInt_mul, Int32.toInt_neg, pq_NuO, pq_NuI, pq_NuJ, pq_NuR, pq_shr6, pq_shr7, pq_shr8, lqm1, lq0, lq1] at *; (try simp (disch := omega) only [pq_bm] at *); all_goals omega)
  obtain ⟨rfl, u4⟩ := w4
  rw [u4]
  refine pq_iload_n F dJ7_fill_fda19_7 rfl rfl ?_
  refine pq_istore F dJ7_fill_fda19_8 (by decide) ?_
  exact pq_fgm [true, true, true, true, true] (L10 (hN S b + 1) _ _ ⟨_, pq_uIs, fun i hi1 hi2 => absurd hi2 (Int.not_lt.mpr hi1)⟩ (by focus ((try clear hv); (try clear hf0); simp only [vp_in_iff, Int32.lt_iff_toInt_lt, Int32.le_iff_toInt_le, ← Int32.toInt_inj, Int32.toInt_add, Int32.toInt_sub, Int32.toInt_mul, Int32.toInt_neg, pq_NuO, pq_NuI, pq_NuJ, pq_NuR, pq_shr6, pq_shr7, pq_shr8, lqm1, lq0, lq1] at *; (try simp (disch := omega) only [pq_bm] at *); all_goals omega)) (by focus ((try clear hv); (try clear hf0); simp only [vp_in_iff, Int32.lt_iff_toInt_lt, Int32.le_iff_toInt_le, ← Int32.toInt_inj, Int32.toInt_add, Int32.toInt_sub, Int32.toInt_mul, Int32.toInt_neg, pq_NuO, pq_NuI, pq_NuJ, pq_NuR, pq_shr6, pq_shr7, pq_shr8, lqm1, lq0, lq1] at *; (try simp (disch := omega) only [pq_bm] at *); all_goals omega)) (by focus ((try clear hv); (try clear hf0); simp only [vp_in_iff, Int32.lt_iff_toInt_lt, Int32.le_iff_toInt_le, ← Int32.toInt_inj, Int32.toInt_add, Int32.toInt_sub, Int32.toInt_mul, Int32.toInt_neg, pq_NuO, pq_NuI, pq_NuJ, pq_NuR, pq_shr6, pq_shr7, pq_shr8, lqm1, lq0, lq1] at *; (try simp (disch := omega) only [pq_bm] at *); all_goals omega)))

set_option maxHeartbeats 4000000 in
set_option maxRecDepth 100000 in
theorem k_J7_fill166 (l : Launch) (D : va_G) (cy : Nat → ClassId) (S : HS) (b : Nat) (hb : pq_R S b 166) (vv : Int32) (hvv0 : 0 ≤ vv.toInt) (hvv1 : vv.toInt ≤ 401) : pq_C l D cy yJ7_fill_53178 cJ7_fill_53178 4 (none) 1 0 0 S [.ref b, .int vv] (fun v S2 => v = none ∧ pq_Fr [(166, 0)] S S2 ∧ (∀ i : Nat, i < 1024 → hI S2 b i = vv)) := by
  refine pq_start (by decide) (Nat.le_of_ble_eq_true rfl) ?_
  intro p e s m args below meth c A F hr hlk hnm hA
  have lqm1 : (-1 : Int32).toInt = -1 := rfl
  have lq0 : (0 : Int32).toInt = 0 := rfl
  have lq1 : (1 : Int32).toInt = 1 := rfl
  have L5 : ∀  (fu : Nat) (S1 : HS) (k : Int32) (n : Int32)  (hF : pq_Fr [(166, 0)] S S1) (hk0 : 0 ≤ k.toInt) (hn0 : n.toInt = 1024) (hf0 : ∀ i : Nat, (i : Int) < k.toInt → hI S1 b i = vv), (1024 - k.toInt).toNat < fu → pq_At p l e (pq_rm 1 0 0) s m args below meth c (pq_Z below args s D cy S 0 0 (fun v S2 => v = none ∧ pq_Fr [(166, 0)] S S2 ∧ (∀ i : Nat, i < 1024 → hI S2 b i = vv))) D cy A 4 0 0 5 S1 [some (.ref b), some (.int vv), some (.int k), some (.int n)] [] := by
    intro  fu
    induction fu with
    | zero => intro S1 k n hF hk0 hn0 hf0 hm; exact absurd hm (Nat.not_lt_zero _)
    | succ fu ih =>
      intro S1 k n hF hk0 hn0 hf0 hm
      have hbL := hF.R hb (by first | decide | omega)
      refine pq_iload_n F dJ7_fill_53178_5 rfl rfl ?_
      refine pq_iload_n F dJ7_fill_53178_6 rfl rfl ?_
      refine pq_icmp_ge (tgt := 20) F dJ7_fill_53178_7 (by decide) (fun c7 => ?_) (fun c7 => ?_)
      · skip
        exact pq_vret F hr hlk hA (Nat.le_refl _) (Nat.le_refl _) (⟨rfl, hF, fun i hi => hf0 i (by focus ((try clear hf0); simp only [vp_in_iff, Int32.lt_iff_toInt_lt, Int32.le_iff_toInt_le, ← Int32.toInt_inj, Int32.toInt_add, Int32.toInt_sub, Int32.toInt_mul, Int32.toInt_neg, pq_NuO, pq_NuI, pq_NuJ, pq_NuR, pq_shr6, pq_shr7, pq_shr8, lqm1, lq0, lq1] at *; (try simp (disch := omega) only [pq_bm] at *); all_goals omega))⟩) dJ7_fill_53178_20
      · skip
        refine pq_aload_n F dJ7_fill_53178_10 rfl rfl ?_
        refine pq_iload_n F dJ7_fill_53178_11 rfl rfl ?_
        refine pq_iload_n F dJ7_fill_53178_12 rfl rfl ?_
        refine pq_iast F hbL (by decide) (by decide) rfl (fun n1_13 n2_13 => (by focus ((try clear hf0); simp only [vp_in_iff, Int32.lt_iff_toInt_lt, Int32.le_iff_toInt_le, ← Int32.toInt_inj, Int32.toInt_add, Int32.toInt_sub, Int32.toInt_mul, Int32.toInt_neg, pq_NuO, pq_NuI, pq_NuJ, pq_NuR, pq_shr6, pq_shr7, pq_shr8, lqm1, lq0, lq1] at *; (try simp (disch := omega) only [pq_bm] at *); all_goals omega))) (⟨(by focus ((try clear hf0); simp only [vp_in_iff, Int32.lt_iff_toInt_lt, Int32.le_iff_toInt_le, ← Int32.toInt_inj, Int32.toInt_add, Int32.toInt_sub, Int32.toInt_mul, Int32.toInt_neg, pq_NuO, pq_NuI, pq_NuJ, pq_NuR, pq_shr6, pq_shr7, pq_shr8, lqm1, lq0, lq1] at *; (try simp (disch := omega) only [pq_bm] at *); all_goals omega)), (by focus ((try clear hf0); simp only [vp_in_iff, Int32.lt_iff_toInt_lt, Int32.le_iff_toInt_le, ← Int32.toInt_inj, Int32.toInt_add, Int32.toInt_sub, Int32.toInt_mul, Int32.toInt_neg, pq_NuO, pq_NuI, pq_NuJ, pq_NuR, pq_shr6, pq_shr7, pq_shr8, lqm1, lq0, lq1] at *; (try simp (disch := omega) only [pq_bm] at *); all_goals omega))⟩) dJ7_fill_53178_13 ?_
        refine pq_iinc (v := 1) F dJ7_fill_53178_14 rfl (by decide) (by decide) ?_
        refine pq_goto (tgt := 5) F dJ7_fill_53178_17 (by decide) ?_
        exact pq_fgm [true, true, true, true] (ih _ _ _ (hF.uI hbL (by first | decide | exact List.mem_cons_self)) (by focus ((try clear hf0); simp only [vp_in_iff, Int32.lt_iff_toInt_lt, Int32.le_iff_toInt_le, ← Int32.toInt_inj, Int32.toInt_add, Int32.toInt_sub, Int32.toInt_mul, Int32.toInt_neg, pq_NuO, pq_NuI, pq_NuJ, pq_NuR, pq_shr6, pq_shr7, pq_shr8, lqm1, lq0, lq1] at *; (try simp (disch := omega) only [pq_bm] at *); all_goals omega)) (by focus ((try clear hf0); simp only [vp_in_iff, Int32.lt_iff_toInt_lt, Int32.le_iff_toInt_le, ← Int32.toInt_inj, Int32.toInt_add, Int32.toInt_sub, Int32.toInt_mul, Int32.toInt_neg, pq_NuO, pq_NuI, pq_NuJ, pq_NuR, pq_shr6, pq_shr7, pq_shr8, lqm1, lq0, lq1] at *; (try simp (disch := omega) only [pq_bm] at *); all_goals omega)) (fun i hi => (by rw [pq_Ia]; have ck := pq_cl hk0; exact (if z9 : i = k.toNatClampNeg then (by rw [z9, pk_us]) else (by rw [pk_un z9]; exact hf0 i (by focus ((try clear hf0); simp only [vp_in_iff, Int32.lt_iff_toInt_lt, Int32.le_iff_toInt_le, ← Int32.toInt_inj, Int32.toInt_add, Int32.toInt_sub, Int32.toInt_mul, Int32.toInt_neg, pq_NuO, pq_NuI, pq_NuJ, pq_NuR, pq_shr6, pq_shr7, pq_shr8, lqm1, lq0, lq1] at *; (try simp (disch := omega) only [pq_bm] at *); all_goals omega)))))) (by focus ((try clear hf0); simp only [vp_in_iff, Int32.lt_iff_toInt_lt, Int32.le_iff_toInt_le, ← Int32.toInt_inj, Int32.toInt_add, Int32.toInt_sub, Int32.toInt_mul, Int32.toInt_neg, pq_NuO, pq_NuI, pq_NuJ, pq_NuR, pq_shr6, pq_shr7, pq_shr8, lqm1, lq0, lq1] at *; (try simp (disch := omega) only [pq_bm] at *); all_goals omega)))
  refine pq_iconst (v := 0) F dJ7_fill_53178_0 (by decide) ?_
  refine pq_istore_n F dJ7_fill_53178_1 rfl (by decide) ?_
  refine pq_aload_n F dJ7_fill_53178_2 rfl rfl ?_
  refine pq_alen F hb (by decide) rfl dJ7_fill_53178_3 (fun l3 u3 => ?_)
  have nq3 := nI_toInt (n := hN _ b) (Nat.lt_of_le_of_lt u3 (by decide))
  refine pq_istore_n F dJ7_fill_53178_4 rfl (by decide) ?_
  exact pq_fgm [true, true, true, true] (L5  100000 _ _ _  pq_Fr.rf (by focus ((try clear hf0); simp only [vp_in_iff, Int32.lt_iff_toInt_lt, Int32.le_iff_toInt_le, ← Int32.toInt_inj, Int32.toInt_add, Int32.toInt_sub, Int32.toInt_mul, Int32.toInt_neg, pq_NuO, pq_NuI, pq_NuJ, pq_NuR, pq_shr6, pq_shr7, pq_shr8, lqm1, lq0, lq1] at *; (try simp (disch := omega) only [pq_bm] at *); all_goals omega)) (by focus ((try clear hf0); simp only [vp_in_iff, Int32.lt_iff_toInt_lt, Int32.le_iff_toInt_le, ← Int32.toInt_inj, Int32.toInt_add, Int32.toInt_sub, Int32.toInt_mul, Int32.toInt_neg, pq_NuO, pq_NuI, pq_NuJ, pq_NuR, pq_shr6, pq_shr7, pq_shr8, lqm1, lq0, lq1] at *; (try simp (disch := omega) only [pq_bm] at *); all_goals omega)) (fun i hi => absurd hi (by focus ((try clear hf0); simp only [vp_in_iff, Int32.lt_iff_toInt_lt, Int32.le_iff_toInt_le, ← Int32.toInt_inj, Int32.toInt_add, Int32.toInt_sub, Int32.toInt_mul, Int32.toInt_neg, pq_NuO, pq_NuI, pq_NuJ, pq_NuR, pq_shr6, pq_shr7, pq_shr8, lqm1, lq0, lq1] at *; (try simp (disch := omega) only [pq_bm] at *); all_goals omega))) (by focus ((try clear hf0); simp only [vp_in_iff, Int32.lt_iff_toInt_lt, Int32.le_iff_toInt_le, ← Int32.toInt_inj, Int32.toInt_add, Int32.toInt_sub, Int32.toInt_mul, Int32.toInt_neg, pq_NuO, pq_NuI, pq_NuJ, pq_NuR, pq_shr6, pq_shr7, pq_shr8, lqm1, lq0, lq1] at *; (try simp (disch := omega) only [pq_bm] at *); all_goals omega)))

set_option maxHeartbeats 4000000 in
set_option maxRecDepth 100000 in
theorem k_X10_row167 (l : Launch) (D : va_G) (cy : Nat → ClassId) (S : HS) (nd : Int32) (hnd0 : 0 ≤ nd.toInt) (hnd1 : nd.toInt ≤ 51456) (rw : Nat) (hrw : pq_R S rw 167) (w : Nat) (hw : nd.toInt ≤ (hN S rw : Int) ∨ (nd.toInt ≤ (w : Int) ∧ 2 * (hN S rw : Int) ≤ (w : Int))) : pq_C l D cy yX10_rowFor cX10_rowFor 2 (some (.array .int)) 1 1 w S [.int nd, .ref rw] (fun v S2 => pq_Fr [] S S2 ∧ ∃ x : Nat, v = some (.ref x) ∧ pq_R S2 x 167 ∧ ((nd.toInt ≤ (hN S rw : Int) ∧ S2 = S ∧ x = rw) ∨ ((hN S rw : Int) < nd.toInt ∧ nd.toInt ≤ (hN S2 x : Int) ∧ 2 * hN S rw ≤ hN S2 x ∧ ((hN S2 x : Int) = nd.toInt ∨ hN S2 x = 2 * hN S rw) ∧ x ∉ S.1))) := by
  refine pq_start (by decide) (Nat.le_of_ble_eq_true rfl) ?_
  intro p e s m args below meth c A F hr hlk hnm hA
  have lqm1 : (-1 : Int32).toInt = -1 := rfl
  have lq0 : (0 : Int32).toInt = 0 := rfl
  have lq1 : (1 : Int32).toInt = 1 := rfl
  have lq2 : (2 : Int32).toInt = 2 := rfl
  refine pq_aload_n F dX10_rowFor_0 rfl rfl ?_
  refine pq_alen F hrw (by decide) rfl dX10_rowFor_1 (fun l1 u1 => ?_)
  have nq1 := nI_toInt (n := hN _ rw) (Nat.lt_of_le_of_lt u1 (by decide))
  refine pq_iload_n F dX10_rowFor_2 rfl rfl ?_
  refine pq_icmp_lt (tgt := 10) F dX10_rowFor_3 (by decide) (fun c3 => ?_) (fun c3 => ?_)
  · skip
    refine pq_iload_n F dX10_rowFor_10 rfl rfl ?_
    refine pq_iconst (v := 2) F dX10_rowFor_11 (by decide) ?_
    refine pq_aload_n F dX10_rowFor_12 rfl rfl ?_
    refine pq_alen F hrw (by decide) rfl dX10_rowFor_13 (fun l13 u13 => ?_)
    have nq13 := nI_toInt (n := hN _ rw) (Nat.lt_of_le_of_lt u13 (by decide))
    refine pq_imul F dX10_rowFor_14 ?_
    refine pq_mmax F mx_X10_164 ⟨Nat.le_of_ble_eq_true rfl, Nat.le_of_ble_eq_true rfl⟩ (Nat.zero_le _) (Nat.zero_le _) dX10_rowFor_15 (fun y15 yl15_0 yl15_1 yl15_2 => ?_)
    have cy := pq_cl (x := y15) (by focus (simp only [vp_in_iff, Int32.lt_iff_toInt_lt, Int32.le_iff_toInt_le, ← Int32.toInt_inj, Int32.toInt_add, Int32.toInt_sub, Int32.toInt_mul, Int32.toInt_neg, pq_NuO, pq_NuI, pq_NuJ, pq_NuR, pq_shr6, pq_shr7, pq_shr8, lqm1, lq0, lq1, lq2] at *; (try simp (disch := omega) only [pq_bm] at *); all_goals omega))
    refine pq_newI F (r := 167) (n := y15.toNatClampNeg) (by decide) (by decide) ac_int rfl (by decide) (by focus (simp only [vp_in_iff, Int32.lt_iff_toInt_lt, Int32.le_iff_toInt_le, ← Int32.toInt_inj, Int32.toInt_add, Int32.toInt_sub, Int32.toInt_mul, Int32.toInt_neg, pq_NuO, pq_NuI, pq_NuJ, pq_NuR, pq_shr6, pq_shr7, pq_shr8, lqm1, lq0, lq1, lq2] at *; (try simp (disch := omega) only [pq_bm] at *); all_goals omega)) rfl ⟨(by focus (simp only [vp_in_iff, Int32.lt_iff_toInt_lt, Int32.le_iff_toInt_le, ← Int32.toInt_inj, Int32.toInt_add, Int32.toInt_sub, Int32.toInt_mul, Int32.toInt_neg, pq_NuO, pq_NuI, pq_NuJ, pq_NuR, pq_shr6, pq_shr7, pq_shr8, lqm1, lq0, lq1, lq2] at *; (try simp (disch := omega) only [pq_bm] at *); all_goals omega)), (by focus (simp only [vp_in_iff, Int32.lt_iff_toInt_lt, Int32.le_iff_toInt_le, ← Int32.toInt_inj, Int32.toInt_add, Int32.toInt_sub, Int32.toInt_mul, Int32.toInt_neg, pq_NuO, pq_NuI, pq_NuJ, pq_NuR, pq_shr6, pq_shr7, pq_shr8, lqm1, lq0, lq1, lq2] at *; (try simp (disch := omega) only [pq_bm] at *); all_goals omega))⟩ (by focus (simp only [vp_in_iff, Int32.lt_iff_toInt_lt, Int32.le_iff_toInt_le, ← Int32.toInt_inj, Int32.toInt_add, Int32.toInt_sub, Int32.toInt_mul, Int32.toInt_neg, pq_NuO, pq_NuI, pq_NuJ, pq_NuR, pq_shr6, pq_shr7, pq_shr8, lqm1, lq0, lq1, lq2] at *; (try simp (disch := omega) only [pq_bm] at *); all_goals omega)) (Nat.le_refl _) (by show 0 + y15.toNatClampNeg ≤ w; focus (simp only [vp_in_iff, Int32.lt_iff_toInt_lt, Int32.le_iff_toInt_le, ← Int32.toInt_inj, Int32.toInt_add, Int32.toInt_sub, Int32.toInt_mul, Int32.toInt_neg, pq_NuO, pq_NuI, pq_NuJ, pq_NuR, pq_shr6, pq_shr7, pq_shr8, lqm1, lq0, lq1, lq2] at *; (try simp (disch := omega) only [pq_bm] at *); all_goals omega)) dX10_rowFor_18 (fun q18 nq18 h18 => ?_)
    have hrw_18 := pq_nR (r := 167) (n := y15.toNatClampNeg) (ds := (fun _ => Value.null)) nq18 hrw
    exact pq_aret F hr (by first | exact Or.inl ⟨_, rfl⟩ | exact Or.inr ⟨_, rfl⟩) hlk hA (Nat.le_refl _) (by show 0 + y15.toNatClampNeg ≤ w; focus (simp only [vp_in_iff, Int32.lt_iff_toInt_lt, Int32.le_iff_toInt_le, ← Int32.toInt_inj, Int32.toInt_add, Int32.toInt_sub, Int32.toInt_mul, Int32.toInt_neg, pq_NuO, pq_NuI, pq_NuJ, pq_NuR, pq_shr6, pq_shr7, pq_shr8, lqm1, lq0, lq1, lq2] at *; (try simp (disch := omega) only [pq_bm] at *); all_goals omega)) (⟨(pq_Fr.rf.nw nq18), q18, rfl, h18, Or.inr ⟨(by focus (simp only [vp_in_iff, Int32.lt_iff_toInt_lt, Int32.le_iff_toInt_le, ← Int32.toInt_inj, Int32.toInt_add, Int32.toInt_sub, Int32.toInt_mul, Int32.toInt_neg, pq_NuO, pq_NuI, pq_NuJ, pq_NuR, pq_shr6, pq_shr7, pq_shr8, lqm1, lq0, lq1, lq2] at *; (try simp (disch := omega) only [pq_bm] at *); all_goals omega)), (by rw [pq_nN]; focus (simp only [vp_in_iff, Int32.lt_iff_toInt_lt, Int32.le_iff_toInt_le, ← Int32.toInt_inj, Int32.toInt_add, Int32.toInt_sub, Int32.toInt_mul, Int32.toInt_neg, pq_NuO, pq_NuI, pq_NuJ, pq_NuR, pq_shr6, pq_shr7, pq_shr8, lqm1, lq0, lq1, lq2] at *; (try simp (disch := omega) only [pq_bm] at *); all_goals omega)), (by rw [pq_nN]; focus (simp only [vp_in_iff, Int32.lt_iff_toInt_lt, Int32.le_iff_toInt_le, ← Int32.toInt_inj, Int32.toInt_add, Int32.toInt_sub, Int32.toInt_mul, Int32.toInt_neg, pq_NuO, pq_NuI, pq_NuJ, pq_NuR, pq_shr6, pq_shr7, pq_shr8, lqm1, lq0, lq1, lq2] at *; (try simp (disch := omega) only [pq_bm] at *); all_goals omega)), (by rw [pq_nN]; focus (simp only [vp_in_iff, Int32.lt_iff_toInt_lt, Int32.le_iff_toInt_le, ← Int32.toInt_inj, Int32.toInt_add, Int32.toInt_sub, Int32.toInt_mul, Int32.toInt_neg, pq_NuO, pq_NuI, pq_NuJ, pq_NuR, pq_shr6, pq_shr7, pq_shr8, lqm1, lq0, lq1, lq2] at *; (try simp (disch := omega) only [pq_bm] at *); all_goals omega)), nq18⟩⟩) dX10_rowFor_20
  · skip
    refine pq_aload_n F dX10_rowFor_6 rfl rfl ?_
    refine pq_goto (tgt := 20) F dX10_rowFor_7 (by decide) ?_
    exact pq_aret F hr (by first | exact Or.inl ⟨_, rfl⟩ | exact Or.inr ⟨_, rfl⟩) hlk hA (Nat.zero_le _) (Nat.zero_le _) (⟨pq_Fr.rf, rw, rfl, hrw, Or.inl ⟨(by focus (simp only [vp_in_iff, Int32.lt_iff_toInt_lt, Int32.le_iff_toInt_le, ← Int32.toInt_inj, Int32.toInt_add, Int32.toInt_sub, Int32.toInt_mul, Int32.toInt_neg, pq_NuO, pq_NuI, pq_NuJ, pq_NuR, pq_shr6, pq_shr7, pq_shr8, lqm1, lq0, lq1, lq2] at *; (try simp (disch := omega) only [pq_bm] at *); all_goals omega)), rfl, rfl⟩⟩) dX10_rowFor_20

set_option maxHeartbeats 4000000 in
set_option maxRecDepth 100000 in
theorem k_X10_row152 (l : Launch) (D : va_G) (cy : Nat → ClassId) (S : HS) (nd : Int32) (hnd0 : 0 ≤ nd.toInt) (hnd1 : nd.toInt ≤ 25728) (rw : Nat) (hrw : pq_R S rw 152) (w : Nat) (hw : nd.toInt ≤ (hN S rw : Int) ∨ (nd.toInt ≤ (w : Int) ∧ 2 * (hN S rw : Int) ≤ (w : Int))) : pq_C l D cy yX10_rowFor cX10_rowFor 2 (some (.array .int)) 1 1 w S [.int nd, .ref rw] (fun v S2 => pq_Fr [] S S2 ∧ ∃ x : Nat, v = some (.ref x) ∧ pq_R S2 x 152 ∧ ((nd.toInt ≤ (hN S rw : Int) ∧ S2 = S ∧ x = rw) ∨ ((hN S rw : Int) < nd.toInt ∧ nd.toInt ≤ (hN S2 x : Int) ∧ 2 * hN S rw ≤ hN S2 x ∧ ((hN S2 x : Int) = nd.toInt ∨ hN S2 x = 2 * hN S rw) ∧ x ∉ S.1))) := by
  refine pq_start (by decide) (Nat.le_of_ble_eq_true rfl) ?_
  intro p e s m args below meth c A F hr hlk hnm hA
  have lqm1 : (-1 : Int32).toInt = -1 := rfl
  have lq0 : (0 : Int32).toInt = 0 := rfl
  have lq1 : (1 : Int32).toInt = 1 := rfl
  have lq2 : (2 : Int32).toInt = 2 := rfl
  refine pq_aload_n F dX10_rowFor_0 rfl rfl ?_
  refine pq_alen F hrw (by decide) rfl dX10_rowFor_1 (fun l1 u1 => ?_)
  have nq1 := nI_toInt (n := hN _ rw) (Nat.lt_of_le_of_lt u1 (by decide))
  refine pq_iload_n F dX10_rowFor_2 rfl rfl ?_
  refine pq_icmp_lt (tgt := 10) F dX10_rowFor_3 (by decide) (fun c3 => ?_) (fun c3 => ?_)
  · skip
    refine pq_iload_n F dX10_rowFor_10 rfl rfl ?_
    refine pq_iconst (v := 2) F dX10_rowFor_11 (by decide) ?_
    refine pq_aload_n F dX10_rowFor_12 rfl rfl ?_
    refine pq_alen F hrw (by decide) rfl dX10_rowFor_13 (fun l13 u13 => ?_)
    have nq13 := nI_toInt (n := hN _ rw) (Nat.lt_of_le_of_lt u13 (by decide))
    refine pq_imul F dX10_rowFor_14 ?_
    refine pq_mmax F mx_X10_164 ⟨Nat.le_of_ble_eq_true rfl, Nat.le_of_ble_eq_true rfl⟩ (Nat.zero_le _) (Nat.zero_le _) dX10_rowFor_15 (fun y15 yl15_0 yl15_1 yl15_2 => ?_)
    have cy := pq_cl (x := y15) (by focus (simp only [vp_in_iff, Int32.lt_iff_toInt_lt, Int32.le_iff_toInt_le, ← Int32.toInt_inj, Int32.toInt_add, Int32.toInt_sub, Int32.toInt_mul, Int32.toInt_neg, pq_NuO, pq_NuI, pq_NuJ, pq_NuR, pq_shr6, pq_shr7, pq_shr8, lqm1, lq0, lq1, lq2] at *; (try simp (disch := omega) only [pq_bm] at *); all_goals omega))
    refine pq_newI F (r := 152) (n := y15.toNatClampNeg) (by decide) (by decide) ac_int rfl (by decide) (by focus (simp only [vp_in_iff, Int32.lt_iff_toInt_lt, Int32.le_iff_toInt_le, ← Int32.toInt_inj, Int32.toInt_add, Int32.toInt_sub, Int32.toInt_mul, Int32.toInt_neg, pq_NuO, pq_NuI, pq_NuJ, pq_NuR, pq_shr6, pq_shr7, pq_shr8, lqm1, lq0, lq1, lq2] at *; (try simp (disch := omega) only [pq_bm] at *); all_goals omega)) rfl ⟨(by focus (simp only [vp_in_iff, Int32.lt_iff_toInt_lt, Int32.le_iff_toInt_le, ← Int32.toInt_inj, Int32.toInt_add, Int32.toInt_sub, Int32.toInt_mul, Int32.toInt_neg, pq_NuO, pq_NuI, pq_NuJ, pq_NuR, pq_shr6, pq_shr7, pq_shr8, lqm1, lq0, lq1, lq2] at *; (try simp (disch := omega) only [pq_bm] at *); all_goals omega)), (by focus (simp only [vp_in_iff, Int32.lt_iff_toInt_lt, Int32.le_iff_toInt_le, ← Int32.toInt_inj, Int32.toInt_add, Int32.toInt_sub, Int32.toInt_mul, Int32.toInt_neg, pq_NuO, pq_NuI, pq_NuJ, pq_NuR, pq_shr6, pq_shr7, pq_shr8, lqm1, lq0, lq1, lq2] at *; (try simp (disch := omega) only [pq_bm] at *); all_goals omega))⟩ (by focus (simp only [vp_in_iff, Int32.lt_iff_toInt_lt, Int32.le_iff_toInt_le, ← Int32.toInt_inj, Int32.toInt_add, Int32.toInt_sub, Int32.toInt_mul, Int32.toInt_neg, pq_NuO, pq_NuI, pq_NuJ, pq_NuR, pq_shr6, pq_shr7, pq_shr8, lqm1, lq0, lq1, lq2] at *; (try simp (disch := omega) only [pq_bm] at *); all_goals omega)) (Nat.le_refl _) (by show 0 + y15.toNatClampNeg ≤ w; focus (simp only [vp_in_iff, Int32.lt_iff_toInt_lt, Int32.le_iff_toInt_le, ← Int32.toInt_inj, Int32.toInt_add, Int32.toInt_sub, Int32.toInt_mul, Int32.toInt_neg, pq_NuO, pq_NuI, pq_NuJ, pq_NuR, pq_shr6, pq_shr7, pq_shr8, lqm1, lq0, lq1, lq2] at *; (try simp (disch := omega) only [pq_bm] at *); all_goals omega)) dX10_rowFor_18 (fun q18 nq18 h18 => ?_)
    have hrw_18 := pq_nR (r := 152) (n := y15.toNatClampNeg) (ds := (fun _ => Value.null)) nq18 hrw
    exact pq_aret F hr (by first | exact Or.inl ⟨_, rfl⟩ | exact Or.inr ⟨_, rfl⟩) hlk hA (Nat.le_refl _) (by show 0 + y15.toNatClampNeg ≤ w; focus (simp only [vp_in_iff, Int32.lt_iff_toInt_lt, Int32.le_iff_toInt_le, ← Int32.toInt_inj, Int32.toInt_add, Int32.toInt_sub, Int32.toInt_mul, Int32.toInt_neg, pq_NuO, pq_NuI, pq_NuJ, pq_NuR, pq_shr6, pq_shr7, pq_shr8, lqm1, lq0, lq1, lq2] at *; (try simp (disch := omega) only [pq_bm] at *); all_goals omega)) (⟨(pq_Fr.rf.nw nq18), q18, rfl, h18, Or.inr ⟨(by focus (simp only [vp_in_iff, Int32.lt_iff_toInt_lt, Int32.le_iff_toInt_le, ← Int32.toInt_inj, Int32.toInt_add, Int32.toInt_sub, Int32.toInt_mul, Int32.toInt_neg, pq_NuO, pq_NuI, pq_NuJ, pq_NuR, pq_shr6, pq_shr7, pq_shr8, lqm1, lq0, lq1, lq2] at *; (try simp (disch := omega) only [pq_bm] at *); all_goals omega)), (by rw [pq_nN]; focus (simp only [vp_in_iff, Int32.lt_iff_toInt_lt, Int32.le_iff_toInt_le, ← Int32.toInt_inj, Int32.toInt_add, Int32.toInt_sub, Int32.toInt_mul, Int32.toInt_neg, pq_NuO, pq_NuI, pq_NuJ, pq_NuR, pq_shr6, pq_shr7, pq_shr8, lqm1, lq0, lq1, lq2] at *; (try simp (disch := omega) only [pq_bm] at *); all_goals omega)), (by rw [pq_nN]; focus (simp only [vp_in_iff, Int32.lt_iff_toInt_lt, Int32.le_iff_toInt_le, ← Int32.toInt_inj, Int32.toInt_add, Int32.toInt_sub, Int32.toInt_mul, Int32.toInt_neg, pq_NuO, pq_NuI, pq_NuJ, pq_NuR, pq_shr6, pq_shr7, pq_shr8, lqm1, lq0, lq1, lq2] at *; (try simp (disch := omega) only [pq_bm] at *); all_goals omega)), (by rw [pq_nN]; focus (simp only [vp_in_iff, Int32.lt_iff_toInt_lt, Int32.le_iff_toInt_le, ← Int32.toInt_inj, Int32.toInt_add, Int32.toInt_sub, Int32.toInt_mul, Int32.toInt_neg, pq_NuO, pq_NuI, pq_NuJ, pq_NuR, pq_shr6, pq_shr7, pq_shr8, lqm1, lq0, lq1, lq2] at *; (try simp (disch := omega) only [pq_bm] at *); all_goals omega)), nq18⟩⟩) dX10_rowFor_20
  · skip
    refine pq_aload_n F dX10_rowFor_6 rfl rfl ?_
    refine pq_goto (tgt := 20) F dX10_rowFor_7 (by decide) ?_
    exact pq_aret F hr (by first | exact Or.inl ⟨_, rfl⟩ | exact Or.inr ⟨_, rfl⟩) hlk hA (Nat.zero_le _) (Nat.zero_le _) (⟨pq_Fr.rf, rw, rfl, hrw, Or.inl ⟨(by focus (simp only [vp_in_iff, Int32.lt_iff_toInt_lt, Int32.le_iff_toInt_le, ← Int32.toInt_inj, Int32.toInt_add, Int32.toInt_sub, Int32.toInt_mul, Int32.toInt_neg, pq_NuO, pq_NuI, pq_NuJ, pq_NuR, pq_shr6, pq_shr7, pq_shr8, lqm1, lq0, lq1, lq2] at *; (try simp (disch := omega) only [pq_bm] at *); all_goals omega)), rfl, rfl⟩⟩) dX10_rowFor_20

set_option maxHeartbeats 4000000 in
set_option maxRecDepth 100000 in
theorem k_X10_row155 (l : Launch) (D : va_G) (cy : Nat → ClassId) (S : HS) (nd : Int32) (hnd0 : 0 ≤ nd.toInt) (hnd1 : nd.toInt ≤ 25728) (rw : Nat) (hrw : pq_R S rw 155) (w : Nat) (hw : nd.toInt ≤ (hN S rw : Int) ∨ (nd.toInt ≤ (w : Int) ∧ 2 * (hN S rw : Int) ≤ (w : Int))) : pq_C l D cy yX10_rowFor cX10_rowFor 2 (some (.array .int)) 1 1 w S [.int nd, .ref rw] (fun v S2 => pq_Fr [] S S2 ∧ ∃ x : Nat, v = some (.ref x) ∧ pq_R S2 x 155 ∧ ((nd.toInt ≤ (hN S rw : Int) ∧ S2 = S ∧ x = rw) ∨ ((hN S rw : Int) < nd.toInt ∧ nd.toInt ≤ (hN S2 x : Int) ∧ 2 * hN S rw ≤ hN S2 x ∧ ((hN S2 x : Int) = nd.toInt ∨ hN S2 x = 2 * hN S rw) ∧ x ∉ S.1))) := by
  refine pq_start (by decide) (Nat.le_of_ble_eq_true rfl) ?_
  intro p e s m args below meth c A F hr hlk hnm hA
  have lqm1 : (-1 : Int32).toInt = -1 := rfl
  have lq0 : (0 : Int32).toInt = 0 := rfl
  have lq1 : (1 : Int32).toInt = 1 := rfl
  have lq2 : (2 : Int32).toInt = 2 := rfl
  refine pq_aload_n F dX10_rowFor_0 rfl rfl ?_
  refine pq_alen F hrw (by decide) rfl dX10_rowFor_1 (fun l1 u1 => ?_)
  have nq1 := nI_toInt (n := hN _ rw) (Nat.lt_of_le_of_lt u1 (by decide))
  refine pq_iload_n F dX10_rowFor_2 rfl rfl ?_
  refine pq_icmp_lt (tgt := 10) F dX10_rowFor_3 (by decide) (fun c3 => ?_) (fun c3 => ?_)
  · skip
    refine pq_iload_n F dX10_rowFor_10 rfl rfl ?_
    refine pq_iconst (v := 2) F dX10_rowFor_11 (by decide) ?_
    refine pq_aload_n F dX10_rowFor_12 rfl rfl ?_
    refine pq_alen F hrw (by decide) rfl dX10_rowFor_13 (fun l13 u13 => ?_)
    have nq13 := nI_toInt (n := hN _ rw) (Nat.lt_of_le_of_lt u13 (by decide))
    refine pq_imul F dX10_rowFor_14 ?_
    refine pq_mmax F mx_X10_164 ⟨Nat.le_of_ble_eq_true rfl, Nat.le_of_ble_eq_true rfl⟩ (Nat.zero_le _) (Nat.zero_le _) dX10_rowFor_15 (fun y15 yl15_0 yl15_1 yl15_2 => ?_)
    have cy := pq_cl (x := y15) (by focus (simp only [vp_in_iff, Int32.lt_iff_toInt_lt, Int32.le_iff_toInt_le, ← Int32.toInt_inj, Int32.toInt_add, Int32.toInt_sub, Int32.toInt_mul, Int32.toInt_neg, pq_NuO, pq_NuI, pq_NuJ, pq_NuR, pq_shr6, pq_shr7, pq_shr8, lqm1, lq0, lq1, lq2] at *; (try simp (disch := omega) only [pq_bm] at *); all_goals omega))
    refine pq_newI F (r := 155) (n := y15.toNatClampNeg) (by decide) (by decide) ac_int rfl (by decide) (by focus (simp only [vp_in_iff, Int32.lt_iff_toInt_lt, Int32.le_iff_toInt_le, ← Int32.toInt_inj, Int32.toInt_add, Int32.toInt_sub, Int32.toInt_mul, Int32.toInt_neg, pq_NuO, pq_NuI, pq_NuJ, pq_NuR, pq_shr6, pq_shr7, pq_shr8, lqm1, lq0, lq1, lq2] at *; (try simp (disch := omega) only [pq_bm] at *); all_goals omega)) rfl ⟨(by focus (simp only [vp_in_iff, Int32.lt_iff_toInt_lt, Int32.le_iff_toInt_le, ← Int32.toInt_inj, Int32.toInt_add, Int32.toInt_sub, Int32.toInt_mul, Int32.toInt_neg, pq_NuO, pq_NuI, pq_NuJ, pq_NuR, pq_shr6, pq_shr7, pq_shr8, lqm1, lq0, lq1, lq2] at *; (try simp (disch := omega) only [pq_bm] at *); all_goals omega)), (by focus (simp only [vp_in_iff, Int32.lt_iff_toInt_lt, Int32.le_iff_toInt_le, ← Int32.toInt_inj, Int32.toInt_add, Int32.toInt_sub, Int32.toInt_mul, Int32.toInt_neg, pq_NuO, pq_NuI, pq_NuJ, pq_NuR, pq_shr6, pq_shr7, pq_shr8, lqm1, lq0, lq1, lq2] at *; (try simp (disch := omega) only [pq_bm] at *); all_goals omega))⟩ (by focus (simp only [vp_in_iff, Int32.lt_iff_toInt_lt, Int32.le_iff_toInt_le, ← Int32.toInt_inj, Int32.toInt_add, Int32.toInt_sub, Int32.toInt_mul, Int32.toInt_neg, pq_NuO, pq_NuI, pq_NuJ, pq_NuR, pq_shr6, pq_shr7, pq_shr8, lqm1, lq0, lq1, lq2] at *; (try simp (disch := omega) only [pq_bm] at *); all_goals omega)) (Nat.le_refl _) (by show 0 + y15.toNatClampNeg ≤ w; focus (simp only [vp_in_iff, Int32.lt_iff_toInt_lt, Int32.le_iff_toInt_le, ← Int32.toInt_inj, Int32.toInt_add, Int32.toInt_sub, Int32.toInt_mul, Int32.toInt_neg, pq_NuO, pq_NuI, pq_NuJ, pq_NuR, pq_shr6, pq_shr7, pq_shr8, lqm1, lq0, lq1, lq2] at *; (try simp (disch := omega) only [pq_bm] at *); all_goals omega)) dX10_rowFor_18 (fun q18 nq18 h18 => ?_)
    have hrw_18 := pq_nR (r := 155) (n := y15.toNatClampNeg) (ds := (fun _ => Value.null)) nq18 hrw
    exact pq_aret F hr (by first | exact Or.inl ⟨_, rfl⟩ | exact Or.inr ⟨_, rfl⟩) hlk hA (Nat.le_refl _) (by show 0 + y15.toNatClampNeg ≤ w; focus (simp only [vp_in_iff, Int32.lt_iff_toInt_lt, Int32.le_iff_toInt_le, ← Int32.toInt_inj, Int32.toInt_add, Int32.toInt_sub, Int32.toInt_mul, Int32.toInt_neg, pq_NuO, pq_NuI, pq_NuJ, pq_NuR, pq_shr6, pq_shr7, pq_shr8, lqm1, lq0, lq1, lq2] at *; (try simp (disch := omega) only [pq_bm] at *); all_goals omega)) (⟨(pq_Fr.rf.nw nq18), q18, rfl, h18, Or.inr ⟨(by focus (simp only [vp_in_iff, Int32.lt_iff_toInt_lt, Int32.le_iff_toInt_le, ← Int32.toInt_inj, Int32.toInt_add, Int32.toInt_sub, Int32.toInt_mul, Int32.toInt_neg, pq_NuO, pq_NuI, pq_NuJ, pq_NuR, pq_shr6, pq_shr7, pq_shr8, lqm1, lq0, lq1, lq2] at *; (try simp (disch := omega) only [pq_bm] at *); all_goals omega)), (by rw [pq_nN]; focus (simp only [vp_in_iff, Int32.lt_iff_toInt_lt, Int32.le_iff_toInt_le, ← Int32.toInt_inj, Int32.toInt_add, Int32.toInt_sub, Int32.toInt_mul, Int32.toInt_neg, pq_NuO, pq_NuI, pq_NuJ, pq_NuR, pq_shr6, pq_shr7, pq_shr8, lqm1, lq0, lq1, lq2] at *; (try simp (disch := omega) only [pq_bm] at *); all_goals omega)), (by rw [pq_nN]; focus (simp only [vp_in_iff, Int32.lt_iff_toInt_lt, Int32.le_iff_toInt_le, ← Int32.toInt_inj, Int32.toInt_add, Int32.toInt_sub, Int32.toInt_mul, Int32.toInt_neg, pq_NuO, pq_NuI, pq_NuJ, pq_NuR, pq_shr6, pq_shr7, pq_shr8, lqm1, lq0, lq1, lq2] at *; (try simp (disch := omega) only [pq_bm] at *); all_goals omega)), (by rw [pq_nN]; focus (simp only [vp_in_iff, Int32.lt_iff_toInt_lt, Int32.le_iff_toInt_le, ← Int32.toInt_inj, Int32.toInt_add, Int32.toInt_sub, Int32.toInt_mul, Int32.toInt_neg, pq_NuO, pq_NuI, pq_NuJ, pq_NuR, pq_shr6, pq_shr7, pq_shr8, lqm1, lq0, lq1, lq2] at *; (try simp (disch := omega) only [pq_bm] at *); all_goals omega)), nq18⟩⟩) dX10_rowFor_20
  · skip
    refine pq_aload_n F dX10_rowFor_6 rfl rfl ?_
    refine pq_goto (tgt := 20) F dX10_rowFor_7 (by decide) ?_
    exact pq_aret F hr (by first | exact Or.inl ⟨_, rfl⟩ | exact Or.inr ⟨_, rfl⟩) hlk hA (Nat.zero_le _) (Nat.zero_le _) (⟨pq_Fr.rf, rw, rfl, hrw, Or.inl ⟨(by focus (simp only [vp_in_iff, Int32.lt_iff_toInt_lt, Int32.le_iff_toInt_le, ← Int32.toInt_inj, Int32.toInt_add, Int32.toInt_sub, Int32.toInt_mul, Int32.toInt_neg, pq_NuO, pq_NuI, pq_NuJ, pq_NuR, pq_shr6, pq_shr7, pq_shr8, lqm1, lq0, lq1, lq2] at *; (try simp (disch := omega) only [pq_bm] at *); all_goals omega)), rfl, rfl⟩⟩) dX10_rowFor_20

set_option maxHeartbeats 4000000 in
set_option maxRecDepth 100000 in
theorem k_X10_row164 (l : Launch) (D : va_G) (cy : Nat → ClassId) (S : HS) (nd : Int32) (hnd0 : 0 ≤ nd.toInt) (hnd1 : nd.toInt ≤ 40402) (rw : Nat) (hrw : pq_R S rw 164) (w : Nat) (hw : nd.toInt ≤ (hN S rw : Int) ∨ (nd.toInt ≤ (w : Int) ∧ 2 * (hN S rw : Int) ≤ (w : Int))) : pq_C l D cy yX10_rowFor cX10_rowFor 2 (some (.array .int)) 1 1 w S [.int nd, .ref rw] (fun v S2 => pq_Fr [] S S2 ∧ ∃ x : Nat, v = some (.ref x) ∧ pq_R S2 x 164 ∧ ((nd.toInt ≤ (hN S rw : Int) ∧ S2 = S ∧ x = rw) ∨ ((hN S rw : Int) < nd.toInt ∧ nd.toInt ≤ (hN S2 x : Int) ∧ 2 * hN S rw ≤ hN S2 x ∧ ((hN S2 x : Int) = nd.toInt ∨ hN S2 x = 2 * hN S rw) ∧ x ∉ S.1))) := by
  refine pq_start (by decide) (Nat.le_of_ble_eq_true rfl) ?_
  intro p e s m args below meth c A F hr hlk hnm hA
  have lqm1 : (-1 : Int32).toInt = -1 := rfl
  have lq0 : (0 : Int32).toInt = 0 := rfl
  have lq1 : (1 : Int32).toInt = 1 := rfl
  have lq2 : (2 : Int32).toInt = 2 := rfl
  refine pq_aload_n F dX10_rowFor_0 rfl rfl ?_
  refine pq_alen F hrw (by decide) rfl dX10_rowFor_1 (fun l1 u1 => ?_)
  have nq1 := nI_toInt (n := hN _ rw) (Nat.lt_of_le_of_lt u1 (by decide))
  refine pq_iload_n F dX10_rowFor_2 rfl rfl ?_
  refine pq_icmp_lt (tgt := 10) F dX10_rowFor_3 (by decide) (fun c3 => ?_) (fun c3 => ?_)
  · skip
    refine pq_iload_n F dX10_rowFor_10 rfl rfl ?_
    refine pq_iconst (v := 2) F dX10_rowFor_11 (by decide) ?_
    refine pq_aload_n F dX10_rowFor_12 rfl rfl ?_
    refine pq_alen F hrw (by decide) rfl dX10_rowFor_13 (fun l13 u13 => ?_)
    have nq13 := nI_toInt (n := hN _ rw) (Nat.lt_of_le_of_lt u13 (by decide))
    refine pq_imul F dX10_rowFor_14 ?_
    refine pq_mmax F mx_X10_164 ⟨Nat.le_of_ble_eq_true rfl, Nat.le_of_ble_eq_true rfl⟩ (Nat.zero_le _) (Nat.zero_le _) dX10_rowFor_15 (fun y15 yl15_0 yl15_1 yl15_2 => ?_)
    have cy := pq_cl (x := y15) (by focus (simp only [vp_in_iff, Int32.lt_iff_toInt_lt, Int32.le_iff_toInt_le, ← Int32.toInt_inj, Int32.toInt_add, Int32.toInt_sub, Int32.toInt_mul, Int32.toInt_neg, pq_NuO, pq_NuI, pq_NuJ, pq_NuR, pq_shr6, pq_shr7, pq_shr8, lqm1, lq0, lq1, lq2] at *; (try simp (disch := omega) only [pq_bm] at *); all_goals omega))
    refine pq_newI F (r := 164) (n := y15.toNatClampNeg) (by decide) (by decide) ac_int rfl (by decide) (by focus (simp only [vp_in_iff, Int32.lt_iff_toInt_lt, Int32.le_iff_toInt_le, ← Int32.toInt_inj, Int32.toInt_add, Int32.toInt_sub, Int32.toInt_mul, Int32.toInt_neg, pq_NuO, pq_NuI, pq_NuJ, pq_NuR, pq_shr6, pq_shr7, pq_shr8, lqm1, lq0, lq1, lq2] at *; (try simp (disch := omega) only [pq_bm] at *); all_goals omega)) rfl ⟨(by focus (simp only [vp_in_iff, Int32.lt_iff_toInt_lt, Int32.le_iff_toInt_le, ← Int32.toInt_inj, Int32.toInt_add, Int32.toInt_sub, Int32.toInt_mul, Int32.toInt_neg, pq_NuO, pq_NuI, pq_NuJ, pq_NuR, pq_shr6, pq_shr7, pq_shr8, lqm1, lq0, lq1, lq2] at *; (try simp (disch := omega) only [pq_bm] at *); all_goals omega)), (by focus (simp only [vp_in_iff, Int32.lt_iff_toInt_lt, Int32.le_iff_toInt_le, ← Int32.toInt_inj, Int32.toInt_add, Int32.toInt_sub, Int32.toInt_mul, Int32.toInt_neg, pq_NuO, pq_NuI, pq_NuJ, pq_NuR, pq_shr6, pq_shr7, pq_shr8, lqm1, lq0, lq1, lq2] at *; (try simp (disch := omega) only [pq_bm] at *); all_goals omega))⟩ (by focus (simp only [vp_in_iff, Int32.lt_iff_toInt_lt, Int32.le_iff_toInt_le, ← Int32.toInt_inj, Int32.toInt_add, Int32.toInt_sub, Int32.toInt_mul, Int32.toInt_neg, pq_NuO, pq_NuI, pq_NuJ, pq_NuR, pq_shr6, pq_shr7, pq_shr8, lqm1, lq0, lq1, lq2] at *; (try simp (disch := omega) only [pq_bm] at *); all_goals omega)) (Nat.le_refl _) (by show 0 + y15.toNatClampNeg ≤ w; focus (simp only [vp_in_iff, Int32.lt_iff_toInt_lt, Int32.le_iff_toInt_le, ← Int32.toInt_inj, Int32.toInt_add, Int32.toInt_sub, Int32.toInt_mul, Int32.toInt_neg, pq_NuO, pq_NuI, pq_NuJ, pq_NuR, pq_shr6, pq_shr7, pq_shr8, lqm1, lq0, lq1, lq2] at *; (try simp (disch := omega) only [pq_bm] at *); all_goals omega)) dX10_rowFor_18 (fun q18 nq18 h18 => ?_)
    have hrw_18 := pq_nR (r := 164) (n := y15.toNatClampNeg) (ds := (fun _ => Value.null)) nq18 hrw
    exact pq_aret F hr (by first | exact Or.inl ⟨_, rfl⟩ | exact Or.inr ⟨_, rfl⟩) hlk hA (Nat.le_refl _) (by show 0 + y15.toNatClampNeg ≤ w; focus (simp only [vp_in_iff, Int32.lt_iff_toInt_lt, Int32.le_iff_toInt_le, ← Int32.toInt_inj, Int32.toInt_add, Int32.toInt_sub, Int32.toInt_mul, Int32.toInt_neg, pq_NuO, pq_NuI, pq_NuJ, pq_NuR, pq_shr6, pq_shr7, pq_shr8, lqm1, lq0, lq1, lq2] at *; (try simp (disch := omega) only [pq_bm] at *); all_goals omega)) (⟨(pq_Fr.rf.nw nq18), q18, rfl, h18, Or.inr ⟨(by focus (simp only [vp_in_iff, Int32.lt_iff_toInt_lt, Int32.le_iff_toInt_le, ← Int32.toInt_inj, Int32.toInt_add, Int32.toInt_sub, Int32.toInt_mul, Int32.toInt_neg, pq_NuO, pq_NuI, pq_NuJ, pq_NuR, pq_shr6, pq_shr7, pq_shr8, lqm1, lq0, lq1, lq2] at *; (try simp (disch := omega) only [pq_bm] at *); all_goals omega)), (by rw [pq_nN]; focus (simp only [vp_in_iff, Int32.lt_iff_toInt_lt, Int32.le_iff_toInt_le, ← Int32.toInt_inj, Int32.toInt_add, Int32.toInt_sub, Int32.toInt_mul, Int32.toInt_neg, pq_NuO, pq_NuI, pq_NuJ, pq_NuR, pq_shr6, pq_shr7, pq_shr8, lqm1, lq0, lq1, lq2] at *; (try simp (disch := omega) only [pq_bm] at *); all_goals omega)), (by rw [pq_nN]; focus (simp only [vp_in_iff, Int32.lt_iff_toInt_lt, Int32.le_iff_toInt_le, ← Int32.toInt_inj, Int32.toInt_add, Int32.toInt_sub, Int32.toInt_mul, Int32.toInt_neg, pq_NuO, pq_NuI, pq_NuJ, pq_NuR, pq_shr6, pq_shr7, pq_shr8, lqm1, lq0, lq1, lq2] at *; (try simp (disch := omega) only [pq_bm] at *); all_goals omega)), (by rw [pq_nN]; focus (simp only [vp_in_iff, Int32.lt_iff_toInt_lt, Int32.le_iff_toInt_le, ← Int32.toInt_inj, Int32.toInt_add, Int32.toInt_sub, Int32.toInt_mul, Int32.toInt_neg, pq_NuO, pq_NuI, pq_NuJ, pq_NuR, pq_shr6, pq_shr7, pq_shr8, lqm1, lq0, lq1, lq2] at *; (try simp (disch := omega) only [pq_bm] at *); all_goals omega)), nq18⟩⟩) dX10_rowFor_20
  · skip
    refine pq_aload_n F dX10_rowFor_6 rfl rfl ?_
    refine pq_goto (tgt := 20) F dX10_rowFor_7 (by decide) ?_
    exact pq_aret F hr (by first | exact Or.inl ⟨_, rfl⟩ | exact Or.inr ⟨_, rfl⟩) hlk hA (Nat.zero_le _) (Nat.zero_le _) (⟨pq_Fr.rf, rw, rfl, hrw, Or.inl ⟨(by focus (simp only [vp_in_iff, Int32.lt_iff_toInt_lt, Int32.le_iff_toInt_le, ← Int32.toInt_inj, Int32.toInt_add, Int32.toInt_sub, Int32.toInt_mul, Int32.toInt_neg, pq_NuO, pq_NuI, pq_NuJ, pq_NuR, pq_shr6, pq_shr7, pq_shr8, lqm1, lq0, lq1, lq2] at *; (try simp (disch := omega) only [pq_bm] at *); all_goals omega)), rfl, rfl⟩⟩) dX10_rowFor_20

set_option maxHeartbeats 4000000 in
set_option maxRecDepth 100000 in
theorem k_X10_row165 (l : Launch) (D : va_G) (cy : Nat → ClassId) (S : HS) (nd : Int32) (hnd0 : 0 ≤ nd.toInt) (hnd1 : nd.toInt ≤ 40402) (rw : Nat) (hrw : pq_R S rw 165) (w : Nat) (hw : nd.toInt ≤ (hN S rw : Int) ∨ (nd.toInt ≤ (w : Int) ∧ 2 * (hN S rw : Int) ≤ (w : Int))) : pq_C l D cy yX10_rowFor cX10_rowFor 2 (some (.array .int)) 1 1 w S [.int nd, .ref rw] (fun v S2 => pq_Fr [] S S2 ∧ ∃ x : Nat, v = some (.ref x) ∧ pq_R S2 x 165 ∧ ((nd.toInt ≤ (hN S rw : Int) ∧ S2 = S ∧ x = rw) ∨ ((hN S rw : Int) < nd.toInt ∧ nd.toInt ≤ (hN S2 x : Int) ∧ 2 * hN S rw ≤ hN S2 x ∧ ((hN S2 x : Int) = nd.toInt ∨ hN S2 x = 2 * hN S rw) ∧ x ∉ S.1))) := by
  refine pq_start (by decide) (Nat.le_of_ble_eq_true rfl) ?_
  intro p e s m args below meth c A F hr hlk hnm hA
  have lqm1 : (-1 : Int32).toInt = -1 := rfl
  have lq0 : (0 : Int32).toInt = 0 := rfl
  have lq1 : (1 : Int32).toInt = 1 := rfl
  have lq2 : (2 : Int32).toInt = 2 := rfl
  refine pq_aload_n F dX10_rowFor_0 rfl rfl ?_
  refine pq_alen F hrw (by decide) rfl dX10_rowFor_1 (fun l1 u1 => ?_)
  have nq1 := nI_toInt (n := hN _ rw) (Nat.lt_of_le_of_lt u1 (by decide))
  refine pq_iload_n F dX10_rowFor_2 rfl rfl ?_
  refine pq_icmp_lt (tgt := 10) F dX10_rowFor_3 (by decide) (fun c3 => ?_) (fun c3 => ?_)
  · skip
    refine pq_iload_n F dX10_rowFor_10 rfl rfl ?_
    refine pq_iconst (v := 2) F dX10_rowFor_11 (by decide) ?_
    refine pq_aload_n F dX10_rowFor_12 rfl rfl ?_
    refine pq_alen F hrw (by decide) rfl dX10_rowFor_13 (fun l13 u13 => ?_)
    have nq13 := nI_toInt (n := hN _ rw) (Nat.lt_of_le_of_lt u13 (by decide))
    refine pq_imul F dX10_rowFor_14 ?_
    refine pq_mmax F mx_X10_164 ⟨Nat.le_of_ble_eq_true rfl, Nat.le_of_ble_eq_true rfl⟩ (Nat.zero_le _) (Nat.zero_le _) dX10_rowFor_15 (fun y15 yl15_0 yl15_1 yl15_2 => ?_)
    have cy := pq_cl (x := y15) (by focus (simp only [vp_in_iff, Int32.lt_iff_toInt_lt, Int32.le_iff_toInt_le, ← Int32.toInt_inj, Int32.toInt_add, Int32.toInt_sub, Int32.toInt_mul, Int32.toInt_neg, pq_NuO, pq_NuI, pq_NuJ, pq_NuR, pq_shr6, pq_shr7, pq_shr8, lqm1, lq0, lq1, lq2] at *; (try simp (disch := omega) only [pq_bm] at *); all_goals omega))
    refine pq_newI F (r := 165) (n := y15.toNatClampNeg) (by decide) (by decide) ac_int rfl (by decide) (by focus (simp only [vp_in_iff, Int32.lt_iff_toInt_lt, Int32.le_iff_toInt_le, ← Int32.toInt_inj, Int32.toInt_add, Int32.toInt_sub, Int32.toInt_mul, Int32.toInt_neg, pq_NuO, pq_NuI, pq_NuJ, pq_NuR, pq_shr6, pq_shr7, pq_shr8, lqm1, lq0, lq1, lq2] at *; (try simp (disch := omega) only [pq_bm] at *); all_goals omega)) rfl ⟨(by focus (simp only [vp_in_iff, Int32.lt_iff_toInt_lt, Int32.le_iff_toInt_le, ← Int32.toInt_inj, Int32.toInt_add, Int32.toInt_sub, Int32.toInt_mul, Int32.toInt_neg, pq_NuO, pq_NuI, pq_NuJ, pq_NuR, pq_shr6, pq_shr7, pq_shr8, lqm1, lq0, lq1, lq2] at *; (try simp (disch := omega) only [pq_bm] at *); all_goals omega)), (by focus (simp only [vp_in_iff, Int32.lt_iff_toInt_lt, Int32.le_iff_toInt_le, ← Int32.toInt_inj, Int32.toInt_add, Int32.toInt_sub, Int32.toInt_mul, Int32.toInt_neg, pq_NuO, pq_NuI, pq_NuJ, pq_NuR, pq_shr6, pq_shr7, pq_shr8, lqm1, lq0, lq1, lq2] at *; (try simp (disch := omega) only [pq_bm] at *); all_goals omega))⟩ (by focus (simp only [vp_in_iff, Int32.lt_iff_toInt_lt, Int32.le_iff_toInt_le, ← Int32.toInt_inj, Int32.toInt_add, Int32.toInt_sub, Int32.toInt_mul, Int32.toInt_neg, pq_NuO, pq_NuI, pq_NuJ, pq_NuR, pq_shr6, pq_shr7, pq_shr8, lqm1, lq0, lq1, lq2] at *; (try simp (disch := omega) only [pq_bm] at *); all_goals omega)) (Nat.le_refl _) (by show 0 + y15.toNatClampNeg ≤ w; focus (simp only [vp_in_iff, Int32.lt_iff_toInt_lt, Int32.le_iff_toInt_le, ← Int32.toInt_inj, Int32.toInt_add, Int32.toInt_sub, Int32.toInt_mul, Int32.toInt_neg, pq_NuO, pq_NuI, pq_NuJ, pq_NuR, pq_shr6, pq_shr7, pq_shr8, lqm1, lq0, lq1, lq2] at *; (try simp (disch := omega) only [pq_bm] at *); all_goals omega)) dX10_rowFor_18 (fun q18 nq18 h18 => ?_)
    have hrw_18 := pq_nR (r := 165) (n := y15.toNatClampNeg) (ds := (fun _ => Value.null)) nq18 hrw
    exact pq_aret F hr (by first | exact Or.inl ⟨_, rfl⟩ | exact Or.inr ⟨_, rfl⟩) hlk hA (Nat.le_refl _) (by show 0 + y15.toNatClampNeg ≤ w; focus (simp only [vp_in_iff, Int32.lt_iff_toInt_lt, Int32.le_iff_toInt_le, ← Int32.toInt_inj, Int32.toInt_add, Int32.toInt_sub, Int32.toInt_mul, Int32.toInt_neg, pq_NuO, pq_NuI, pq_NuJ, pq_NuR, pq_shr6, pq_shr7, pq_shr8, lqm1, lq0, lq1, lq2] at *; (try simp (disch := omega) only [pq_bm] at *); all_goals omega)) (⟨(pq_Fr.rf.nw nq18), q18, rfl, h18, Or.inr ⟨(by focus (simp only [vp_in_iff, Int32.lt_iff_toInt_lt, Int32.le_iff_toInt_le, ← Int32.toInt_inj, Int32.toInt_add, Int32.toInt_sub, Int32.toInt_mul, Int32.toInt_neg, pq_NuO, pq_NuI, pq_NuJ, pq_NuR, pq_shr6, pq_shr7, pq_shr8, lqm1, lq0, lq1, lq2] at *; (try simp (disch := omega) only [pq_bm] at *); all_goals omega)), (by rw [pq_nN]; focus (simp only [vp_in_iff, Int32.lt_iff_toInt_lt, Int32.le_iff_toInt_le, ← Int32.toInt_inj, Int32.toInt_add, Int32.toInt_sub, Int32.toInt_mul, Int32.toInt_neg, pq_NuO, pq_NuI, pq_NuJ, pq_NuR, pq_shr6, pq_shr7, pq_shr8, lqm1, lq0, lq1, lq2] at *; (try simp (disch := omega) only [pq_bm] at *); all_goals omega)), (by rw [pq_nN]; focus (simp only [vp_in_iff, Int32.lt_iff_toInt_lt, Int32.le_iff_toInt_le, ← Int32.toInt_inj, Int32.toInt_add, Int32.toInt_sub, Int32.toInt_mul, Int32.toInt_neg, pq_NuO, pq_NuI, pq_NuJ, pq_NuR, pq_shr6, pq_shr7, pq_shr8, lqm1, lq0, lq1, lq2] at *; (try simp (disch := omega) only [pq_bm] at *); all_goals omega)), (by rw [pq_nN]; focus (simp only [vp_in_iff, Int32.lt_iff_toInt_lt, Int32.le_iff_toInt_le, ← Int32.toInt_inj, Int32.toInt_add, Int32.toInt_sub, Int32.toInt_mul, Int32.toInt_neg, pq_NuO, pq_NuI, pq_NuJ, pq_NuR, pq_shr6, pq_shr7, pq_shr8, lqm1, lq0, lq1, lq2] at *; (try simp (disch := omega) only [pq_bm] at *); all_goals omega)), nq18⟩⟩) dX10_rowFor_20
  · skip
    refine pq_aload_n F dX10_rowFor_6 rfl rfl ?_
    refine pq_goto (tgt := 20) F dX10_rowFor_7 (by decide) ?_
    exact pq_aret F hr (by first | exact Or.inl ⟨_, rfl⟩ | exact Or.inr ⟨_, rfl⟩) hlk hA (Nat.zero_le _) (Nat.zero_le _) (⟨pq_Fr.rf, rw, rfl, hrw, Or.inl ⟨(by focus (simp only [vp_in_iff, Int32.lt_iff_toInt_lt, Int32.le_iff_toInt_le, ← Int32.toInt_inj, Int32.toInt_add, Int32.toInt_sub, Int32.toInt_mul, Int32.toInt_neg, pq_NuO, pq_NuI, pq_NuJ, pq_NuR, pq_shr6, pq_shr7, pq_shr8, lqm1, lq0, lq1, lq2] at *; (try simp (disch := omega) only [pq_bm] at *); all_goals omega)), rfl, rfl⟩⟩) dX10_rowFor_20

set_option maxHeartbeats 4000000 in
set_option maxRecDepth 100000 in
theorem k_X8_addFollowers (l : Launch) (D : va_G) (cy : Nat → ClassId) (S : HS) (a : Nat) (ha : pq_R S a 11) (pp : Int32) (hpp0 : 0 ≤ pp.toInt) (hpp1 : pp.toInt ≤ 399) : pq_C l D cy yX8_addFollowers cX8_addFollowers 3 (none) 1 0 0 S [.ref a, .int pp] (fun v S2 => v = none ∧ pq_Fr [(198, 0)] S S2) := by
  refine pq_start (by decide) (Nat.le_of_ble_eq_true rfl) ?_
  intro p e s m args below meth c A F hr hlk hnm hA
  have lqm1 : (-1 : Int32).toInt = -1 := rfl
  have lq0 : (0 : Int32).toInt = 0 := rfl
  have lq1 : (1 : Int32).toInt = 1 := rfl
  have lq7 : (7 : Int32).toInt = 7 := rfl
  have L2 : ∀  (fu : Nat) (S1 : HS) (k : Int32)  (hF : pq_Fr [(198, 0)] S S1) (hk0 : 0 ≤ k.toInt) (hk1 : k.toInt ≤ 7), (7 - k.toInt).toNat < fu → pq_At p l e (pq_rm 1 0 0) s m args below meth c (pq_Z below args s D cy S 0 0 (fun v S2 => v = none ∧ pq_Fr [(198, 0)] S S2)) D cy A 3 0 0 2 S1 [some (.ref a), some (.int pp), some (.int k)] [] := by
    intro  fu
    induction fu with
    | zero => intro S1 k hF hk0 hk1 hm; exact absurd hm (Nat.not_lt_zero _)
    | succ fu ih =>
      intro S1 k hF hk0 hk1 hm
      have haL := hF.R ha (by first | decide | omega)
      refine pq_iload_n F dX8_addFollowers_2 rfl rfl ?_
      refine pq_bipush (v := 7) F dX8_addFollowers_3 (by decide) ?_
      refine pq_icmp_ge (tgt := 37) F dX8_addFollowers_5 (by decide) (fun c5 => ?_) (fun c5 => ?_)
      · skip
        exact pq_vret F hr hlk hA (Nat.le_refl _) (Nat.le_refl _) (⟨rfl, hF⟩) dX8_addFollowers_37
      · skip
        refine pq_aload_n F dX8_addFollowers_8 rfl rfl ?_
        refine pq_getR F haL (by decide) lk_X8_26 rfl dX8_addFollowers_9 (fun r9 e9 h9 => ?_)
        refine pq_iload_n F dX8_addFollowers_12 rfl rfl ?_
        refine pq_dup2 F dX8_addFollowers_13 rfl rfl ?_
        refine pq_lald F h9 (by decide) (by decide) rfl (fun n1_14 n2_14 => (by focus (simp only [vp_in_iff, Int32.lt_iff_toInt_lt, Int32.le_iff_toInt_le, ← Int32.toInt_inj, Int32.toInt_add, Int32.toInt_sub, Int32.toInt_mul, Int32.toInt_neg, pq_NuO, pq_NuI, pq_NuJ, pq_NuR, pq_shr6, pq_shr7, pq_shr8, lqm1, lq0, lq1, lq7] at *; (try simp (disch := omega) only [pq_bm] at *); all_goals omega))) dX8_addFollowers_14 (fun x14 e14 => ?_)
        refine pq_aload_n F dX8_addFollowers_15 rfl rfl ?_
        refine pq_getR F haL (by decide) lk_X8_35 rfl dX8_addFollowers_16 (fun r16 e16 h16 => ?_)
        refine pq_getR F h16 (by decide) lk_X8_109 rfl dX8_addFollowers_19 (fun r19 e19 h19 => ?_)
        refine pq_iload_n F dX8_addFollowers_22 rfl rfl ?_
        refine pq_bipush (v := 7) F dX8_addFollowers_23 (by decide) ?_
        refine pq_imul F dX8_addFollowers_25 ?_
        refine pq_iload_n F dX8_addFollowers_26 rfl rfl ?_
        refine pq_iadd F dX8_addFollowers_27 ?_
        refine pq_lald F h19 (by decide) (by decide) rfl (fun n1_28 n2_28 => (by focus (simp only [vp_in_iff, Int32.lt_iff_toInt_lt, Int32.le_iff_toInt_le, ← Int32.toInt_inj, Int32.toInt_add, Int32.toInt_sub, Int32.toInt_mul, Int32.toInt_neg, pq_NuO, pq_NuI, pq_NuJ, pq_NuR, pq_shr6, pq_shr7, pq_shr8, lqm1, lq0, lq1, lq7] at *; (try simp (disch := omega) only [pq_bm] at *); all_goals omega))) dX8_addFollowers_28 (fun x28 e28 => ?_)
        refine pq_lor F dX8_addFollowers_29 ?_
        refine pq_last F h9 (by decide) (by decide) rfl (fun n1_30 n2_30 => (by focus (simp only [vp_in_iff, Int32.lt_iff_toInt_lt, Int32.le_iff_toInt_le, ← Int32.toInt_inj, Int32.toInt_add, Int32.toInt_sub, Int32.toInt_mul, Int32.toInt_neg, pq_NuO, pq_NuI, pq_NuJ, pq_NuR, pq_shr6, pq_shr7, pq_shr8, lqm1, lq0, lq1, lq7] at *; (try simp (disch := omega) only [pq_bm] at *); all_goals omega))) dX8_addFollowers_30 ?_
        refine pq_iinc (v := 1) F dX8_addFollowers_31 rfl (by decide) (by decide) ?_
        refine pq_goto (tgt := 2) F dX8_addFollowers_34 (by decide) ?_
        exact pq_fgm [true, true, true] (ih _ _ (hF.uJ h9 (by first | decide | exact List.mem_cons_self)) (by focus (simp only [vp_in_iff, Int32.lt_iff_toInt_lt, Int32.le_iff_toInt_le, ← Int32.toInt_inj, Int32.toInt_add, Int32.toInt_sub, Int32.toInt_mul, Int32.toInt_neg, pq_NuO, pq_NuI, pq_NuJ, pq_NuR, pq_shr6, pq_shr7, pq_shr8, lqm1, lq0, lq1, lq7] at *; (try simp (disch := omega) only [pq_bm] at *); all_goals omega)) (by focus (simp only [vp_in_iff, Int32.lt_iff_toInt_lt, Int32.le_iff_toInt_le, ← Int32.toInt_inj, Int32.toInt_add, Int32.toInt_sub, Int32.toInt_mul, Int32.toInt_neg, pq_NuO, pq_NuI, pq_NuJ, pq_NuR, pq_shr6, pq_shr7, pq_shr8, lqm1, lq0, lq1, lq7] at *; (try simp (disch := omega) only [pq_bm] at *); all_goals omega)) (by focus (simp only [vp_in_iff, Int32.lt_iff_toInt_lt, Int32.le_iff_toInt_le, ← Int32.toInt_inj, Int32.toInt_add, Int32.toInt_sub, Int32.toInt_mul, Int32.toInt_neg, pq_NuO, pq_NuI, pq_NuJ, pq_NuR, pq_shr6, pq_shr7, pq_shr8, lqm1, lq0, lq1, lq7] at *; (try simp (disch := omega) only [pq_bm] at *); all_goals omega)))
  refine pq_iconst (v := 0) F dX8_addFollowers_0 (by decide) ?_
  refine pq_istore_n F dX8_addFollowers_1 rfl (by decide) ?_
  exact pq_fgm [true, true, true] (L2  100000 _ _  pq_Fr.rf (by focus (simp only [vp_in_iff, Int32.lt_iff_toInt_lt, Int32.le_iff_toInt_le, ← Int32.toInt_inj, Int32.toInt_add, Int32.toInt_sub, Int32.toInt_mul, Int32.toInt_neg, pq_NuO, pq_NuI, pq_NuJ, pq_NuR, pq_shr6, pq_shr7, pq_shr8, lqm1, lq0, lq1, lq7] at *; (try simp (disch := omega) only [pq_bm] at *); all_goals omega)) (by focus (simp only [vp_in_iff, Int32.lt_iff_toInt_lt, Int32.le_iff_toInt_le, ← Int32.toInt_inj, Int32.toInt_add, Int32.toInt_sub, Int32.toInt_mul, Int32.toInt_neg, pq_NuO, pq_NuI, pq_NuJ, pq_NuR, pq_shr6, pq_shr7, pq_shr8, lqm1, lq0, lq1, lq7] at *; (try simp (disch := omega) only [pq_bm] at *); all_goals omega)) (by focus (simp only [vp_in_iff, Int32.lt_iff_toInt_lt, Int32.le_iff_toInt_le, ← Int32.toInt_inj, Int32.toInt_add, Int32.toInt_sub, Int32.toInt_mul, Int32.toInt_neg, pq_NuO, pq_NuI, pq_NuJ, pq_NuR, pq_shr6, pq_shr7, pq_shr8, lqm1, lq0, lq1, lq7] at *; (try simp (disch := omega) only [pq_bm] at *); all_goals omega)))

set_option maxHeartbeats 4000000 in
set_option maxRecDepth 100000 in
theorem k_X8_findReach (l : Launch) (D : va_G) (cy : Nat → ClassId) (S : HS) (a : Nat) (ha : pq_R S a 11) (sv : Int32) (hsv0 : 0 ≤ sv.toInt) (hsv1 : sv.toInt ≤ 401) : pq_C l D cy yX8_findReach cX8_findReach 3 (none) 2 0 0 S [.ref a, .int sv] (fun v S2 => v = none ∧ pq_Fr [(198, 0)] S S2) := by
  refine pq_start (by decide) (Nat.le_of_ble_eq_true rfl) ?_
  intro p e s m args below meth c A F hr hlk hnm hA
  have lqm1 : (-1 : Int32).toInt = -1 := rfl
  have lq0 : (0 : Int32).toInt = 0 := rfl
  have lq1 : (1 : Int32).toInt = 1 := rfl
  have lq7 : (7 : Int32).toInt = 7 := rfl
  have L34 : ∀  (fu : Nat) (S1 : HS) (k : Int32)  (hF : pq_Fr [(198, 0)] S S1) (hk0 : 0 ≤ k.toInt) (hk1 : k.toInt ≤ 400), (400 - k.toInt).toNat < fu → pq_At p l e (pq_rm 2 0 0) s m args below meth c (pq_Z below args s D cy S 0 0 (fun v S2 => v = none ∧ pq_Fr [(198, 0)] S S2)) D cy A 3 0 0 34 S1 [some (.ref a), some (.int sv), some (.int k)] [] := by
    intro  fu
    induction fu with
    | zero => intro S1 k hF hk0 hk1 hm; exact absurd hm (Nat.not_lt_zero _)
    | succ fu ih =>
      intro S1 k hF hk0 hk1 hm
      have haL := hF.R ha (by first | decide | omega)
      refine pq_iload_n F dX8_findReach_34 rfl rfl ?_
      refine pq_aload_n F dX8_findReach_35 rfl rfl ?_
      refine pq_getR F haL (by decide) lk_X8_35 rfl dX8_findReach_36 (fun r36 e36 h36 => ?_)
      refine pq_getI F h36 (by decide) lk_X8_101 rfl dX8_findReach_39 (fun x39 e39 l39 u39 => ?_)
      refine pq_icmp_ge (tgt := 71) F dX8_findReach_42 (by decide) (fun c42 => ?_) (fun c42 => ?_)
      · skip
        exact pq_vret F hr hlk hA (Nat.le_refl _) (Nat.le_refl _) (⟨rfl, hF⟩) dX8_findReach_71
      · skip
        refine pq_aload_n F dX8_findReach_45 rfl rfl ?_
        refine pq_getR F haL (by decide) lk_X8_18 rfl dX8_findReach_46 (fun r46 e46 h46 => ?_)
        refine pq_iload_n F dX8_findReach_49 rfl rfl ?_
        refine pq_bipush (v := 7) F dX8_findReach_50 (by decide) ?_
        refine pq_imul F dX8_findReach_52 ?_
        refine pq_iload_n F dX8_findReach_53 rfl rfl ?_
        refine pq_lenF h46 (by decide) rfl (fun lna54_0 lnb54_0 => ?_)
        refine pq_callS (As := [_, _, _]) F (k_X10_hasBit l D cy _ _ 197 ?_ ?_ ?_ _ ?_ _ ?_ ?_ ?_) ml_X8_102 (Nat.le_of_ble_eq_true rfl) ⟨Nat.le_of_ble_eq_true rfl, Nat.le_of_ble_eq_true rfl⟩ ⟨by decide, by decide⟩ dX8_findReach_54 (fun v54 S54 w54 => ?_)
        · exact h46
        · first | decide | omega
        · first | decide | omega
        · focus (simp only [vp_in_iff, Int32.lt_iff_toInt_lt, Int32.le_iff_toInt_le, ← Int32.toInt_inj, Int32.toInt_add, Int32.toInt_sub, Int32.toInt_mul, Int32.toInt_neg, pq_NuO, pq_NuI, pq_NuJ, pq_NuR, pq_shr6, pq_shr7, pq_shr8, lqm1, lq0, lq1, lq7] at *; (try simp (disch := omega) only [pq_bm] at *); all_goals omega)
        · focus (simp only [vp_in_iff, Int32.lt_iff_toInt_lt, Int32.le_iff_toInt_le, ← Int32.toInt_inj, Int32.toInt_add, Int32.toInt_sub, Int32.toInt_mul, Int32.toInt_neg, pq_NuO, pq_NuI, pq_NuJ, pq_NuR, pq_shr6, pq_shr7, pq_shr8, lqm1, lq0, lq1, lq7] at *; (try simp (disch := omega) only [pq_bm] at *); all_goals omega)
        · focus (simp only [vp_in_iff, Int32.lt_iff_toInt_lt, Int32.le_iff_toInt_le, ← Int32.toInt_inj, Int32.toInt_add, Int32.toInt_sub, Int32.toInt_mul, Int32.toInt_neg, pq_NuO, pq_NuI, pq_NuJ, pq_NuR, pq_shr6, pq_shr7, pq_shr8, lqm1, lq0, lq1, lq7] at *; (try simp (disch := omega) only [pq_bm] at *); all_goals omega)
        · focus (simp only [vp_in_iff, Int32.lt_iff_toInt_lt, Int32.le_iff_toInt_le, ← Int32.toInt_inj, Int32.toInt_add, Int32.toInt_sub, Int32.toInt_mul, Int32.toInt_neg, pq_NuO, pq_NuI, pq_NuJ, pq_NuR, pq_shr6, pq_shr7, pq_shr8, lqm1, lq0, lq1, lq7] at *; (try simp (disch := omega) only [pq_bm] at *); all_goals omega)
        obtain ⟨u54, y54, rfl, yl54_0, yl54_1⟩ := w54
        rw [u54]
        refine pq_if_eq (tgt := 65) F dX8_findReach_57 (by decide) (fun c57 => ?_) (fun c57 => ?_)
        · skip
          refine pq_iinc (v := 1) F dX8_findReach_65 rfl (by decide) (by decide) ?_
          refine pq_goto (tgt := 34) F dX8_findReach_68 (by decide) ?_
          exact pq_fgm [true, true, true] (ih _ _ hF (by focus (simp only [vp_in_iff, Int32.lt_iff_toInt_lt, Int32.le_iff_toInt_le, ← Int32.toInt_inj, Int32.toInt_add, Int32.toInt_sub, Int32.toInt_mul, Int32.toInt_neg, pq_NuO, pq_NuI, pq_NuJ, pq_NuR, pq_shr6, pq_shr7, pq_shr8, lqm1, lq0, lq1, lq7] at *; (try simp (disch := omega) only [pq_bm] at *); all_goals omega)) (by focus (simp only [vp_in_iff, Int32.lt_iff_toInt_lt, Int32.le_iff_toInt_le, ← Int32.toInt_inj, Int32.toInt_add, Int32.toInt_sub, Int32.toInt_mul, Int32.toInt_neg, pq_NuO, pq_NuI, pq_NuJ, pq_NuR, pq_shr6, pq_shr7, pq_shr8, lqm1, lq0, lq1, lq7] at *; (try simp (disch := omega) only [pq_bm] at *); all_goals omega)) (by focus (simp only [vp_in_iff, Int32.lt_iff_toInt_lt, Int32.le_iff_toInt_le, ← Int32.toInt_inj, Int32.toInt_add, Int32.toInt_sub, Int32.toInt_mul, Int32.toInt_neg, pq_NuO, pq_NuI, pq_NuJ, pq_NuR, pq_shr6, pq_shr7, pq_shr8, lqm1, lq0, lq1, lq7] at *; (try simp (disch := omega) only [pq_bm] at *); all_goals omega)))
        · skip
          refine pq_aload_n F dX8_findReach_60 rfl rfl ?_
          refine pq_iload_n F dX8_findReach_61 rfl rfl ?_
          refine pq_callV (As := [_]) F (k_X8_addFollowers l D cy _ _ ?_ _ ?_ ?_) ml_X8_106 haL (by decide) rfl (Nat.le_of_ble_eq_true rfl) ⟨Nat.le_of_ble_eq_true rfl, Nat.le_of_ble_eq_true rfl⟩ ⟨by decide, by decide⟩ dX8_findReach_62 (fun v62 S62 w62 => ?_)
          · exact haL
          · focus (simp only [vp_in_iff, Int32.lt_iff_toInt_lt, Int32.le_iff_toInt_le, ← Int32.toInt_inj, Int32.toInt_add, Int32.toInt_sub, Int32.toInt_mul, Int32.toInt_neg, pq_NuO, pq_NuI, pq_NuJ, pq_NuR, pq_shr6, pq_shr7, pq_shr8, lqm1, lq0, lq1, lq7] at *; (try simp (disch := omega) only [pq_bm] at *); all_goals omega)
          · focus (simp only [vp_in_iff, Int32.lt_iff_toInt_lt, Int32.le_iff_toInt_le, ← Int32.toInt_inj, Int32.toInt_add, Int32.toInt_sub, Int32.toInt_mul, Int32.toInt_neg, pq_NuO, pq_NuI, pq_NuJ, pq_NuR, pq_shr6, pq_shr7, pq_shr8, lqm1, lq0, lq1, lq7] at *; (try simp (disch := omega) only [pq_bm] at *); all_goals omega)
          obtain ⟨rfl, hF62⟩ := w62
          have haL_62 := (hF62.1 _ _ haL (by decide)).1
          have h36_62 := (hF62.1 _ _ h36 (by decide)).1
          have ec62_0_haL_62 := hF62.O haL (by decide) (by decide) e36
          have ec62_3_h36_62 := hF62.O h36 (by decide) (by decide) e39
          have h46_62 := (hF62.1 _ _ h46 (by decide)).1
          have ec62_2_haL_62 := hF62.O haL (by decide) (by decide) e46
          refine pq_iinc (v := 1) F dX8_findReach_65 rfl (by decide) (by decide) ?_
          refine pq_goto (tgt := 34) F dX8_findReach_68 (by decide) ?_
          exact pq_fgm [true, true, true] (ih _ _ (hF.cm hF62 (by decide)) (by focus (simp only [vp_in_iff, Int32.lt_iff_toInt_lt, Int32.le_iff_toInt_le, ← Int32.toInt_inj, Int32.toInt_add, Int32.toInt_sub, Int32.toInt_mul, Int32.toInt_neg, pq_NuO, pq_NuI, pq_NuJ, pq_NuR, pq_shr6, pq_shr7, pq_shr8, lqm1, lq0, lq1, lq7] at *; (try simp (disch := omega) only [pq_bm] at *); all_goals omega)) (by focus (simp only [vp_in_iff, Int32.lt_iff_toInt_lt, Int32.le_iff_toInt_le, ← Int32.toInt_inj, Int32.toInt_add, Int32.toInt_sub, Int32.toInt_mul, Int32.toInt_neg, pq_NuO, pq_NuI, pq_NuJ, pq_NuR, pq_shr6, pq_shr7, pq_shr8, lqm1, lq0, lq1, lq7] at *; (try simp (disch := omega) only [pq_bm] at *); all_goals omega)) (by focus (simp only [vp_in_iff, Int32.lt_iff_toInt_lt, Int32.le_iff_toInt_le, ← Int32.toInt_inj, Int32.toInt_add, Int32.toInt_sub, Int32.toInt_mul, Int32.toInt_neg, pq_NuO, pq_NuI, pq_NuJ, pq_NuR, pq_shr6, pq_shr7, pq_shr8, lqm1, lq0, lq1, lq7] at *; (try simp (disch := omega) only [pq_bm] at *); all_goals omega)))
  refine pq_aload_n F dX8_findReach_0 rfl rfl ?_
  refine pq_getR F ha (by decide) lk_X8_26 rfl dX8_findReach_1 (fun r1 e1 h1 => ?_)
  refine pq_lconst (v := 0) F dX8_findReach_4 (by decide) ?_
  refine pq_lenF h1 (by decide) rfl (fun lna5_0 lnb5_0 => ?_)
  refine pq_callS (As := [_, _]) F (k_J7_fill_d0a16 l D cy _ _ 198 ?_ ?_ ?_ _ ?_) ml_X8_85 (Nat.le_of_ble_eq_true rfl) ⟨Nat.le_of_ble_eq_true rfl, Nat.le_of_ble_eq_true rfl⟩ ⟨by decide, by decide⟩ dX8_findReach_5 (fun v5 S5 w5 => ?_)
  · exact h1
  · first | decide | omega
  · first | decide | omega
  · focus (simp only [vp_in_iff, Int32.lt_iff_toInt_lt, Int32.le_iff_toInt_le, ← Int32.toInt_inj, Int32.toInt_add, Int32.toInt_sub, Int32.toInt_mul, Int32.toInt_neg, pq_NuO, pq_NuI, pq_NuJ, pq_NuR, pq_shr6, pq_shr7, pq_shr8, lqm1, lq0, lq1, lq7] at *; (try simp (disch := omega) only [pq_bm] at *); all_goals omega)
  obtain ⟨rfl, f5, rfl, g5⟩ := w5
  refine pq_iload_n F dX8_findReach_8 rfl rfl ?_
  refine pq_iconst (v := 1) F dX8_findReach_9 (by decide) ?_
  refine pq_icmp_ne (tgt := 32) F dX8_findReach_10 (by decide) (fun c10 => ?_) (fun c10 => ?_)
  · skip
    refine pq_iconst (v := 0) F dX8_findReach_32 (by decide) ?_
    refine pq_istore_n F dX8_findReach_33 rfl (by decide) ?_
    exact pq_fgm [true, true, true] (L34  100000 _ _  (pq_Fr.rf.uJ h1 (by first | decide | exact List.mem_cons_self)) (by focus (simp only [vp_in_iff, Int32.lt_iff_toInt_lt, Int32.le_iff_toInt_le, ← Int32.toInt_inj, Int32.toInt_add, Int32.toInt_sub, Int32.toInt_mul, Int32.toInt_neg, pq_NuO, pq_NuI, pq_NuJ, pq_NuR, pq_shr6, pq_shr7, pq_shr8, lqm1, lq0, lq1, lq7] at *; (try simp (disch := omega) only [pq_bm] at *); all_goals omega)) (by focus (simp only [vp_in_iff, Int32.lt_iff_toInt_lt, Int32.le_iff_toInt_le, ← Int32.toInt_inj, Int32.toInt_add, Int32.toInt_sub, Int32.toInt_mul, Int32.toInt_neg, pq_NuO, pq_NuI, pq_NuJ, pq_NuR, pq_shr6, pq_shr7, pq_shr8, lqm1, lq0, lq1, lq7] at *; (try simp (disch := omega) only [pq_bm] at *); all_goals omega)) (by focus (simp only [vp_in_iff, Int32.lt_iff_toInt_lt, Int32.le_iff_toInt_le, ← Int32.toInt_inj, Int32.toInt_add, Int32.toInt_sub, Int32.toInt_mul, Int32.toInt_neg, pq_NuO, pq_NuI, pq_NuJ, pq_NuR, pq_shr6, pq_shr7, pq_shr8, lqm1, lq0, lq1, lq7] at *; (try simp (disch := omega) only [pq_bm] at *); all_goals omega)))
  · skip
    refine pq_aload_n F dX8_findReach_13 rfl rfl ?_
    refine pq_get F ha (by decide) lk_X8_26 e1 dX8_findReach_14 ?_
    refine pq_iconst (v := 0) F dX8_findReach_17 (by decide) ?_
    refine pq_aload_n F dX8_findReach_18 rfl rfl ?_
    refine pq_getR F ha (by decide) lk_X8_35 rfl dX8_findReach_19 (fun r19 e19 h19 => ?_)
    refine pq_getR F h19 (by decide) lk_X8_88 rfl dX8_findReach_22 (fun r22 e22 h22 => ?_)
    refine pq_getR F h22 (by decide) lk_X8_92 rfl dX8_findReach_25 (fun r25 e25 h25 => ?_)
    refine pq_lenF h1 (by decide) rfl (fun lna28_0 lnb28_0 => ?_)
    refine pq_lenF h25 (by decide) rfl (fun lna28_2 lnb28_2 => ?_)
    refine pq_callS (As := [_, _, _]) F (k_X10_addAll l D cy _ _ 198 ?_ ?_ ?_ _ ?_ _ 190 ?_ ?_ ?_ ?_ ?_ ?_) ml_X8_97 (Nat.le_of_ble_eq_true rfl) ⟨Nat.le_of_ble_eq_true rfl, Nat.le_of_ble_eq_true rfl⟩ ⟨by decide, by decide⟩ dX8_findReach_28 (fun v28 S28 w28 => ?_)
    · exact h1
    · first | decide | omega
    · first | decide | omega
    · focus (simp only [vp_in_iff, Int32.lt_iff_toInt_lt, Int32.le_iff_toInt_le, ← Int32.toInt_inj, Int32.toInt_add, Int32.toInt_sub, Int32.toInt_mul, Int32.toInt_neg, pq_NuO, pq_NuI, pq_NuJ, pq_NuR, pq_shr6, pq_shr7, pq_shr8, lqm1, lq0, lq1, lq7] at *; (try simp (disch := omega) only [pq_bm] at *); all_goals omega)
    · exact h25
    · first | decide | omega
    · first | decide | omega
    · focus (simp only [vp_in_iff, Int32.lt_iff_toInt_lt, Int32.le_iff_toInt_le, ← Int32.toInt_inj, Int32.toInt_add, Int32.toInt_sub, Int32.toInt_mul, Int32.toInt_neg, pq_NuO, pq_NuI, pq_NuJ, pq_NuR, pq_shr6, pq_shr7, pq_shr8, lqm1, lq0, lq1, lq7] at *; (try simp (disch := omega) only [pq_bm] at *); all_goals omega)
    · focus (simp only [vp_in_iff, Int32.lt_iff_toInt_lt, Int32.le_iff_toInt_le, ← Int32.toInt_inj, Int32.toInt_add, Int32.toInt_sub, Int32.toInt_mul, Int32.toInt_neg, pq_NuO, pq_NuI, pq_NuJ, pq_NuR, pq_shr6, pq_shr7, pq_shr8, lqm1, lq0, lq1, lq7] at *; (try simp (disch := omega) only [pq_bm] at *); all_goals omega)
    · focus (simp only [vp_in_iff, Int32.lt_iff_toInt_lt, Int32.le_iff_toInt_le, ← Int32.toInt_inj, Int32.toInt_add, Int32.toInt_sub, Int32.toInt_mul, Int32.toInt_neg, pq_NuO, pq_NuI, pq_NuJ, pq_NuR, pq_shr6, pq_shr7, pq_shr8, lqm1, lq0, lq1, lq7] at *; (try simp (disch := omega) only [pq_bm] at *); all_goals omega)
    obtain ⟨rfl, f28, rfl⟩ := w28
    exact pq_vret F hr hlk hA (Nat.le_refl _) (Nat.le_refl _) (⟨rfl, ((pq_Fr.rf.uJ h1 (by first | decide | exact List.mem_cons_self)).uJ h1 (by first | decide | exact List.mem_cons_self))⟩) dX8_findReach_31

set_option maxHeartbeats 4000000 in
set_option maxRecDepth 100000 in
theorem k_X8_slotOfGoal (l : Launch) (D : va_G) (cy : Nat → ClassId) (S : HS) (a : Nat) (ha : pq_R S a 11) : pq_C l D cy yX8_slotOfGoal cX8_slotOfGoal 4 (some .int) 1 0 0 S [.ref a] (fun v S2 => S2 = S ∧ ∃ x : Int32, v = some (.int x) ∧ 0 ≤ x.toInt ∧ x.toInt ≤ 1023) := by
  refine pq_start (by decide) (Nat.le_of_ble_eq_true rfl) ?_
  intro p e s m args below meth c A F hr hlk hnm hA
  have lqm1 : (-1 : Int32).toInt = -1 := rfl
  have lq0 : (0 : Int32).toInt = 0 := rfl
  have lq1 : (1 : Int32).toInt = 1 := rfl
  have lq7 : (7 : Int32).toInt = 7 := rfl
  have lq32 : (32 : Int32).toInt = 32 := rfl
  have lq1023 : (1023 : Int32).toInt = 1023 := rfl
  have L4 : ∀  (fu : Nat)  (j_mix : Int64) (k : Int32)  (hk0 : 0 ≤ k.toInt) (hk1 : k.toInt ≤ 7), (7 - k.toInt).toNat < fu → pq_At p l e (pq_rm 1 0 0) s m args below meth c (pq_Z below args s D cy S 0 0 (fun v S2 => S2 = S ∧ ∃ x : Int32, v = some (.int x) ∧ 0 ≤ x.toInt ∧ x.toInt ≤ 1023)) D cy A 4 0 0 4 S [some (.ref a), some (.long j_mix), none, some (.int k)] [] := by
    intro  fu
    induction fu with
    | zero => intro j_mix k hk0 hk1 hm; exact absurd hm (Nat.not_lt_zero _)
    | succ fu ih =>
      intro j_mix k hk0 hk1 hm
      refine pq_iload_n F dX8_slotOfGoal_4 rfl rfl ?_
      refine pq_bipush (v := 7) F dX8_slotOfGoal_5 (by decide) ?_
      refine pq_icmp_ge (tgt := 36) F dX8_slotOfGoal_7 (by decide) (fun c7 => ?_) (fun c7 => ?_)
      · skip
        refine pq_lload_n F dX8_slotOfGoal_36 rfl rfl ?_
        refine pq_l2i F dX8_slotOfGoal_37 ?_
        refine pq_sipush (v := 1023) F dX8_slotOfGoal_38 (by decide) ?_
        refine pq_iand F dX8_slotOfGoal_41 ?_
        exact pq_iret F hr hlk hA (Nat.le_refl _) (Nat.le_refl _) (⟨rfl, _, rfl, (pq_and1023 _).1, (pq_and1023 _).2⟩) dX8_slotOfGoal_42
      · skip
        refine pq_lload_n F dX8_slotOfGoal_10 rfl rfl ?_
        refine pq_aload_n F dX8_slotOfGoal_11 rfl rfl ?_
        refine pq_getR F ha (by decide) lk_X8_29 rfl dX8_slotOfGoal_12 (fun r12 e12 h12 => ?_)
        refine pq_iload_n F dX8_slotOfGoal_15 rfl rfl ?_
        refine pq_lald F h12 (by decide) (by decide) rfl (fun n1_16 n2_16 => (by focus (simp only [vp_in_iff, Int32.lt_iff_toInt_lt, Int32.le_iff_toInt_le, ← Int32.toInt_inj, Int32.toInt_add, Int32.toInt_sub, Int32.toInt_mul, Int32.toInt_neg, pq_NuO, pq_NuI, pq_NuJ, pq_NuR, pq_shr6, pq_shr7, pq_shr8, lqm1, lq0, lq1, lq7, lq32, lq1023] at *; (try simp (disch := omega) only [pq_bm] at *); all_goals omega))) dX8_slotOfGoal_16 (fun x16 e16 => ?_)
        refine pq_lxor F dX8_slotOfGoal_17 ?_
        refine pq_ldc2 F lc_X8_130 dX8_slotOfGoal_18 ?_
        refine pq_lmul F dX8_slotOfGoal_21 ?_
        refine pq_lstore_n F dX8_slotOfGoal_22 rfl (by decide) ?_
        refine pq_lload_n F dX8_slotOfGoal_23 rfl rfl ?_
        refine pq_lload_n F dX8_slotOfGoal_24 rfl rfl ?_
        refine pq_bipush (v := 32) F dX8_slotOfGoal_25 (by decide) ?_
        refine pq_lushr F dX8_slotOfGoal_27 ?_
        refine pq_lxor F dX8_slotOfGoal_28 ?_
        refine pq_lstore_n F dX8_slotOfGoal_29 rfl (by decide) ?_
        refine pq_iinc (v := 1) F dX8_slotOfGoal_30 rfl (by decide) (by decide) ?_
        refine pq_goto (tgt := 4) F dX8_slotOfGoal_33 (by decide) ?_
        exact pq_fgm [true, true, false, true] (ih _ _ (by focus (simp only [vp_in_iff, Int32.lt_iff_toInt_lt, Int32.le_iff_toInt_le, ← Int32.toInt_inj, Int32.toInt_add, Int32.toInt_sub, Int32.toInt_mul, Int32.toInt_neg, pq_NuO, pq_NuI, pq_NuJ, pq_NuR, pq_shr6, pq_shr7, pq_shr8, lqm1, lq0, lq1, lq7, lq32, lq1023] at *; (try simp (disch := omega) only [pq_bm] at *); all_goals omega)) (by focus (simp only [vp_in_iff, Int32.lt_iff_toInt_lt, Int32.le_iff_toInt_le, ← Int32.toInt_inj, Int32.toInt_add, Int32.toInt_sub, Int32.toInt_mul, Int32.toInt_neg, pq_NuO, pq_NuI, pq_NuJ, pq_NuR, pq_shr6, pq_shr7, pq_shr8, lqm1, lq0, lq1, lq7, lq32, lq1023] at *; (try simp (disch := omega) only [pq_bm] at *); all_goals omega)) (by focus (simp only [vp_in_iff, Int32.lt_iff_toInt_lt, Int32.le_iff_toInt_le, ← Int32.toInt_inj, Int32.toInt_add, Int32.toInt_sub, Int32.toInt_mul, Int32.toInt_neg, pq_NuO, pq_NuI, pq_NuJ, pq_NuR, pq_shr6, pq_shr7, pq_shr8, lqm1, lq0, lq1, lq7, lq32, lq1023] at *; (try simp (disch := omega) only [pq_bm] at *); all_goals omega)))
  refine pq_lconst (v := 0) F dX8_slotOfGoal_0 (by decide) ?_
  refine pq_lstore_n F dX8_slotOfGoal_1 rfl (by decide) ?_
  refine pq_iconst (v := 0) F dX8_slotOfGoal_2 (by decide) ?_
  refine pq_istore_n F dX8_slotOfGoal_3 rfl (by decide) ?_
  exact pq_fgm [true, true, false, true] (L4  100000 _ _  (by focus (simp only [vp_in_iff, Int32.lt_iff_toInt_lt, Int32.le_iff_toInt_le, ← Int32.toInt_inj, Int32.toInt_add, Int32.toInt_sub, Int32.toInt_mul, Int32.toInt_neg, pq_NuO, pq_NuI, pq_NuJ, pq_NuR, pq_shr6, pq_shr7, pq_shr8, lqm1, lq0, lq1, lq7, lq32, lq1023] at *; (try simp (disch := omega) only [pq_bm] at *); all_goals omega)) (by focus (simp only [vp_in_iff, Int32.lt_iff_toInt_lt, Int32.le_iff_toInt_le, ← Int32.toInt_inj, Int32.toInt_add, Int32.toInt_sub, Int32.toInt_mul, Int32.toInt_neg, pq_NuO, pq_NuI, pq_NuJ, pq_NuR, pq_shr6, pq_shr7, pq_shr8, lqm1, lq0, lq1, lq7, lq32, lq1023] at *; (try simp (disch := omega) only [pq_bm] at *); all_goals omega)) (by focus (simp only [vp_in_iff, Int32.lt_iff_toInt_lt, Int32.le_iff_toInt_le, ← Int32.toInt_inj, Int32.toInt_add, Int32.toInt_sub, Int32.toInt_mul, Int32.toInt_neg, pq_NuO, pq_NuI, pq_NuJ, pq_NuR, pq_shr6, pq_shr7, pq_shr8, lqm1, lq0, lq1, lq7, lq32, lq1023] at *; (try simp (disch := omega) only [pq_bm] at *); all_goals omega)))

set_option maxHeartbeats 4000000 in
set_option maxRecDepth 100000 in
theorem k_X8_newState (l : Launch) (D : va_G) (cy : Nat → ClassId) (S : HS) (a : Nat) (ha : pq_R S a 11) (so : Int32) (hso0 : 0 ≤ so.toInt) (hso1 : so.toInt ≤ 1023) (sl : Nat) (ss : Int32) (e3 : hO S a 3 = .ref sl) (hsl : pq_R S sl 166) (e7 : hO S a 7 = .int ss) (hs0 : 2 ≤ ss.toInt) (hs1 : ss.toInt ≤ 402) (hlt : pq_lt (hI S sl) 1024 ss.toInt) : pq_C l D cy yX8_newState cX8_newState 3 (some .int) 1 0 0 S [.ref a, .int so] (fun v S2 => pq_Fr [(11, 7), (11, 9), (166, 0), (197, 0)] S S2 ∧ ∃ x : Int32, v = some (.int x) ∧ 0 ≤ x.toInt ∧ x.toInt ≤ 401 ∧ (∃ s2 : Int32, hO S2 a 7 = .int s2 ∧ (ss.toInt ≤ s2.toInt ∧ s2.toInt ≤ 402 ∧ x.toInt < s2.toInt) ∧ pq_lt (hI S2 sl) 1024 s2.toInt)) := by
  refine pq_start (by decide) (Nat.le_of_ble_eq_true rfl) ?_
  intro p e s m args below meth c A F hr hlk hnm hA
  have lqm1 : (-1 : Int32).toInt = -1 := rfl
  have lq0 : (0 : Int32).toInt = 0 := rfl
  have lq1 : (1 : Int32).toInt = 1 := rfl
  have lq7 : (7 : Int32).toInt = 7 := rfl
  have lq402 : (402 : Int32).toInt = 402 := rfl
  refine pq_aload_n F dX8_newState_0 rfl rfl ?_
  refine pq_get F ha (by decide) lk_X8_42 e7 dX8_newState_1 ?_
  refine pq_sipush (v := 402) F dX8_newState_4 (by decide) ?_
  refine pq_icmp_lt (tgt := 17) F dX8_newState_7 (by decide) (fun c7 => ?_) (fun c7 => ?_)
  · skip
    refine pq_aload_n F dX8_newState_17 rfl rfl ?_
    refine pq_get F ha (by decide) lk_X8_42 e7 dX8_newState_18 ?_
    refine pq_istore_n F dX8_newState_21 rfl (by decide) ?_
    refine pq_aload_n F dX8_newState_22 rfl rfl ?_
    refine pq_dup F dX8_newState_23 rfl ?_
    refine pq_get F ha (by decide) lk_X8_42 e7 dX8_newState_24 ?_
    refine pq_iconst (v := 1) F dX8_newState_27 (by decide) ?_
    refine pq_iadd F dX8_newState_28 ?_
    refine pq_putI F ha (by decide) lp_X8_42 rfl (by focus ((try clear hlt); simp only [vp_in_iff, Int32.lt_iff_toInt_lt, Int32.le_iff_toInt_le, ← Int32.toInt_inj, Int32.toInt_add, Int32.toInt_sub, Int32.toInt_mul, Int32.toInt_neg, pq_NuO, pq_NuI, pq_NuJ, pq_NuR, pq_shr6, pq_shr7, pq_shr8, lqm1, lq0, lq1, lq7, lq402] at *; (try simp (disch := omega) only [pq_bm] at *); all_goals omega)) (by focus ((try clear hlt); simp only [vp_in_iff, Int32.lt_iff_toInt_lt, Int32.le_iff_toInt_le, ← Int32.toInt_inj, Int32.toInt_add, Int32.toInt_sub, Int32.toInt_mul, Int32.toInt_neg, pq_NuO, pq_NuI, pq_NuJ, pq_NuR, pq_shr6, pq_shr7, pq_shr8, lqm1, lq0, lq1, lq7, lq402] at *; (try simp (disch := omega) only [pq_bm] at *); all_goals omega)) dX8_newState_29 ?_
    refine pq_aload_n F dX8_newState_32 rfl rfl ?_
    refine pq_get F ha (by decide) lk_X8_22 (pq_kp e3 (by decide)) dX8_newState_33 ?_
    refine pq_iload_n F dX8_newState_36 rfl rfl ?_
    refine pq_iload_n F dX8_newState_37 rfl rfl ?_
    refine pq_iast F hsl (by decide) (by decide) rfl (fun n1_38 n2_38 => (by focus ((try clear hlt); simp only [vp_in_iff, Int32.lt_iff_toInt_lt, Int32.le_iff_toInt_le, ← Int32.toInt_inj, Int32.toInt_add, Int32.toInt_sub, Int32.toInt_mul, Int32.toInt_neg, pq_NuO, pq_NuI, pq_NuJ, pq_NuR, pq_shr6, pq_shr7, pq_shr8, lqm1, lq0, lq1, lq7, lq402] at *; (try simp (disch := omega) only [pq_bm] at *); all_goals omega))) (⟨(by focus ((try clear hlt); simp only [vp_in_iff, Int32.lt_iff_toInt_lt, Int32.le_iff_toInt_le, ← Int32.toInt_inj, Int32.toInt_add, Int32.toInt_sub, Int32.toInt_mul, Int32.toInt_neg, pq_NuO, pq_NuI, pq_NuJ, pq_NuR, pq_shr6, pq_shr7, pq_shr8, lqm1, lq0, lq1, lq7, lq402] at *; (try simp (disch := omega) only [pq_bm] at *); all_goals omega)), (by focus ((try clear hlt); simp only [vp_in_iff, Int32.lt_iff_toInt_lt, Int32.le_iff_toInt_le, ← Int32.toInt_inj, Int32.toInt_add, Int32.toInt_sub, Int32.toInt_mul, Int32.toInt_neg, pq_NuO, pq_NuI, pq_NuJ, pq_NuR, pq_shr6, pq_shr7, pq_shr8, lqm1, lq0, lq1, lq7, lq402] at *; (try simp (disch := omega) only [pq_bm] at *); all_goals omega))⟩) dX8_newState_38 ?_
    refine pq_aload_n F dX8_newState_39 rfl rfl ?_
    refine pq_getR F ha (by decide) lk_X8_29 rfl dX8_newState_40 (fun r40 e40 h40 => ?_)
    refine pq_iconst (v := 0) F dX8_newState_43 (by decide) ?_
    refine pq_aload_n F dX8_newState_44 rfl rfl ?_
    refine pq_getR F ha (by decide) lk_X8_18 rfl dX8_newState_45 (fun r45 e45 h45 => ?_)
    refine pq_iload_n F dX8_newState_48 rfl rfl ?_
    refine pq_bipush (v := 7) F dX8_newState_49 (by decide) ?_
    refine pq_imul F dX8_newState_51 ?_
    refine pq_bipush (v := 7) F dX8_newState_52 (by decide) ?_
    refine pq_lenF h40 (by decide) rfl (fun l1 l2 => ?_)
    refine pq_lenF h45 (by decide) rfl (fun l3 l4 => ?_)
    have c7 := pq_cl (x := ss * 7) (by focus ((try clear hlt); simp only [vp_in_iff, Int32.lt_iff_toInt_lt, Int32.le_iff_toInt_le, ← Int32.toInt_inj, Int32.toInt_add, Int32.toInt_sub, Int32.toInt_mul, Int32.toInt_neg, pq_NuO, pq_NuI, pq_NuJ, pq_NuR, pq_shr6, pq_shr7, pq_shr8, lqm1, lq0, lq1, lq7, lq402] at *; (try simp (disch := omega) only [pq_bm] at *); all_goals omega))
    refine pq_copyJ F cw_X8_132 h40 h45 (by decide) (by decide) (by decide) (by decide) (by focus ((try clear hlt); simp only [vp_in_iff, Int32.lt_iff_toInt_lt, Int32.le_iff_toInt_le, ← Int32.toInt_inj, Int32.toInt_add, Int32.toInt_sub, Int32.toInt_mul, Int32.toInt_neg, pq_NuO, pq_NuI, pq_NuJ, pq_NuR, pq_shr6, pq_shr7, pq_shr8, lqm1, lq0, lq1, lq7, lq402] at *; (try simp (disch := omega) only [pq_bm] at *); all_goals omega)) (by focus ((try clear hlt); simp only [vp_in_iff, Int32.lt_iff_toInt_lt, Int32.le_iff_toInt_le, ← Int32.toInt_inj, Int32.toInt_add, Int32.toInt_sub, Int32.toInt_mul, Int32.toInt_neg, pq_NuO, pq_NuI, pq_NuJ, pq_NuR, pq_shr6, pq_shr7, pq_shr8, lqm1, lq0, lq1, lq7, lq402] at *; (try simp (disch := omega) only [pq_bm] at *); all_goals omega)) (by focus ((try clear hlt); simp only [vp_in_iff, Int32.lt_iff_toInt_lt, Int32.le_iff_toInt_le, ← Int32.toInt_inj, Int32.toInt_add, Int32.toInt_sub, Int32.toInt_mul, Int32.toInt_neg, pq_NuO, pq_NuI, pq_NuJ, pq_NuR, pq_shr6, pq_shr7, pq_shr8, lqm1, lq0, lq1, lq7, lq402] at *; (try simp (disch := omega) only [pq_bm] at *); all_goals omega)) (by show 0 + 7 ≤ _; focus ((try clear hlt); simp only [vp_in_iff, Int32.lt_iff_toInt_lt, Int32.le_iff_toInt_le, ← Int32.toInt_inj, Int32.toInt_add, Int32.toInt_sub, Int32.toInt_mul, Int32.toInt_neg, pq_NuO, pq_NuI, pq_NuJ, pq_NuR, pq_shr6, pq_shr7, pq_shr8, lqm1, lq0, lq1, lq7, lq402] at *; (try simp (disch := omega) only [pq_bm] at *); all_goals omega)) (by show _ + 7 ≤ _; focus ((try clear hlt); simp only [vp_in_iff, Int32.lt_iff_toInt_lt, Int32.le_iff_toInt_le, ← Int32.toInt_inj, Int32.toInt_add, Int32.toInt_sub, Int32.toInt_mul, Int32.toInt_neg, pq_NuO, pq_NuI, pq_NuJ, pq_NuR, pq_shr6, pq_shr7, pq_shr8, lqm1, lq0, lq1, lq7, lq402] at *; (try simp (disch := omega) only [pq_bm] at *); all_goals omega)) ⟨Nat.le_of_ble_eq_true rfl, Nat.le_of_ble_eq_true rfl⟩ dX8_newState_54 ?_
    refine pq_iload_n F dX8_newState_57 rfl rfl ?_
    exact pq_iret F hr hlk hA (Nat.le_refl _) (Nat.le_refl _) (⟨(((pq_Fr.rf.uO ha (by decide)).uI hsl (by first | decide | exact List.mem_cons_self)).uJ h45 (by decide)), ss, rfl, (by focus ((try clear hlt); simp only [vp_in_iff, Int32.lt_iff_toInt_lt, Int32.le_iff_toInt_le, ← Int32.toInt_inj, Int32.toInt_add, Int32.toInt_sub, Int32.toInt_mul, Int32.toInt_neg, pq_NuO, pq_NuI, pq_NuJ, pq_NuR, pq_shr6, pq_shr7, pq_shr8, lqm1, lq0, lq1, lq7, lq402] at *; (try simp (disch := omega) only [pq_bm] at *); all_goals omega)), (by focus ((try clear hlt); simp only [vp_in_iff, Int32.lt_iff_toInt_lt, Int32.le_iff_toInt_le, ← Int32.toInt_inj, Int32.toInt_add, Int32.toInt_sub, Int32.toInt_mul, Int32.toInt_neg, pq_NuO, pq_NuI, pq_NuJ, pq_NuR, pq_shr6, pq_shr7, pq_shr8, lqm1, lq0, lq1, lq7, lq402] at *; (try simp (disch := omega) only [pq_bm] at *); all_goals omega)), ss + 1, pq_ks, ⟨(by focus ((try clear hlt); simp only [vp_in_iff, Int32.lt_iff_toInt_lt, Int32.le_iff_toInt_le, ← Int32.toInt_inj, Int32.toInt_add, Int32.toInt_sub, Int32.toInt_mul, Int32.toInt_neg, pq_NuO, pq_NuI, pq_NuJ, pq_NuR, pq_shr6, pq_shr7, pq_shr8, lqm1, lq0, lq1, lq7, lq402] at *; (try simp (disch := omega) only [pq_bm] at *); all_goals omega)), (by focus ((try clear hlt); simp only [vp_in_iff, Int32.lt_iff_toInt_lt, Int32.le_iff_toInt_le, ← Int32.toInt_inj, Int32.toInt_add, Int32.toInt_sub, Int32.toInt_mul, Int32.toInt_neg, pq_NuO, pq_NuI, pq_NuJ, pq_NuR, pq_shr6, pq_shr7, pq_shr8, lqm1, lq0, lq1, lq7, lq402] at *; (try simp (disch := omega) only [pq_bm] at *); all_goals omega)), (by focus ((try clear hlt); simp only [vp_in_iff, Int32.lt_iff_toInt_lt, Int32.le_iff_toInt_le, ← Int32.toInt_inj, Int32.toInt_add, Int32.toInt_sub, Int32.toInt_mul, Int32.toInt_neg, pq_NuO, pq_NuI, pq_NuJ, pq_NuR, pq_shr6, pq_shr7, pq_shr8, lqm1, lq0, lq1, lq7, lq402] at *; (try simp (disch := omega) only [pq_bm] at *); all_goals omega))⟩, (by simp only [pq_IuO, pq_IuJ, pq_Iu, pq_JuO, pq_JuI, pq_Ju, pq_RuO, pq_RuJ, pq_RuI, if_true, if_false]; exact (hlt.mono (Int.le_refl _) (by focus ((try clear hlt); simp only [vp_in_iff, Int32.lt_iff_toInt_lt, Int32.le_iff_toInt_le, ← Int32.toInt_inj, Int32.toInt_add, Int32.toInt_sub, Int32.toInt_mul, Int32.toInt_neg, pq_NuO, pq_NuI, pq_NuJ, pq_NuR, pq_shr6, pq_shr7, pq_shr8, lqm1, lq0, lq1, lq7, lq402] at *; (try simp (disch := omega) only [pq_bm] at *); all_goals omega))).set (by focus ((try clear hlt); simp only [vp_in_iff, Int32.lt_iff_toInt_lt, Int32.le_iff_toInt_le, ← Int32.toInt_inj, Int32.toInt_add, Int32.toInt_sub, Int32.toInt_mul, Int32.toInt_neg, pq_NuO, pq_NuI, pq_NuJ, pq_NuR, pq_shr6, pq_shr7, pq_shr8, lqm1, lq0, lq1, lq7, lq402] at *; (try simp (disch := omega) only [pq_bm] at *); all_goals omega)))⟩) dX8_newState_58
  · skip
    refine pq_aload_n F dX8_newState_10 rfl rfl ?_
    refine pq_iconst (v := 1) F dX8_newState_11 (by decide) ?_
    refine pq_putZ F ha (by decide) lp_X8_46 rfl (by focus ((try clear hlt); simp only [vp_in_iff, Int32.lt_iff_toInt_lt, Int32.le_iff_toInt_le, ← Int32.toInt_inj, Int32.toInt_add, Int32.toInt_sub, Int32.toInt_mul, Int32.toInt_neg, pq_NuO, pq_NuI, pq_NuJ, pq_NuR, pq_shr6, pq_shr7, pq_shr8, lqm1, lq0, lq1, lq7, lq402] at *; (try simp (disch := omega) only [pq_bm] at *); all_goals omega)) (by focus ((try clear hlt); simp only [vp_in_iff, Int32.lt_iff_toInt_lt, Int32.le_iff_toInt_le, ← Int32.toInt_inj, Int32.toInt_add, Int32.toInt_sub, Int32.toInt_mul, Int32.toInt_neg, pq_NuO, pq_NuI, pq_NuJ, pq_NuR, pq_shr6, pq_shr7, pq_shr8, lqm1, lq0, lq1, lq7, lq402] at *; (try simp (disch := omega) only [pq_bm] at *); all_goals omega)) dX8_newState_12 ?_
    refine pq_iconst (v := 0) F dX8_newState_15 (by decide) ?_
    exact pq_iret F hr hlk hA (Nat.le_refl _) (Nat.le_refl _) (⟨(pq_Fr.rf.uO ha (by decide)), 0, rfl, (by focus ((try clear hlt); simp only [vp_in_iff, Int32.lt_iff_toInt_lt, Int32.le_iff_toInt_le, ← Int32.toInt_inj, Int32.toInt_add, Int32.toInt_sub, Int32.toInt_mul, Int32.toInt_neg, pq_NuO, pq_NuI, pq_NuJ, pq_NuR, pq_shr6, pq_shr7, pq_shr8, lqm1, lq0, lq1, lq7, lq402] at *; (try simp (disch := omega) only [pq_bm] at *); all_goals omega)), (by focus ((try clear hlt); simp only [vp_in_iff, Int32.lt_iff_toInt_lt, Int32.le_iff_toInt_le, ← Int32.toInt_inj, Int32.toInt_add, Int32.toInt_sub, Int32.toInt_mul, Int32.toInt_neg, pq_NuO, pq_NuI, pq_NuJ, pq_NuR, pq_shr6, pq_shr7, pq_shr8, lqm1, lq0, lq1, lq7, lq402] at *; (try simp (disch := omega) only [pq_bm] at *); all_goals omega)), ss, (pq_kp e7 (by decide)), ⟨(by focus ((try clear hlt); simp only [vp_in_iff, Int32.lt_iff_toInt_lt, Int32.le_iff_toInt_le, ← Int32.toInt_inj, Int32.toInt_add, Int32.toInt_sub, Int32.toInt_mul, Int32.toInt_neg, pq_NuO, pq_NuI, pq_NuJ, pq_NuR, pq_shr6, pq_shr7, pq_shr8, lqm1, lq0, lq1, lq7, lq402] at *; (try simp (disch := omega) only [pq_bm] at *); all_goals omega)), (by focus ((try clear hlt); simp only [vp_in_iff, Int32.lt_iff_toInt_lt, Int32.le_iff_toInt_le, ← Int32.toInt_inj, Int32.toInt_add, Int32.toInt_sub, Int32.toInt_mul, Int32.toInt_neg, pq_NuO, pq_NuI, pq_NuJ, pq_NuR, pq_shr6, pq_shr7, pq_shr8, lqm1, lq0, lq1, lq7, lq402] at *; (try simp (disch := omega) only [pq_bm] at *); all_goals omega)), (by focus ((try clear hlt); simp only [vp_in_iff, Int32.lt_iff_toInt_lt, Int32.le_iff_toInt_le, ← Int32.toInt_inj, Int32.toInt_add, Int32.toInt_sub, Int32.toInt_mul, Int32.toInt_neg, pq_NuO, pq_NuI, pq_NuJ, pq_NuR, pq_shr6, pq_shr7, pq_shr8, lqm1, lq0, lq1, lq7, lq402] at *; (try simp (disch := omega) only [pq_bm] at *); all_goals omega))⟩, hlt⟩) dX8_newState_16

