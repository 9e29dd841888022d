set_option maxHeartbeats 4000000 in
set_option maxRecDepth 100000 in
theorem k_J7_fillI (l : Launch) (D : va_G) (cy : Nat → ClassId) (S : HS) (b rb : Nat) (hb : pq_R S b rb) (kb0 : 120 ≤ rb) (kb1 : rb < 180) (lo : Int32) (hlo0 : 0 ≤ lo.toInt) (hi : Int32) (vv : Int32) (h1 : lo.toInt ≤ hi.toInt) (h2 : hi.toInt ≤ (hN S b : Int)) (hb9 : hN S b ≤ 1000000) (hv : (pq_al rb).2.2.1 ≤ vv.toInt ∧ vv.toInt ≤ (pq_al rb).2.2.2) : pq_C l D cy yJ7_fill_fda19 cJ7_fill_fda19 5 (none) 2 0 0 S [.ref b, .int lo, .int hi, .int vv] (fun v S2 => v = none ∧ ∃ f : Nat → Int32, S2 = pq_uI S b f ∧ (∀ i : Nat, lo.toInt ≤ (i : Int) → (i : Int) < hi.toInt → f i = vv)) := by
  refine pq_start (by decide) (Nat.le_of_ble_eq_true rfl) ?_
  intro p e s m args below meth c A F hr hlk hnm hA
  have lqm1 : (-1 : Int32).toInt = -1 := rfl
  have lq0 : (0 : Int32).toInt = 0 := rfl
  have lq1 : (1 : Int32).toInt = 1 := rfl
  have L10 : ∀  (fu : Nat) (S1 : HS) (k : Int32)  (hF : ∃ f : Nat → Int32, S1 = pq_uI S b f ∧ ∀ i : Nat, lo.toInt ≤ (i : Int) → (i : Int) < k.toInt → f i = vv) (hk0 : 0 ≤ k.toInt) (hk1 : k.toInt ≤ hi.toInt), (hi.toInt - k.toInt).toNat < fu → pq_At p l e (pq_rm 2 0 0) s m args below meth c (pq_Z below args s D cy S 0 0 (fun v S2 => v = none ∧ ∃ f : Nat → Int32, S2 = pq_uI S b f ∧ (∀ i : Nat, lo.toInt ≤ (i : Int) → (i : Int) < hi.toInt → f i = vv))) D cy A 5 0 0 10 S1 [some (.ref b), some (.int lo), some (.int hi), some (.int vv), some (.int k)] [] := by
    intro  fu
    induction fu with
    | zero => intro S1 k hF hk0 hk1 hm; exact absurd hm (Nat.not_lt_zero _)
    | succ fu ih =>
      intro S1 k hF hk0 hk1 hm
      obtain ⟨f0, rfl, hf0⟩ := hF
      have hbL := hb
      refine pq_iload F dJ7_fill_fda19_10 rfl ?_
      refine pq_iload_n F dJ7_fill_fda19_12 rfl rfl ?_
      refine pq_icmp_ge (tgt := 27) F dJ7_fill_fda19_13 (by decide) (fun c13 => ?_) (fun c13 => ?_)
      · skip
        exact pq_vret F hr hlk hA (Nat.le_refl _) (Nat.le_refl _) (⟨rfl, _, rfl, fun i hi1 hi2 => hf0 i hi1 (by focus ((try clear hv); (try clear hf0); simp only [vp_in_iff, Int32.lt_iff_toInt_lt, Int32.le_iff_toInt_le, ← Int32.toInt_inj, Int32.toInt_add, Int32.toInt_sub, Int32.toInt_mul, Int32.toInt_neg, pq_NuO, pq_NuI, pq_NuJ, pq_NuR, pq_shr6, pq_shr7, pq_shr8, lqm1, lq0, lq1] at *; (try simp (disch := omega) only [pq_bm] at *); all_goals omega))⟩) dJ7_fill_fda19_27
      · skip
        refine pq_aload_n F dJ7_fill_fda19_16 rfl rfl ?_
        refine pq_iload F dJ7_fill_fda19_17 rfl ?_
        refine pq_iload_n F dJ7_fill_fda19_19 rfl rfl ?_
        refine pq_iast F hbL kb0 kb1 rfl (fun n1_20 n2_20 => (by focus ((try clear hv); (try clear hf0); simp only [vp_in_iff, Int32.lt_iff_toInt_lt, Int32.le_iff_toInt_le, ← Int32.toInt_inj, Int32.toInt_add, Int32.toInt_sub, Int32.toInt_mul, Int32.toInt_neg, pq_NuO, pq_NuI, pq_NuJ, pq_NuR, pq_shr6, pq_shr7, pq_shr8, lqm1, lq0, lq1] at *; (try simp (disch := omega) only [pq_bm] at *); all_goals omega))) (hv) dJ7_fill_fda19_20 ?_
        refine pq_iinc (v := 1) F dJ7_fill_fda19_21 rfl (by decide) (by decide) ?_
        refine pq_goto (tgt := 10) F dJ7_fill_fda19_24 (by decide) ?_
        exact pq_fgm [true, true, true, true, true] (ih _ _ ⟨_, pq_uII, fun i hi1 hi2 => (by rw [pq_Ia]; have ck := pq_cl hk0; exact (if z9 : i = k.toNatClampNeg then (by rw [z9, pk_us]) else (by rw [pk_un z9]; exact hf0 i hi1 (by focus ((try clear hv); (try clear hf0); simp only [vp_in_iff, Int32.lt_iff_toInt_lt, Int32.le_iff_toInt_le, ← Int32.toInt_inj, Int32.toInt_add, Int32.toInt_sub, Int32.toInt_mul, Int32.toInt_neg, pq_NuO, pq_NuI, pq_NuJ, pq_NuR, pq_shr6, pq_shr7, pq_shr8, lqm1, lq0, lq1] at *; (try simp (disch := omega) only [pq_bm] at *); all_goals omega)))))⟩ (by focus ((try clear hv); (try clear hf0); simp only [vp_in_iff, Int32.lt_iff_toInt_lt, Int32.le_iff_toInt_le, ← Int32.toInt_inj, Int32.toInt_add, Int32.toInt_sub, Int32.toInt_mul, Int32.toInt_neg, pq_NuO, pq_NuI, pq_NuJ, pq_NuR, pq_shr6, pq_shr7, pq_shr8, lqm1, lq0, lq1] at *; (try simp (disch := omega) only [pq_bm] at *); all_goals omega)) (by focus ((try clear hv); (try clear hf0); simp only [vp_in_iff, Int32.lt_iff_toInt_lt, Int32.le_iff_toInt_le, ← Int32.toInt_inj, Int32.toInt_add, Int32.toInt_sub, Int32.toInt_mul, Int32.toInt_neg, pq_NuO, pq_NuI, pq_NuJ, pq_NuR, pq_shr6, pq_shr7, pq_shr8, lqm1, lq0, lq1] at *; (try simp (disch := omega) only [pq_bm] at *); all_goals omega)) (by focus ((try clear hv); (try clear hf0); simp only [vp_in_iff, Int32.lt_iff_toInt_lt, Int32.le_iff_toInt_le, ← Int32.toInt_inj, Int32.toInt_add, Int32.toInt_sub, Int32.toInt_mul, Int32.toInt_neg, pq_NuO, pq_NuI, pq_NuJ, pq_NuR, pq_shr6, pq_shr7, pq_shr8, lqm1, lq0, lq1] at *; (try simp (disch := omega) only [pq_bm] at *); all_goals omega)))
  refine pq_aload_n F dJ7_fill_fda19_0 rfl rfl ?_
  refine pq_alen F hb (by omega) rfl dJ7_fill_fda19_1 (fun l1 u1 => ?_)
  skip
  refine pq_iload_n F dJ7_fill_fda19_2 rfl rfl ?_
  refine pq_iload_n F dJ7_fill_fda19_3 rfl rfl ?_
  have nq1 := nI_toInt (n := hN S b) (by omega)
  refine pq_callS (As := [_, _, _]) F (k_J7_rangeCheck_23922 l D cy _ _ _ ?_ _ ?_ ?_) ml_J7_13 (Nat.le_of_ble_eq_true rfl) ⟨Nat.le_of_ble_eq_true rfl, Nat.le_of_ble_eq_true rfl⟩ ⟨by decide, by decide⟩ dJ7_fill_fda19_4 (fun v4 S4 w4 => ?_)
  · focus ((try clear hv); (try clear hf0); simp only [vp_in_iff, Int32.lt_iff_toInt_lt, Int32.le_iff_toInt_le, ← Int32.toInt_inj, Int32.toInt_add, Int32.toInt_sub, Int32.toInt_mul, Int32.toInt_neg, pq_NuO, pq_NuI, pq_NuJ, pq_NuR, pq_shr6, pq_shr7, pq_shr8, lqm1, lq0, lq1] at *; (try simp (disch := omega) only [pq_bm] at *); all_goals omega)
  · focus ((try clear hv); (try clear hf0); simp only [vp_in_iff, Int32.lt_iff_toInt_lt, Int32.le_iff_toInt_le, ← Int32.toInt_inj, Int32.toInt_add, Int32.toInt_sub, Int32.toInt_mul, Int32.toInt_neg, pq_NuO, pq_NuI, pq_NuJ, pq_NuR, pq_shr6, pq_shr7, pq_shr8, lqm1, lq0, lq1] at *; (try simp (disch := omega) only [pq_bm] at *); all_goals omega)
  · focus ((try clear hv); (try clear hf0); simp only [vp_in_iff, Int32.lt_iff_toInt_lt, Int32.le_iff_toInt_le, ← Int32.toInt_inj, Int32.toInt_add, Int32.toInt_sub, Int32.toInt_mul, Int32.toInt_neg, pq_NuO, pq_NuI, pq_NuJ, pq_NuR, pq_shr6, pq_shr7, pq_shr8, lqm1, lq0, lq1] at *; (try simp (disch := omega) only [pq_bm] at *); all_goals omega)
  obtain ⟨rfl, u4⟩ := w4
  rw [u4]
  refine pq_iload_n F dJ7_fill_fda19_7 rfl rfl ?_
  refine pq_istore F dJ7_fill_fda19_8 (by decide) ?_
  exact pq_fgm [true, true, true, true, true] (L10 (hN S b + 1) _ _ ⟨_, pq_uIs, fun i hi1 hi2 => absurd hi2 (Int.not_lt.mpr hi1)⟩ (by focus ((try clear hv); (try clear hf0); simp only [vp_in_iff, Int32.lt_iff_toInt_lt, Int32.le_iff_toInt_le, ← Int32.toInt_inj, Int32.toInt_add, Int32.toInt_sub, Int32.toInt_mul, Int32.toInt_neg, pq_NuO, pq_NuI, pq_NuJ, pq_NuR, pq_shr6, pq_shr7, pq_shr8, lqm1, lq0, lq1] at *; (try simp (disch := omega) only [pq_bm] at *); all_goals omega)) (by focus ((try clear hv); (try clear hf0); simp only [vp_in_iff, Int32.lt_iff_toInt_lt, Int32.le_iff_toInt_le, ← Int32.toInt_inj, Int32.toInt_add, Int32.toInt_sub, Int32.toInt_mul, Int32.toInt_neg, pq_NuO, pq_NuI, pq_NuJ, pq_NuR, pq_shr6, pq_shr7, pq_shr8, lqm1, lq0, lq1] at *; (try simp (disch := omega) only [pq_bm] at *); all_goals omega)) (by focus ((try clear hv); (try clear hf0); simp only [vp_in_iff, Int32.lt_iff_toInt_lt, Int32.le_iff_toInt_le, ← Int32.toInt_inj, Int32.toInt_add, Int32.toInt_sub, Int32.toInt_mul, Int32.toInt_neg, pq_NuO, pq_NuI, pq_NuJ, pq_NuR, pq_shr6, pq_shr7, pq_shr8, lqm1, lq0, lq1] at *; (try simp (disch := omega) only [pq_bm] at *); all_goals omega)))

set_option maxHeartbeats 4000000 in
set_option maxRecDepth 100000 in
theorem k_J7_fill166 (l : Launch) (D : va_G) (cy : Nat → ClassId) (S : HS) (b : Nat) (hb : pq_R S b 166) (vv : Int32) (hvv0 : 0 ≤ vv.toInt) (hvv1 : vv.toInt ≤ 401) : pq_C l D cy yJ7_fill_53178 cJ7_fill_53178 4 (none) 1 0 0 S [.ref b, .int vv] (fun v S2 => v = none ∧ pq_Fr [(166, 0)] S S2 ∧ (∀ i : Nat, i < 1024 → hI S2 b i = vv)) := by
  refine pq_start (by decide) (Nat.le_of_ble_eq_true rfl) ?_
  intro p e s m args below meth c A F hr hlk hnm hA
  have lqm1 : (-1 : Int32).toInt = -1 := rfl
  have lq0 : (0 : Int32).toInt = 0 := rfl
  have lq1 : (1 : Int32).toInt = 1 := rfl
  have L5 : ∀  (fu : Nat) (S1 : HS) (k : Int32) (n : Int32)  (hF : pq_Fr [(166, 0)] S S1) (hk0 : 0 ≤ k.toInt) (hn0 : n.toInt = 1024) (hf0 : ∀ i : Nat, (i : Int) < k.toInt → hI S1 b i = vv), (1024 - k.toInt).toNat < fu → pq_At p l e (pq_rm 1 0 0) s m args below meth c (pq_Z below args s D cy S 0 0 (fun v S2 => v = none ∧ pq_Fr [(166, 0)] S S2 ∧ (∀ i : Nat, i < 1024 → hI S2 b i = vv))) D cy A 4 0 0 5 S1 [some (.ref b), some (.int vv), some (.int k), some (.int n)] [] := by
    intro  fu
    induction fu with
    | zero => intro S1 k n hF hk0 hn0 hf0 hm; exact absurd hm (Nat.not_lt_zero _)
    | succ fu ih =>
      intro S1 k n hF hk0 hn0 hf0 hm
      have hbL := hF.R hb (by first | decide | omega)
      refine pq_iload_n F dJ7_fill_53178_5 rfl rfl ?_
      refine pq_iload_n F dJ7_fill_53178_6 rfl rfl ?_
      refine pq_icmp_ge (tgt := 20) F dJ7_fill_53178_7 (by decide) (fun c7 => ?_) (fun c7 => ?_)
      · skip
        exact pq_vret F hr hlk hA (Nat.le_refl _) (Nat.le_refl _) (⟨rfl, hF, fun i hi => hf0 i (by focus ((try clear hf0); simp only [vp_in_iff, Int32.lt_iff_toInt_lt, Int32.le_iff_toInt_le, ← Int32.toInt_inj, Int32.toInt_add, Int32.toInt_sub, Int32.toInt_mul, Int32.toInt_neg, pq_NuO, pq_NuI, pq_NuJ, pq_NuR, pq_shr6, pq_shr7, pq_shr8, lqm1, lq0, lq1] at *; (try simp (disch := omega) only [pq_bm] at *); all_goals omega))⟩) dJ7_fill_53178_20
      · skip
        refine pq_aload_n F dJ7_fill_53178_10 rfl rfl ?_
        refine pq_iload_n F dJ7_fill_53178_11 rfl rfl ?_
        refine pq_iload_n F dJ7_fill_53178_12 rfl rfl ?_
        refine pq_iast F hbL (by decide) (by decide) rfl (fun n1_13 n2_13 => (by focus ((try clear hf0); simp only [vp_in_iff, Int32.lt_iff_toInt_lt, Int32.le_iff_toInt_le, ← Int32.toInt_inj, Int32.toInt_add, Int32.toInt_sub, Int32.toInt_mul, Int32.toInt_neg, pq_NuO, pq_NuI, pq_NuJ, pq_NuR, pq_shr6, pq_shr7, pq_shr8, lqm1, lq0, lq1] at *; (try simp (disch := omega) only [pq_bm] at *); all_goals omega))) (⟨(by focus ((try clear hf0); simp only [vp_in_iff, Int32.lt_iff_toInt_lt, Int32.le_iff_toInt_le, ← Int32.toInt_inj, Int32.toInt_add, Int32.toInt_sub, Int32.toInt_mul, Int32.toInt_neg, pq_NuO, pq_NuI, pq_NuJ, pq_NuR, pq_shr6, pq_shr7, pq_shr8, lqm1, lq0, lq1] at *; (try simp (disch := omega) only [pq_bm] at *); all_goals omega)), (by focus ((try clear hf0); simp only [vp_in_iff, Int32.lt_iff_toInt_lt, Int32.le_iff_toInt_le, ← Int32.toInt_inj, Int32.toInt_add, Int32.toInt_sub, Int32.toInt_mul, Int32.toInt_neg, pq_NuO, pq_NuI, pq_NuJ, pq_NuR, pq_shr6, pq_shr7, pq_shr8, lqm1, lq0, lq1] at *; (try simp (disch := omega) only [pq_bm] at *); all_goals omega))⟩) dJ7_fill_53178_13 ?_
        refine pq_iinc (v := 1) F dJ7_fill_53178_14 rfl (by decide) (by decide) ?_
        refine pq_goto (tgt := 5) F dJ7_fill_53178_17 (by decide) ?_
        exact pq_fgm [true, true, true, true] (ih _ _ _ (hF.uI hbL (by first | decide | exact List.mem_cons_self)) (by focus ((try clear hf0); simp only [vp_in_iff, Int32.lt_iff_toInt_lt, Int32.le_iff_toInt_le, ← Int32.toInt_inj, Int32.toInt_add, Int32.toInt_sub, Int32.toInt_mul, Int32.toInt_neg, pq_NuO, pq_NuI, pq_NuJ, pq_NuR, pq_shr6, pq_shr7, pq_shr8, lqm1, lq0, lq1] at *; (try simp (disch := omega) only [pq_bm] at *); all_goals omega)) (by focus ((try clear hf0); simp only [vp_in_iff, Int32.lt_iff_toInt_lt, Int32.le_iff_toInt_le, ← Int32.toInt_inj, Int32.toInt_add, Int32.toInt_sub, Int32.toInt_mul, Int32.toInt_neg, pq_NuO, pq_NuI, pq_NuJ, pq_NuR, pq_shr6, pq_shr7, pq_shr8, lqm1, lq0, lq1] at *; (try simp (disch := omega) only [pq_bm] at *); all_goals omega)) (fun i hi => (by rw [pq_Ia]; have ck := pq_cl hk0; exact (if z9 : i = k.toNatClampNeg then (by rw [z9, pk_us]) else (by rw [pk_un z9]; exact hf0 i (by focus ((try clear hf0); simp only [vp_in_iff, Int32.lt_iff_toInt_lt, Int32.le_iff_toInt_le, ← Int32.toInt_inj, Int32.toInt_add, Int32.toInt_sub, Int32.toInt_mul, Int32.toInt_neg, pq_NuO, pq_NuI, pq_NuJ, pq_NuR, pq_shr6, pq_shr7, pq_shr8, lqm1, lq0, lq1] at *; (try simp (disch := omega) only [pq_bm] at *); all_goals omega)))))) (by focus ((try clear hf0); simp only [vp_in_iff, Int32.lt_iff_toInt_lt, Int32.le_iff_toInt_le, ← Int32.toInt_inj, Int32.toInt_add, Int32.toInt_sub, Int32.toInt_mul, Int32.toInt_neg, pq_NuO, pq_NuI, pq_NuJ, pq_NuR, pq_shr6, pq_shr7, pq_shr8, lqm1, lq0, lq1] at *; (try simp (disch := omega) only [pq_bm] at *); all_goals omega)))
  refine pq_iconst (v := 0) F dJ7_fill_53178_0 (by decide) ?_
  refine pq_istore_n F dJ7_fill_53178_1 rfl (by decide) ?_
  refine pq_aload_n F dJ7_fill_53178_2 rfl rfl ?_
  refine pq_alen F hb (by decide) rfl dJ7_fill_53178_3 (fun l3 u3 => ?_)
  have nq3 := nI_toInt (n := hN _ b) (Nat.lt_of_le_of_lt u3 (by decide))
  refine pq_istore_n F dJ7_fill_53178_4 rfl (by decide) ?_
  exact pq_fgm [true, true, true, true] (L5  100000 _ _ _  pq_Fr.rf (by focus ((try clear hf0); simp only [vp_in_iff, Int32.lt_iff_toInt_lt, Int32.le_iff_toInt_le, ← Int32.toInt_inj, Int32.toInt_add, Int32.toInt_sub, Int32.toInt_mul, Int32.toInt_neg, pq_NuO, pq_NuI, pq_NuJ, pq_NuR, pq_shr6, pq_shr7, pq_shr8, lqm1, lq0, lq1] at *; (try simp (disch := omega) only [pq_bm] at *); all_goals omega)) (by focus ((try clear hf0); simp only [vp_in_iff, Int32.lt_iff_toInt_lt, Int32.le_iff_toInt_le, ← Int32.toInt_inj, Int32.toInt_add, Int32.toInt_sub, Int32.toInt_mul, Int32.toInt_neg, pq_NuO, pq_NuI, pq_NuJ, pq_NuR, pq_shr6, pq_shr7, pq_shr8, lqm1, lq0, lq1] at *; (try simp (disch := omega) only [pq_bm] at *); all_goals omega)) (fun i hi => absurd hi (by focus ((try clear hf0); simp only [vp_in_iff, Int32.lt_iff_toInt_lt, Int32.le_iff_toInt_le, ← Int32.toInt_inj, Int32.toInt_add, Int32.toInt_sub, Int32.toInt_mul, Int32.toInt_neg, pq_NuO, pq_NuI, pq_NuJ, pq_NuR, pq_shr6, pq_shr7, pq_shr8, lqm1, lq0, lq1] at *; (try simp (disch := omega) only [pq_bm] at *); all_goals omega))) (by focus ((try clear hf0); simp only [vp_in_iff, Int32.lt_iff_toInt_lt, Int32.le_iff_toInt_le, ← Int32.toInt_inj, Int32.toInt_add, Int32.toInt_sub, Int32.toInt_mul, Int32.toInt_neg, pq_NuO, pq_NuI, pq_NuJ, pq_NuR, pq_shr6, pq_shr7, pq_shr8, lqm1, lq0, lq1] at *; (try simp (disch := omega) only [pq_bm] at *); all_goals omega)))

set_option maxHeartbeats 4000000 in
set_option maxRecDepth 100000 in
theorem k_X10_row167 (l : Launch) (D : va_G) (cy : Nat → ClassId) (S : HS) (nd : Int32) (hnd0 : 0 ≤ nd.toInt) (hnd1 : nd.toInt ≤ 51456) (rw : Nat) (hrw : pq_R S rw 167) (w : Nat) (hw : nd.toInt ≤ (hN S rw : Int) ∨ (nd.toInt ≤ (w : Int) ∧ 2 * (hN S rw : Int) ≤ (w : Int))) : pq_C l D cy yX10_rowFor cX10_rowFor 2 (some (.array .int)) 1 1 w S [.int nd, .ref rw] (fun v S2 => pq_Fr [] S S2 ∧ ∃ x : Nat, v = some (.ref x) ∧ pq_R S2 x 167 ∧ ((nd.toInt ≤ (hN S rw : Int) ∧ S2 = S ∧ x = rw) ∨ ((hN S rw : Int) < nd.toInt ∧ nd.toInt ≤ (hN S2 x : Int) ∧ 2 * hN S rw ≤ hN S2 x ∧ ((hN S2 x : Int) = nd.toInt ∨ hN S2 x = 2 * hN S rw) ∧ x ∉ S.1))) := by
  refine pq_start (by decide) (Nat.le_of_ble_eq_true rfl) ?_
  intro p e s m args below meth c A F hr hlk hnm hA
  have lqm1 : (-1 : Int32).toInt = -1 := rfl
  have lq0 : (0 : Int32).toInt = 0 := rfl
  have lq1 : (1 : Int32).toInt = 1 := rfl
  have lq2 : (2 : Int32).toInt = 2 := rfl
  refine pq_aload_n F dX10_rowFor_0 rfl rfl ?_
  refine pq_alen F hrw (by decide) rfl dX10_rowFor_1 (fun l1 u1 => ?_)
  have nq1 := nI_toInt (n := hN _ rw) (Nat.lt_of_le_of_lt u1 (by decide))
  refine pq_iload_n F dX10_rowFor_2 rfl rfl ?_
  refine pq_icmp_lt (tgt := 10) F dX10_rowFor_3 (by decide) (fun c3 => ?_) (fun c3 => ?_)
  · skip
    refine pq_iload_n F dX10_rowFor_10 rfl rfl ?_
    refine pq_iconst (v := 2) F dX10_rowFor_11 (by decide) ?_
    refine pq_aload_n F dX10_rowFor_12 rfl rfl ?_
    refine pq_alen F hrw (by decide) rfl dX10_rowFor_13 (fun l13 u13 => ?_)
    have nq13 := nI_toInt (n := hN _ rw) (Nat.lt_of_le_of_lt u13 (by decide))
    refine pq_imul F dX10_rowFor_14 ?_
    refine pq_mmax F mx_X10_164 ⟨Nat.le_of_ble_eq_true rfl, Nat.le_of_ble_eq_true rfl⟩ (Nat.zero_le _) (Nat.zero_le _) dX10_rowFor_15 (fun y15 yl15_0 yl15_1 yl15_2 => ?_)
    have cy := pq_cl (x := y15) (by focus (simp only [vp_in_iff, Int32.lt_iff_toInt_lt, Int32.le_iff_toInt_le, ← Int32.toInt_inj, Int32.toInt_add, Int32.toInt_sub, Int32.toInt_mul, Int32.toInt_neg, pq_NuO, pq_NuI, pq_NuJ, pq_NuR, pq_shr6, pq_shr7, pq_shr8, lqm1, lq0, lq1, lq2] at *; (try simp (disch := omega) only [pq_bm] at *); all_goals omega))
    refine pq_newI F (r := 167) (n := y15.toNatClampNeg) (by decide) (by decide) ac_int rfl (by decide) (by focus (simp only [vp_in_iff, Int32.lt_iff_toInt_lt, Int32.le_iff_toInt_le, ← Int32.toInt_inj, Int32.toInt_add, Int32.toInt_sub, Int32.toInt_mul, Int32.toInt_neg, pq_NuO, pq_NuI, pq_NuJ, pq_NuR, pq_shr6, pq_shr7, pq_shr8, lqm1, lq0, lq1, lq2] at *; (try simp (disch := omega) only [pq_bm] at *); all_goals omega)) rfl ⟨(by focus (simp only [vp_in_iff, Int32.lt_iff_toInt_lt, Int32.le_iff_toInt_le, ← Int32.toInt_inj, Int32.toInt_add, Int32.toInt_sub, Int32.toInt_mul, Int32.toInt_neg, pq_NuO, pq_NuI, pq_NuJ, pq_NuR, pq_shr6, pq_shr7, pq_shr8, lqm1, lq0, lq1, lq2] at *; (try simp (disch := omega) only [pq_bm] at *); all_goals omega)), (by focus (simp only [vp_in_iff, Int32.lt_iff_toInt_lt, Int32.le_iff_toInt_le, ← Int32.toInt_inj, Int32.toInt_add, Int32.toInt_sub, Int32.toInt_mul, Int32.toInt_neg, pq_NuO, pq_NuI, pq_NuJ, pq_NuR, pq_shr6, pq_shr7, pq_shr8, lqm1, lq0, lq1, lq2] at *; (try simp (disch := omega) only [pq_bm] at *); all_goals omega))⟩ (by focus (simp only [vp_in_iff, Int32.lt_iff_toInt_lt, Int32.le_iff_toInt_le, ← Int32.toInt_inj, Int32.toInt_add, Int32.toInt_sub, Int32.toInt_mul, Int32.toInt_neg, pq_NuO, pq_NuI, pq_NuJ, pq_NuR, pq_shr6, pq_shr7, pq_shr8, lqm1, lq0, lq1, lq2] at *; (try simp (disch := omega) only [pq_bm] at *); all_goals omega)) (Nat.le_refl _) (by show 0 + y15.toNatClampNeg ≤ w; focus (simp only [vp_in_iff, Int32.lt_iff_toInt_lt, Int32.le_iff_toInt_le, ← Int32.toInt_inj, Int32.toInt_add, Int32.toInt_sub, Int32.toInt_mul, Int32.toInt_neg, pq_NuO, pq_NuI, pq_NuJ, pq_NuR, pq_shr6, pq_shr7, pq_shr8, lqm1, lq0, lq1, lq2] at *; (try simp (disch := omega) only [pq_bm] at *); all_goals omega)) dX10_rowFor_18 (fun q18 nq18 h18 => ?_)
    have hrw_18 := pq_nR (r := 167) (n := y15.toNatClampNeg) (ds := (fun _ => Value.null)) nq18 hrw
    exact pq_aret F hr (by first | exact Or.inl ⟨_, rfl⟩ | exact Or.inr ⟨_, rfl⟩) hlk hA (Nat.le_refl _) (by show 0 + y15.toNatClampNeg ≤ w; focus (simp only [vp_in_iff, Int32.lt_iff_toInt_lt, Int32.le_iff_toInt_le, ← Int32.toInt_inj, Int32.toInt_add, Int32.toInt_sub, Int32.toInt_mul, Int32.toInt_neg, pq_NuO, pq_NuI, pq_NuJ, pq_NuR, pq_shr6, pq_shr7, pq_shr8, lqm1, lq0, lq1, lq2] at *; (try simp (disch := omega) only [pq_bm] at *); all_goals omega)) (⟨(pq_Fr.rf.nw nq18), q18, rfl, h18, Or.inr ⟨(by focus (simp only [vp_in_iff, Int32.lt_iff_toInt_lt, Int32.le_iff_toInt_le, ← Int32.toInt_inj, Int32.toInt_add, Int32.toInt_sub, Int32.toInt_mul, Int32.toInt_neg, pq_NuO, pq_NuI, pq_NuJ, pq_NuR, pq_shr6, pq_shr7, pq_shr8, lqm1, lq0, lq1, lq2] at *; (try simp (disch := omega) only [pq_bm] at *); all_goals omega)), (by rw [pq_nN]; focus (simp only [vp_in_iff, Int32.lt_iff_toInt_lt, Int32.le_iff_toInt_le, ← Int32.toInt_inj, Int32.toInt_add, Int32.toInt_sub, Int32.toInt_mul, Int32.toInt_neg, pq_NuO, pq_NuI, pq_NuJ, pq_NuR, pq_shr6, pq_shr7, pq_shr8, lqm1, lq0, lq1, lq2] at *; (try simp (disch := omega) only [pq_bm] at *); all_goals omega)), (by rw [pq_nN]; focus (simp only [vp_in_iff, Int32.lt_iff_toInt_lt, Int32.le_iff_toInt_le, ← Int32.toInt_inj, Int32.toInt_add, Int32.toInt_sub, Int32.toInt_mul, Int32.toInt_neg, pq_NuO, pq_NuI, pq_NuJ, pq_NuR, pq_shr6, pq_shr7, pq_shr8, lqm1, lq0, lq1, lq2] at *; (try simp (disch := omega) only [pq_bm] at *); all_goals omega)), (by rw [pq_nN]; focus (simp only [vp_in_iff, Int32.lt_iff_toInt_lt, Int32.le_iff_toInt_le, ← Int32.toInt_inj, Int32.toInt_add, Int32.toInt_sub, Int32.toInt_mul, Int32.toInt_neg, pq_NuO, pq_NuI, pq_NuJ, pq_NuR, pq_shr6, pq_shr7, pq_shr8, lqm1, lq0, lq1, lq2] at *; (try simp (disch := omega) only [pq_bm] at *); all_goals omega)), nq18⟩⟩) dX10_rowFor_20
  · skip
    refine pq_aload_n F dX10_rowFor_6 rfl rfl ?_
    refine pq_goto (tgt := 20) F dX10_rowFor_7 (by decide) ?_
    exact pq_aret F hr (by first | exact Or.inl ⟨_, rfl⟩ | exact Or.inr ⟨_, rfl⟩) hlk hA (Nat.zero_le _) (Nat.zero_le _) (⟨pq_Fr.rf, rw, rfl, hrw, Or.inl ⟨(by focus (simp only [vp_in_iff, Int32.lt_iff_toInt_lt, Int32.le_iff_toInt_le, ← Int32.toInt_inj, Int32.toInt_add, Int32.toInt_sub, Int32.toInt_mul, Int32.toInt_neg, pq_NuO, pq_NuI, pq_NuJ, pq_NuR, pq_shr6, pq_shr7, pq_shr8, lqm1, lq0, lq1, lq2] at *; (try simp (disch := omega) only [pq_bm] at *); all_goals omega)), rfl, rfl⟩⟩) dX10_rowFor_20

set_option maxHeartbeats 4000000 in
set_option maxRecDepth 100000 in
theorem k_X10_row152 (l : Launch) (D : va_G) (cy : Nat → ClassId) (S : HS) (nd : Int32) (hnd0 : 0 ≤ nd.toInt) (hnd1 : nd.toInt ≤ 25728) (rw : Nat) (hrw : pq_R S rw 152) (w : Nat) (hw : nd.toInt ≤ (hN S rw : Int) ∨ (nd.toInt ≤ (w : Int) ∧ 2 * (hN S rw : Int) ≤ (w : Int))) : pq_C l D cy yX10_rowFor cX10_rowFor 2 (some (.array .int)) 1 1 w S [.int nd, .ref rw] (fun v S2 => pq_Fr [] S S2 ∧ ∃ x : Nat, v = some (.ref x) ∧ pq_R S2 x 152 ∧ ((nd.toInt ≤ (hN S rw : Int) ∧ S2 = S ∧ x = rw) ∨ ((hN S rw : Int) < nd.toInt ∧ nd.toInt ≤ (hN S2 x : Int) ∧ 2 * hN S rw ≤ hN S2 x ∧ ((hN S2 x : Int) = nd.toInt ∨ hN S2 x = 2 * hN S rw) ∧ x ∉ S.1))) := by
  refine pq_start (by decide) (Nat.le_of_ble_eq_true rfl) ?_
  intro p e s m args below meth c A F hr hlk hnm hA
  have lqm1 : (-1 : Int32).toInt = -1 := rfl
  have lq0 : (0 : Int32).toInt = 0 := rfl
  have lq1 : (1 : Int32).toInt = 1 := rfl
  have lq2 : (2 : Int32).toInt = 2 := rfl
  refine pq_aload_n F dX10_rowFor_0 rfl rfl ?_
  refine pq_alen F hrw (by decide) rfl dX10_rowFor_1 (fun l1 u1 => ?_)
  have nq1 := nI_toInt (n := hN _ rw) (Nat.lt_of_le_of_lt u1 (by decide))
  refine pq_iload_n F dX10_rowFor_2 rfl rfl ?_
  refine pq_icmp_lt (tgt := 10) F dX10_rowFor_3 (by decide) (fun c3 => ?_) (fun c3 => ?_)
  · skip
    refine pq_iload_n F dX10_rowFor_10 rfl rfl ?_
    refine pq_iconst (v := 2) F dX10_rowFor_11 (by decide) ?_
    refine pq_aload_n F dX10_rowFor_12 rfl rfl ?_
    refine pq_alen F hrw (by decide) rfl dX10_rowFor_13 (fun l13 u13 => ?_)
    have nq13 := nI_toInt (n := hN _ rw) (Nat.lt_of_le_of_lt u13 (by decide))
    refine pq_imul F dX10_rowFor_14 ?_
    refine pq_mmax F mx_X10_164 ⟨Nat.le_of_ble_eq_true rfl, Nat.le_of_ble_eq_true rfl⟩ (Nat.zero_le _) (Nat.zero_le _) dX10_rowFor_15 (fun y15 yl15_0 yl15_1 yl15_2 => ?_)
    have cy := pq_cl (x := y15) (by focus (simp only [vp_in_iff, Int32.lt_iff_toInt_lt, Int32.le_iff_toInt_le, ← Int32.toInt_inj, Int32.toInt_add, Int32.toInt_sub, Int32.toInt_mul, Int32.toInt_neg, pq_NuO, pq_NuI, pq_NuJ, pq_NuR, pq_shr6, pq_shr7, pq_shr8, lqm1, lq0, lq1, lq2] at *; (try simp (disch := omega) only [pq_bm] at *); all_goals omega))
    refine pq_newI F (r := 152) (n := y15.toNatClampNeg) (by decide) (by decide) ac_int rfl (by decide) (by focus (simp only [vp_in_iff, Int32.lt_iff_toInt_lt, Int32.le_iff_toInt_le, ← Int32.toInt_inj, Int32.toInt_add, Int32.toInt_sub, Int32.toInt_mul, Int32.toInt_neg, pq_NuO, pq_NuI, pq_NuJ, pq_NuR, pq_shr6, pq_shr7, pq_shr8, lqm1, lq0, lq1, lq2] at *; (try simp (disch := omega) only [pq_bm] at *); all_goals omega)) rfl ⟨(by focus (simp only [vp_in_iff, Int32.lt_iff_toInt_lt, Int32.le_iff_toInt_le, ← Int32.toInt_inj, Int32.toInt_add, Int32.toInt_sub, Int32.toInt_mul, Int32.toInt_neg, pq_NuO, pq_NuI, pq_NuJ, pq_NuR, pq_shr6, pq_shr7, pq_shr8, lqm1, lq0, lq1, lq2] at *; (try simp (disch := omega) only [pq_bm] at *); all_goals omega)), (by focus (simp only [vp_in_iff, Int32.lt_iff_toInt_lt, Int32.le_iff_toInt_le, ← Int32.toInt_inj, Int32.toInt_add, Int32.toInt_sub, Int32.toInt_mul, Int32.toInt_neg, pq_NuO, pq_NuI, pq_NuJ, pq_NuR, pq_shr6, pq_shr7, pq_shr8, lqm1, lq0, lq1, lq2] at *; (try simp (disch := omega) only [pq_bm] at *); all_goals omega))⟩ (by focus (simp only [vp_in_iff, Int32.lt_iff_toInt_lt, Int32.le_iff_toInt_le, ← Int32.toInt_inj, Int32.toInt_add, Int32.toInt_sub, Int32.toInt_mul, Int32.toInt_neg, pq_NuO, pq_NuI, pq_NuJ, pq_NuR, pq_shr6, pq_shr7, pq_shr8, lqm1, lq0, lq1, lq2] at *; (try simp (disch := omega) only [pq_bm] at *); all_goals omega)) (Nat.le_refl _) (by show 0 + y15.toNatClampNeg ≤ w; focus (simp only [vp_in_iff, Int32.lt_iff_toInt_lt, Int32.le_iff_toInt_le, ← Int32.toInt_inj, Int32.toInt_add, Int32.toInt_sub, Int32.toInt_mul, Int32.toInt_neg, pq_NuO, pq_NuI, pq_NuJ, pq_NuR, pq_shr6, pq_shr7, pq_shr8, lqm1, lq0, lq1, lq2] at *; (try simp (disch := omega) only [pq_bm] at *); all_goals omega)) dX10_rowFor_18 (fun q18 nq18 h18 => ?_)
    have hrw_18 := pq_nR (r := 152) (n := y15.toNatClampNeg) (ds := (fun _ => Value.null)) nq18 hrw
    exact pq_aret F hr (by first | exact Or.inl ⟨_, rfl⟩ | exact Or.inr ⟨_, rfl⟩) hlk hA (Nat.le_refl _) (by show 0 + y15.toNatClampNeg ≤ w; focus (simp only [vp_in_iff, Int32.lt_iff_toInt_lt, Int32.le_iff_toInt_le, ← Int32.toInt_inj, Int32.toInt_add, Int32.toInt_sub, Int32.toInt_mul, Int32.toInt_neg, pq_NuO, pq_NuI, pq_NuJ, pq_NuR, pq_shr6, pq_shr7, pq_shr8, lqm1, lq0, lq1, lq2] at *; (try simp (disch := omega) only [pq_bm] at *); all_goals omega)) (⟨(pq_Fr.rf.nw nq18), q18, rfl, h18, Or.inr ⟨(by focus (simp only [vp_in_iff, Int32.lt_iff_toInt_lt, Int32.le_iff_toInt_le, ← Int32.toInt_inj, Int32.toInt_add, Int32.toInt_sub, Int32.toInt_mul, Int32.toInt_neg, pq_NuO, pq_NuI, pq_NuJ, pq_NuR, pq_shr6, pq_shr7, pq_shr8, lqm1, lq0, lq1, lq2] at *; (try simp (disch := omega) only [pq_bm] at *); all_goals omega)), (by rw [pq_nN]; focus (simp only [vp_in_iff, Int32.lt_iff_toInt_lt, Int32.le_iff_toInt_le, ← Int32.toInt_inj, Int32.toInt_add, Int32.toInt_sub, Int32.toInt_mul, Int32.toInt_neg, pq_NuO, pq_NuI, pq_NuJ, pq_NuR, pq_shr6, pq_shr7, pq_shr8, lqm1, lq0, lq1, lq2] at *; (try simp (disch := omega) only [pq_bm] at *); all_goals omega)), (by rw [pq_nN]; focus (simp only [vp_in_iff, Int32.lt_iff_toInt_lt, Int32.le_iff_toInt_le, ← Int32.toInt_inj, Int32.toInt_add, Int32.toInt_sub, Int32.toInt_mul, Int32.toInt_neg, pq_NuO, pq_NuI, pq_NuJ, pq_NuR, pq_shr6, pq_shr7, pq_shr8, lqm1, lq0, lq1, lq2] at *; (try simp (disch := omega) only [pq_bm] at *); all_goals omega)), (by rw [pq_nN]; focus (simp only [vp_in_iff, Int32.lt_iff_toInt_lt, Int32.le_iff_toInt_le, ← Int32.toInt_inj, Int32.toInt_add, Int32.toInt_sub, Int32.toInt_mul, Int32.toInt_neg, pq_NuO, pq_NuI, pq_NuJ, pq_NuR, pq_shr6, pq_shr7, pq_shr8, lqm1, lq0, lq1, lq2] at *; (try simp (disch := omega) only [pq_bm] at *); all_goals omega)), nq18⟩⟩) dX10_rowFor_20
  · skip
    refine pq_aload_n F dX10_rowFor_6 rfl rfl ?_
    refine pq_goto (tgt := 20) F dX10_rowFor_7 (by decide) ?_
    exact pq_aret F hr (by first | exact Or.inl ⟨_, rfl⟩ | exact Or.inr ⟨_, rfl⟩) hlk hA (Nat.zero_le _) (Nat.zero_le _) (⟨pq_Fr.rf, rw, rfl, hrw, Or.inl ⟨(by focus (simp only [vp_in_iff, Int32.lt_iff_toInt_lt, Int32.le_iff_toInt_le, ← Int32.toInt_inj, Int32.toInt_add, Int32.toInt_sub, Int32.toInt_mul, Int32.toInt_neg, pq_NuO, pq_NuI, pq_NuJ, pq_NuR, pq_shr6, pq_shr7, pq_shr8, lqm1, lq0, lq1, lq2] at *; (try simp (disch := omega) only [pq_bm] at *); all_goals omega)), rfl, rfl⟩⟩) dX10_rowFor_20

set_option maxHeartbeats 4000000 in
set_option maxRecDepth 100000 in
theorem k_X10_row155 (l : Launch) (D : va_G) (cy : Nat → ClassId) (S : HS) (nd : Int32) (hnd0 : 0 ≤ nd.toInt) (hnd1 : nd.toInt ≤ 25728) (rw : Nat) (hrw : pq_R S rw 155) (w : Nat) (hw : nd.toInt ≤ (hN S rw : Int) ∨ (nd.toInt ≤ (w : Int) ∧ 2 * (hN S rw : Int) ≤ (w : Int))) : pq_C l D cy yX10_rowFor cX10_rowFor 2 (some (.array .int)) 1 1 w S [.int nd, .ref rw] (fun v S2 => pq_Fr [] S S2 ∧ ∃ x : Nat, v = some (.ref x) ∧ pq_R S2 x 155 ∧ ((nd.toInt ≤ (hN S rw : Int) ∧ S2 = S ∧ x = rw) ∨ ((hN S rw : Int) < nd.toInt ∧ nd.toInt ≤ (hN S2 x : Int) ∧ 2 * hN S rw ≤ hN S2 x ∧ ((hN S2 x : Int) = nd.toInt ∨ hN S2 x = 2 * hN S rw) ∧ x ∉ S.1))) := by
  refine pq_start (by decide) (Nat.le_of_ble_eq_true rfl) ?_
  intro p e s m args below meth c A F hr hlk hnm hA
  have lqm1 : (-1 : Int32).toInt = -1 := rfl
  have lq0 : (0 : Int32).toInt = 0 := rfl
  have lq1 : (1 : Int32).toInt = 1 := rfl
  have lq2 : (2 : Int32).toInt = 2 := rfl
  refine pq_aload_n F dX10_rowFor_0 rfl rfl ?_
  refine pq_alen F hrw (by decide) rfl dX10_rowFor_1 (fun l1 u1 => ?_)
  have nq1 := nI_toInt (n := hN _ rw) (Nat.lt_of_le_of_lt u1 (by decide))
  refine pq_iload_n F dX10_rowFor_2 rfl rfl ?_
  refine pq_icmp_lt (tgt := 10) F dX10_rowFor_3 (by decide) (fun c3 => ?_) (fun c3 => ?_)
  · skip
    refine pq_iload_n F dX10_rowFor_10 rfl rfl ?_
    refine pq_iconst (v := 2) F dX10_rowFor_11 (by decide) ?_
    refine pq_aload_n F dX10_rowFor_12 rfl rfl ?_
    refine pq_alen F hrw (by decide) rfl dX10_rowFor_13 (fun l13 u13 => ?_)
    have nq13 := nI_toInt (n := hN _ rw) (Nat.lt_of_le_of_lt u13 (by decide))
    refine pq_imul F dX10_rowFor_14 ?_
    refine pq_mmax F mx_X10_164 ⟨Nat.le_of_ble_eq_true rfl, Nat.le_of_ble_eq_true rfl⟩ (Nat.zero_le _) (Nat.zero_le _) dX10_rowFor_15 (fun y15 yl15_0 yl15_1 yl15_2 => ?_)
    have cy := pq_cl (x := y15) (by focus (simp only [vp_in_iff, Int32.lt_iff_toInt_lt, Int32.le_iff_toInt_le, ← Int32.toInt_inj, Int32.toInt_add, Int32.toInt_sub, Int32.toInt_mul, Int32.toInt_neg, pq_NuO, pq_NuI, pq_NuJ, pq_NuR, pq_shr6, pq_shr7, pq_shr8, lqm1, lq0, lq1, lq2] at *; (try simp (disch := omega) only [pq_bm] at *); all_goals omega))
    refine pq_newI F (r := 155) (n := y15.toNatClampNeg) (by decide) (by decide) ac_int rfl (by decide) (by focus (simp only [vp_in_iff, Int32.lt_iff_toInt_lt, Int32.le_iff_toInt_le, ← Int32.toInt_inj, Int32.toInt_add, Int32.toInt_sub, Int32.toInt_mul, Int32.toInt_neg, pq_NuO, pq_NuI, pq_NuJ, pq_NuR, pq_shr6, pq_shr7, pq_shr8, lqm1, lq0, lq1, lq2] at *; (try simp (disch := omega) only [pq_bm] at *); all_goals omega)) rfl ⟨(by focus (simp only [vp_in_iff, Int32.lt_iff_toInt_lt, Int32.le_iff_toInt_le, ← Int32.toInt_inj, Int32.toInt_add, Int32.toInt_sub, Int32.toInt_mul, Int32.toInt_neg, pq_NuO, pq_NuI, pq_NuJ, pq_NuR, pq_shr6, pq_shr7, pq_shr8, lqm1, lq0, lq1, lq2] at *; (try simp (disch := omega) only [pq_bm] at *); all_goals omega)), (by focus (simp only [vp_in_iff, Int32.lt_iff_toInt_lt, Int32.le_iff_toInt_le, ← Int32.toInt_inj, Int32.toInt_add, Int32.toInt_sub, Int32.toInt_mul, Int32.toInt_neg, pq_NuO, pq_NuI, pq_NuJ, pq_NuR, pq_shr6, pq_shr7, pq_shr8, lqm1, lq0, lq1, lq2] at *; (try simp (disch := omega) only [pq_bm] at *); all_goals omega))⟩ (by focus (simp only [vp_in_iff, Int32.lt_iff_toInt_lt, Int32.le_iff_toInt_le, ← Int32.toInt_inj, Int32.toInt_add, Int32.toInt_sub, Int32.toInt_mul, Int32.toInt_neg, pq_NuO, pq_NuI, pq_NuJ, pq_NuR, pq_shr6, pq_shr7, pq_shr8, lqm1, lq0, lq1, lq2] at *; (try simp (disch := omega) only [pq_bm] at *); all_goals omega)) (Nat.le_refl _) (by show 0 + y15.toNatClampNeg ≤ w; focus (simp only [vp_in_iff, Int32.lt_iff_toInt_lt, Int32.le_iff_toInt_le, ← Int32.toInt_inj, Int32.toInt_add, Int32.toInt_sub, Int32.toInt_mul, Int32.toInt_neg, pq_NuO, pq_NuI, pq_NuJ, pq_NuR, pq_shr6, pq_shr7, pq_shr8, lqm1, lq0, lq1, lq2] at *; (try simp (disch := omega) only [pq_bm] at *); all_goals omega)) dX10_rowFor_18 (fun q18 nq18 h18 => ?_)
    have hrw_18 := pq_nR (r := 155) (n := y15.toNatClampNeg) (ds := (fun _ => Value.null)) nq18 hrw
    exact pq_aret F hr (by first | exact Or.inl ⟨_, rfl⟩ | exact Or.inr ⟨_, rfl⟩) hlk hA (Nat.le_refl _) (by show 0 + y15.toNatClampNeg ≤ w; focus (simp only [vp_in_iff, Int32.lt_iff_toInt_lt, Int32.le_iff_toInt_le, ← Int32.toInt_inj, Int32.toInt_add, Int32.toInt_sub, Int32.toInt_mul, Int32.toInt_neg, pq_NuO, pq_NuI, pq_NuJ, pq_NuR, pq_shr6, pq_shr7, pq_shr8, lqm1, lq0, lq1, lq2] at *; (try simp (disch := omega) only [pq_bm] at *); all_goals omega)) (⟨(pq_Fr.rf.nw nq18), q18, rfl, h18, Or.inr ⟨(by focus (simp only [vp_in_iff, Int32.lt_iff_toInt_lt, Int32.le_iff_toInt_le, ← Int32.toInt_inj, Int32.toInt_add, Int32.toInt_sub, Int32.toInt_mul, Int32.toInt_neg, pq_NuO, pq_NuI, pq_NuJ, pq_NuR, pq_shr6, pq_shr7, pq_shr8, lqm1, lq0, lq1, lq2] at *; (try simp (disch := omega) only [pq_bm] at *); all_goals omega)), (by rw [pq_nN]; focus (simp only [vp_in_iff, Int32.lt_iff_toInt_lt, Int32.le_iff_toInt_le, ← Int32.toInt_inj, Int32.toInt_add, Int32.toInt_sub, Int32.toInt_mul, Int32.toInt_neg, pq_NuO, pq_NuI, pq_NuJ, pq_NuR, pq_shr6, pq_shr7, pq_shr8, lqm1, lq0, lq1, lq2] at *; (try simp (disch := omega) only [pq_bm] at *); all_goals omega)), (by rw [pq_nN]; focus (simp only [vp_in_iff, Int32.lt_iff_toInt_lt, Int32.le_iff_toInt_le, ← Int32.toInt_inj, Int32.toInt_add, Int32.toInt_sub, Int32.toInt_mul, Int32.toInt_neg, pq_NuO, pq_NuI, pq_NuJ, pq_NuR, pq_shr6, pq_shr7, pq_shr8, lqm1, lq0, lq1, lq2] at *; (try simp (disch := omega) only [pq_bm] at *); all_goals omega)), (by rw [pq_nN]; focus (simp only [vp_in_iff, Int32.lt_iff_toInt_lt, Int32.le_iff_toInt_le, ← Int32.toInt_inj, Int32.toInt_add, Int32.toInt_sub, Int32.toInt_mul, Int32.toInt_neg, pq_NuO, pq_NuI, pq_NuJ, pq_NuR, pq_shr6, pq_shr7, pq_shr8, lqm1, lq0, lq1, lq2] at *; (try simp (disch := omega) only [pq_bm] at *); all_goals omega)), nq18⟩⟩) dX10_rowFor_20
  · skip
    refine pq_aload_n F dX10_rowFor_6 rfl rfl ?_
    refine pq_goto (tgt := 20) F dX10_rowFor_7 (by decide) ?_
    exact pq_aret F hr (by first | exact Or.inl ⟨_, rfl⟩ | exact Or.inr ⟨_, rfl⟩) hlk hA (Nat.zero_le _) (Nat.zero_le _) (⟨pq_Fr.rf, rw, rfl, hrw, Or.inl ⟨(by focus (simp only [vp_in_iff, Int32.lt_iff_toInt_lt, Int32.le_iff_toInt_le, ← Int32.toInt_inj, Int32.toInt_add, Int32.toInt_sub, Int32.toInt_mul, Int32.toInt_neg, pq_NuO, pq_NuI, pq_NuJ, pq_NuR, pq_shr6, pq_shr7, pq_shr8, lqm1, lq0, lq1, lq2] at *; (try simp (disch := omega) only [pq_bm] at *); all_goals omega)), rfl, rfl⟩⟩) dX10_rowFor_20

set_option maxHeartbeats 4000000 in
set_option maxRecDepth 100000 in
theorem k_X10_row164 (l : Launch) (D : va_G) (cy : Nat → ClassId) (S : HS) (nd : Int32) (hnd0 : 0 ≤ nd.toInt) (hnd1 : nd.toInt ≤ 40402) (rw : Nat) (hrw : pq_R S rw 164) (w : Nat) (hw : nd.toInt ≤ (hN S rw : Int) ∨ (nd.toInt ≤ (w : Int) ∧ 2 * (hN S rw : Int) ≤ (w : Int))) : pq_C l D cy yX10_rowFor cX10_rowFor 2 (some (.array .int)) 1 1 w S [.int nd, .ref rw] (fun v S2 => pq_Fr [] S S2 ∧ ∃ x : Nat, v = some (.ref x) ∧ pq_R S2 x 164 ∧ ((nd.toInt ≤ (hN S rw : Int) ∧ S2 = S ∧ x = rw) ∨ ((hN S rw : Int) < nd.toInt ∧ nd.toInt ≤ (hN S2 x : Int) ∧ 2 * hN S rw ≤ hN S2 x ∧ ((hN S2 x : Int) = nd.toInt ∨ hN S2 x = 2 * hN S rw) ∧ x ∉ S.1))) := by
  refine pq_start (by decide) (Nat.le_of_ble_eq_true rfl) ?_
  intro p e s m args below meth c A F hr hlk hnm hA
  have lqm1 : (-1 : Int32).toInt = -1 := rfl
  have lq0 : (0 : Int32).toInt = 0 := rfl
  have lq1 : (1 : Int32).toInt = 1 := rfl
  have lq2 : (2 : Int32).toInt = 2 := rfl
  refine pq_aload_n F dX10_rowFor_0 rfl rfl ?_
  refine pq_alen F hrw (by decide) rfl dX10_rowFor_1 (fun l1 u1 => ?_)
  have nq1 := nI_toInt (n := hN _ rw) (Nat.lt_of_le_of_lt u1 (by decide))
  refine pq_iload_n F dX10_rowFor_2 rfl rfl ?_
  refine pq_icmp_lt (tgt := 10) F dX10_rowFor_3 (by decide) (fun c3 => ?_) (fun c3 => ?_)
  · skip
    refine pq_iload_n F dX10_rowFor_10 rfl rfl ?_
    refine pq_iconst (v := 2) F dX10_rowFor_11 (by decide) ?_
    refine pq_aload_n F dX10_rowFor_12 rfl rfl ?_
    refine pq_alen F hrw (by decide) rfl dX10_rowFor_13 (fun l13 u13 => ?_)
    have nq13 := nI_toInt (n := hN _ rw) (Nat.lt_of_le_of_lt u13 (by decide))
    refine pq_imul F dX10_rowFor_14 ?_
    refine pq_mmax F mx_X10_164 ⟨Nat.le_of_ble_eq_true rfl, Nat.le_of_ble_eq_true rfl⟩ (Nat.zero_le _) (Nat.zero_le _) dX10_rowFor_15 (fun y15 yl15_0 yl15_1 yl15_2 => ?_)
    have cy := pq_cl (x := y15) (by focus (simp only [vp_in_iff, Int32.lt_iff_toInt_lt, Int32.le_iff_toInt_le, ← Int32.toInt_inj, Int32.toInt_add, Int32.toInt_sub, Int32.toInt_mul, Int32.toInt_neg, pq_NuO, pq_NuI, pq_NuJ, pq_NuR, pq_shr6, pq_shr7, pq_shr8, lqm1, lq0, lq1, lq2] at *; (try simp (disch := omega) only [pq_bm] at *); all_goals omega))
    refine pq_newI F (r := 164) (n := y15.toNatClampNeg) (by decide) (by decide) ac_int rfl (by decide) (by focus (simp only [vp_in_iff, Int32.lt_iff_toInt_lt, Int32.le_iff_toInt_le, ← Int32.toInt_inj, Int32.toInt_add, Int32.toInt_sub, Int32.toInt_mul, Int32.toInt_neg, pq_NuO, pq_NuI, pq_NuJ, pq_NuR, pq_shr6, pq_shr7, pq_shr8, lqm1, lq0, lq1, lq2] at *; (try simp (disch := omega) only [pq_bm] at *); all_goals omega)) rfl ⟨(by focus (simp only [vp_in_iff, Int32.lt_iff_toInt_lt, Int32.le_iff_toInt_le, ← Int32.toInt_inj, Int32.toInt_add, Int32.toInt_sub, Int32.toInt_mul, Int32.toInt_neg, pq_NuO, pq_NuI, pq_NuJ, pq_NuR, pq_shr6, pq_shr7, pq_shr8, lqm1, lq0, lq1, lq2] at *; (try simp (disch := omega) only [pq_bm] at *); all_goals omega)), (by focus (simp only [vp_in_iff, Int32.lt_iff_toInt_lt, Int32.le_iff_toInt_le, ← Int32.toInt_inj, Int32.toInt_add, Int32.toInt_sub, Int32.toInt_mul, Int32.toInt_neg, pq_NuO, pq_NuI, pq_NuJ, pq_NuR, pq_shr6, pq_shr7, pq_shr8, lqm1, lq0, lq1, lq2] at *; (try simp (disch := omega) only [pq_bm] at *); all_goals omega))⟩ (by focus (simp only [vp_in_iff, Int32.lt_iff_toInt_lt, Int32.le_iff_toInt_le, ← Int32.toInt_inj, Int32.toInt_add, Int32.toInt_sub, Int32.toInt_mul, Int32.toInt_neg, pq_NuO, pq_NuI, pq_NuJ, pq_NuR, pq_shr6, pq_shr7, pq_shr8, lqm1, lq0, lq1, lq2] at *; (try simp (disch := omega) only [pq_bm] at *); all_goals omega)) (Nat.le_refl _) (by show 0 + y15.toNatClampNeg ≤ w; focus (simp only [vp_in_iff, Int32.lt_iff_toInt_lt, Int32.le_iff_toInt_le, ← Int32.toInt_inj, Int32.toInt_add, Int32.toInt_sub, Int32.toInt_mul, Int32.toInt_neg, pq_NuO, pq_NuI, pq_NuJ, pq_NuR, pq_shr6, pq_shr7, pq_shr8, lqm1, lq0, lq1, lq2] at *; (try simp (disch := omega) only [pq_bm] at *); all_goals omega)) dX10_rowFor_18 (fun q18 nq18 h18 => ?_)
    have hrw_18 := pq_nR (r := 164) (n := y15.toNatClampNeg) (ds := (fun _ => Value.null)) nq18 hrw
    exact pq_aret F hr (by first | exact Or.inl ⟨_, rfl⟩ | exact Or.inr ⟨_, rfl⟩) hlk hA (Nat.le_refl _) (by show 0 + y15.toNatClampNeg ≤ w; focus (simp only [vp_in_iff, Int32.lt_iff_toInt_lt, Int32.le_iff_toInt_le, ← Int32.toInt_inj, Int32.toInt_add, Int32.toInt_sub, Int32.toInt_mul, Int32.toInt_neg, pq_NuO, pq_NuI, pq_NuJ, pq_NuR, pq_shr6, pq_shr7, pq_shr8, lqm1, lq0, lq1, lq2] at *; (try simp (disch := omega) only [pq_bm] at *); all_goals omega)) (⟨(pq_Fr.rf.nw nq18), q18, rfl, h18, Or.inr ⟨(by focus (simp only [vp_in_iff, Int32.lt_iff_toInt_lt, Int32.le_iff_toInt_le, ← Int32.toInt_inj, Int32.toInt_add, Int32.toInt_sub, Int32.toInt_mul, Int32.toInt_neg, pq_NuO, pq_NuI, pq_NuJ, pq_NuR, pq_shr6, pq_shr7, pq_shr8, lqm1, lq0, lq1, lq2] at *; (try simp (disch := omega) only [pq_bm] at *); all_goals omega)), (by rw [pq_nN]; focus (simp only [vp_in_iff, Int32.lt_iff_toInt_lt, Int32.le_iff_toInt_le, ← Int32.toInt_inj, Int32.toInt_add, Int32.toInt_sub, Int32.toInt_mul, Int32.toInt_neg, pq_NuO, pq_NuI, pq_NuJ, pq_NuR, pq_shr6, pq_shr7, pq_shr8, lqm1, lq0, lq1, lq2] at *; (try simp (disch := omega) only [pq_bm] at *); all_goals omega)), (by rw [pq_nN]; focus (simp only [vp_in_iff, Int32.lt_iff_toInt_lt, Int32.le_iff_toInt_le, ← Int32.toInt_inj, Int32.toInt_add, Int32.toInt_sub, Int32.toInt_mul, Int32.toInt_neg, pq_NuO, pq_NuI, pq_NuJ, pq_NuR, pq_shr6, pq_shr7, pq_shr8, lqm1, lq0, lq1, lq2] at *; (try simp (disch := omega) only [pq_bm] at *); all_goals omega)), (by rw [pq_nN]; focus (simp only [vp_in_iff, Int32.lt_iff_toInt_lt, Int32.le_iff_toInt_le, ← Int32.toInt_inj, Int32.toInt_add, Int32.toInt_sub, Int32.toInt_mul, Int32.toInt_neg, pq_NuO, pq_NuI, pq_NuJ, pq_NuR, pq_shr6, pq_shr7, pq_shr8, lqm1, lq0, lq1, lq2] at *; (try simp (disch := omega) only [pq_bm] at *); all_goals omega)), nq18⟩⟩) dX10_rowFor_20
  · skip
    refine pq_aload_n F dX10_rowFor_6 rfl rfl ?_
    refine pq_goto (tgt := 20) F dX10_rowFor_7 (by decide) ?_
    exact pq_aret F hr (by first | exact Or.inl ⟨_, rfl⟩ | exact Or.inr ⟨_, rfl⟩) hlk hA (Nat.zero_le _) (Nat.zero_le _) (⟨pq_Fr.rf, rw, rfl, hrw, Or.inl ⟨(by focus (simp only [vp_in_iff, Int32.lt_iff_toInt_lt, Int32.le_iff_toInt_le, ← Int32.toInt_inj, Int32.toInt_add, Int32.toInt_sub, Int32.toInt_mul, Int32.toInt_neg, pq_NuO, pq_NuI, pq_NuJ, pq_NuR, pq_shr6, pq_shr7, pq_shr8, lqm1, lq0, lq1, lq2] at *; (try simp (disch := omega) only [pq_bm] at *); all_goals omega)), rfl, rfl⟩⟩) dX10_rowFor_20

set_option maxHeartbeats 4000000 in
set_option maxRecDepth 100000 in
theorem k_X10_row165 (l : Launch) (D : va_G) (cy : Nat → ClassId) (S : HS) (nd : Int32) (hnd0 : 0 ≤ nd.toInt) (hnd1 : nd.toInt ≤ 40402) (rw : Nat) (hrw : pq_R S rw 165) (w : Nat) (hw : nd.toInt ≤ (hN S rw : Int) ∨ (nd.toInt ≤ (w : Int) ∧ 2 * (hN S rw : Int) ≤ (w : Int))) : pq_C l D cy yX10_rowFor cX10_rowFor 2 (some (.array .int)) 1 1 w S [.int nd, .ref rw] (fun v S2 => pq_Fr [] S S2 ∧ ∃ x : Nat, v = some (.ref x) ∧ pq_R S2 x 165 ∧ ((nd.toInt ≤ (hN S rw : Int) ∧ S2 = S ∧ x = rw) ∨ ((hN S rw : Int) < nd.toInt ∧ nd.toInt ≤ (hN S2 x : Int) ∧ 2 * hN S rw ≤ hN S2 x ∧ ((hN S2 x : Int) = nd.toInt ∨ hN S2 x = 2 * hN S rw) ∧ x ∉ S.1))) := by
  refine pq_start (by decide) (Nat.le_of_ble_eq_true rfl) ?_
  intro p e s m args below meth c A F hr hlk hnm hA
  have lqm1 : (-1 : Int32).toInt = -1 := rfl
  have lq0 : (0 : Int32).toInt = 0 := rfl
  have lq1 : (1 : Int32).toInt = 1 := rfl
  have lq2 : (2 : Int32).toInt = 2 := rfl
  refine pq_aload_n F dX10_rowFor_0 rfl rfl ?_
  refine pq_alen F hrw (by decide) rfl dX10_rowFor_1 (fun l1 u1 => ?_)
  have nq1 := nI_toInt (n := hN _ rw) (Nat.lt_of_le_of_lt u1 (by decide))
  refine pq_iload_n F dX10_rowFor_2 rfl rfl ?_
  refine pq_icmp_lt (tgt := 10) F dX10_rowFor_3 (by decide) (fun c3 => ?_) (fun c3 => ?_)
  · skip
    refine pq_iload_n F dX10_rowFor_10 rfl rfl ?_
    refine pq_iconst (v := 2) F dX10_rowFor_11 (by decide) ?_
    refine pq_aload_n F dX10_rowFor_12 rfl rfl ?_
    refine pq_alen F hrw (by decide) rfl dX10_rowFor_13 (fun l13 u13 => ?_)
    have nq13 := nI_toInt (n := hN _ rw) (Nat.lt_of_le_of_lt u13 (by decide))
    refine pq_imul F dX10_rowFor_14 ?_
    refine pq_mmax F mx_X10_164 ⟨Nat.le_of_ble_eq_true rfl, Nat.le_of_ble_eq_true rfl⟩ (Nat.zero_le _) (Nat.zero_le _) dX10_rowFor_15 (fun y15 yl15_0 yl15_1 yl15_2 => ?_)
    have cy := pq_cl (x := y15) (by focus (simp only [vp_in_iff, Int32.lt_iff_toInt_lt, Int32.le_iff_toInt_le, ← Int32.toInt_inj, Int32.toInt_add, Int32.toInt_sub, Int32.toInt_mul, Int32.toInt_neg, pq_NuO, pq_NuI, pq_NuJ, pq_NuR, pq_shr6, pq_shr7, pq_shr8, lqm1, lq0, lq1, lq2] at *; (try simp (disch := omega) only [pq_bm] at *); all_goals omega))
    refine pq_newI F (r := 165) (n := y15.toNatClampNeg) (by decide) (by decide) ac_int rfl (by decide) (by focus (simp only [vp_in_iff, Int32.lt_iff_toInt_lt, Int32.le_iff_toInt_le, ← Int32.toInt_inj, Int32.toInt_add, Int32.toInt_sub, Int32.toInt_mul, Int32.toInt_neg, pq_NuO, pq_NuI, pq_NuJ, pq_NuR, pq_shr6, pq_shr7, pq_shr8, lqm1, lq0, lq1, lq2] at *; (try simp (disch := omega) only [pq_bm] at *); all_goals omega)) rfl ⟨(by focus (simp only [vp_in_iff, Int32.lt_iff_toInt_lt, Int32.le_iff_toInt_le, ← Int32.toInt_inj, Int32.toInt_add, Int32.toInt_sub, Int32.toInt_mul, Int32.toInt_neg, pq_NuO, pq_NuI, pq_NuJ, pq_NuR, pq_shr6, pq_shr7, pq_shr8, lqm1, lq0, lq1, lq2] at *; (try simp (disch := omega) only [pq_bm] at *); all_goals omega)), (by focus (simp only [vp_in_iff, Int32.lt_iff_toInt_lt, Int32.le_iff_toInt_le, ← Int32.toInt_inj, Int32.toInt_add, Int32.toInt_sub, Int32.toInt_mul, Int32.toInt_neg, pq_NuO, pq_NuI, pq_NuJ, pq_NuR, pq_shr6, pq_shr7, pq_shr8, lqm1, lq0, lq1, lq2] at *; (try simp (disch := omega) only [pq_bm] at *); all_goals omega))⟩ (by focus (simp only [vp_in_iff, Int32.lt_iff_toInt_lt, Int32.le_iff_toInt_le, ← Int32.toInt_inj, Int32.toInt_add, Int32.toInt_sub, Int32.toInt_mul, Int32.toInt_neg, pq_NuO, pq_NuI, pq_NuJ, pq_NuR, pq_shr6, pq_shr7, pq_shr8, lqm1, lq0, lq1, lq2] at *; (try simp (disch := omega) only [pq_bm] at *); all_goals omega)) (Nat.le_refl _) (by show 0 + y15.toNatClampNeg ≤ w; focus (simp only [vp_in_iff, Int32.lt_iff_toInt_lt, Int32.le_iff_toInt_le, ← Int32.toInt_inj, Int32.toInt_add, Int32.toInt_sub, Int32.toInt_mul, Int32.toInt_neg, pq_NuO, pq_NuI, pq_NuJ, pq_NuR, pq_shr6, pq_shr7, pq_shr8, lqm1, lq0, lq1, lq2] at *; (try simp (disch := omega) only [pq_bm] at *); all_goals omega)) dX10_rowFor_18 (fun q18 nq18 h18 => ?_)
    have hrw_18 := pq_nR (r := 165) (n := y15.toNatClampNeg) (ds := (fun _ => Value.null)) nq18 hrw
    exact pq_aret F hr (by first | exact Or.inl ⟨_, rfl⟩ | exact Or.inr ⟨_, rfl⟩) hlk hA (Nat.le_refl _) (by show 0 + y15.toNatClampNeg ≤ w; focus (simp only [vp_in_iff, Int32.lt_iff_toInt_lt, Int32.le_iff_toInt_le, ← Int32.toInt_inj, Int32.toInt_add, Int32.toInt_sub, Int32.toInt_mul, Int32.toInt_neg, pq_NuO, pq_NuI, pq_NuJ, pq_NuR, pq_shr6, pq_shr7, pq_shr8, lqm1, lq0, lq1, lq2] at *; (try simp (disch := omega) only [pq_bm] at *); all_goals omega)) (⟨(pq_Fr.rf.nw nq18), q18, rfl, h18, Or.inr ⟨(by focus (simp only [vp_in_iff, Int32.lt_iff_toInt_lt, Int32.le_iff_toInt_le, ← Int32.toInt_inj, Int32.toInt_add, Int32.toInt_sub, Int32.toInt_mul, Int32.toInt_neg, pq_NuO, pq_NuI, pq_NuJ, pq_NuR, pq_shr6, pq_shr7, pq_shr8, lqm1, lq0, lq1, lq2] at *; (try simp (disch := omega) only [pq_bm] at *); all_goals omega)), (by rw [pq_nN]; focus (simp only [vp_in_iff, Int32.lt_iff_toInt_lt, Int32.le_iff_toInt_le, ← Int32.toInt_inj, Int32.toInt_add, Int32.toInt_sub, Int32.toInt_mul, Int32.toInt_neg, pq_NuO, pq_NuI, pq_NuJ, pq_NuR, pq_shr6, pq_shr7, pq_shr8, lqm1, lq0, lq1, lq2] at *; (try simp (disch := omega) only [pq_bm] at *); all_goals omega)), (by rw [pq_nN]; focus (simp only [vp_in_iff, Int32.lt_iff_toInt_lt, Int32.le_iff_toInt_le, ← Int32.toInt_inj, Int32.toInt_add, Int32.toInt_sub, Int32.toInt_mul, Int32.toInt_neg, pq_NuO, pq_NuI, pq_NuJ, pq_NuR, pq_shr6, pq_shr7, pq_shr8, lqm1, lq0, lq1, lq2] at *; (try simp (disch := omega) only [pq_bm] at *); all_goals omega)), (by rw [pq_nN]; focus (simp only [vp_in_iff, Int32.lt_iff_toInt_lt, Int32.le_iff_toInt_le, ← Int32.toInt_inj, Int32.toInt_add, Int32.toInt_sub, Int32.toInt_mul, Int32.toInt_neg, pq_NuO, pq_NuI, pq_NuJ, pq_NuR, pq_shr6, pq_shr7, pq_shr8, lqm1, lq0, lq1, lq2] at *; (try simp (disch := omega) only [pq_bm] at *); all_goals omega)), nq18⟩⟩) dX10_rowFor_20
  · skip
    refine pq_aload_n F dX10_rowFor_6 rfl rfl ?_
    refine pq_goto (tgt := 20) F dX10_rowFor_7 (by decide) ?_
    exact pq_aret F hr (by first | exact Or.inl ⟨_, rfl⟩ | exact Or.inr ⟨_, rfl⟩) hlk hA (Nat.zero_le _) (Nat.zero_le _) (⟨pq_Fr.rf, rw, rfl, hrw, Or.inl ⟨(by focus (simp only [vp_in_iff, Int32.lt_iff_toInt_lt, Int32.le_iff_toInt_le, ← Int32.toInt_inj, Int32.toInt_add, Int32.toInt_sub, Int32.toInt_mul, Int32.toInt_neg, pq_NuO, pq_NuI, pq_NuJ, pq_NuR, pq_shr6, pq_shr7, pq_shr8, lqm1, lq0, lq1, lq2] at *; (try simp (disch := omega) only [pq_bm] at *); all_goals omega)), rfl, rfl⟩⟩) dX10_rowFor_20

