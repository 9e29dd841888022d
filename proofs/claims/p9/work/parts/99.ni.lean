/-- what a state's ways become behind one more byte -/
def tk_st1 (st sz : Nat → Int32) (n : Nat) (c : Nat → Int64) (s q : Nat) : Int64 := tk_su (fun k => (sz k).toInt64 * c (st (n * s + k)).toInt.toNat) q
theorem tk_st1S {st sz : Nat → Int32} {n s q : Nat} {c : Nat → Int64} : tk_st1 st sz n c s (q + 1) = tk_st1 st sz n c s q + (sz q).toInt64 * c (st (n * s + q)).toInt.toNat := rfl
/-- so far: all states before k, and of k the kinds before q -/
def tk_Lt (nw w1 : Nat → Int64) (st sz : Nat → Int32) (n sn k q : Nat) : Prop := ∀ c : Nat → Int64, tk_su (fun t => nw t * c t) sn = tk_su (fun s => w1 s * tk_st1 st sz n c s n) k + w1 k * tk_st1 st sz n c k q
def tk_Lu (nw w1 : Nat → Int64) (st sz : Nat → Int32) (n sn k : Nat) : Prop := ∀ c : Nat → Int64, tk_su (fun t => nw t * c t) sn = tk_su (fun s => w1 s * tk_st1 st sz n c s n) k
section LT
variable {nw w1 : Nat → Int64} {st sz : Nat → Int32} {n sn k q : Nat}
theorem tk_Lu.beg (h : ∀ i, i < sn → nw i = 0) : tk_Lu nw w1 st sz n sn 0 := fun c => by
  rw [tk_su0]
  exact tk_su.z sn (fun i hi => by rw [h i hi, Int64.zero_mul])
theorem tk_Lu.go (h : tk_Lu nw w1 st sz n sn k) : tk_Lt nw w1 st sz n sn k 0 := fun c => by
  rw [h c, show tk_st1 st sz n c k 0 = 0 from rfl, Int64.mul_zero, Int64.add_zero]
theorem tk_Lt.row (h : tk_Lt nw w1 st sz n sn k n) : tk_Lu nw w1 st sz n sn (k + 1) := fun c => by
  rw [h c, tk_suS]
theorem tk_Lt.z (h : tk_Lt nw w1 st sz n sn k q) (h0 : w1 k = 0) : tk_Lu nw w1 st sz n sn (k + 1) := fun c => by
  rw [h c, tk_suS, h0, Int64.zero_mul, Int64.zero_mul]
theorem tk_Lt.up (h : tk_Lt nw w1 st sz n sn k q) {j : Nat} {y : Int64} (hj : j < sn) (ej : (st (n * k + q)).toInt.toNat = j) (hy : y = nw j + w1 k * (sz q).toInt64) : tk_Lt (vp_updL nw j y) w1 st sz n sn k (q + 1) := fun c => by
  rw [tk_su.up hj hy, h c, tk_st1S, ej, Int64.mul_add, Int64.mul_assoc, Int64.add_assoc]
end LT
/-- the counter's two rows are two -/
def tk_Ct (S : HS) (a w1 w2 : Nat) : Prop := hO S a 0 = .ref w1 ∧ pq_R S w1 189 ∧ hO S a 1 = .ref w2 ∧ pq_R S w2 189 ∧ w1 ≠ w2
theorem tk_Ct.fr {S S1 : HS} {a w1 w2 : Nat} {M : List (Nat × Nat)} (h : tk_Ct S a w1 w2) (ha : pq_R S a 4) (hF : pq_Fr M S S1) (hM : ∀ q ∈ [(4, 0), (4, 1)], q ∉ M) : tk_Ct S1 a w1 w2 := ⟨hF.O ha (by decide) (hM _ (by decide)) h.1, hF.R h.2.1 (by decide), hF.O ha (by decide) (hM _ (by decide)) h.2.2.1, hF.R h.2.2.2.1 (by decide), h.2.2.2.2⟩
/-- how many texts of length n are still to come -/
def tk_Wy (w : Nat → Int64) (ko st ac : Nat → Int32) (n sn m : Nat) (x : Int64) : Prop := tk_su (fun t => w t * tk_ct m (tk_af ko st ac n t)) sn = x
theorem tk_Wy.beg {ko st ac : Nat → Int32} {n sn s0 m : Nat} {he : Int32} {L : List Nat → Prop} {w : Nat → Int64} (h : tk_Sa ko st ac n sn s0 he L) (h1 : w s0 = 1) (h0 : ∀ i, i < sn → i ≠ s0 → w i = 0) (hm : 1 ≤ m) : tk_Wy w ko st ac n sn m (tk_ct m L) := by
  obtain ⟨m, rfl⟩ : ∃ q, m = q + 1 := ⟨m - 1, by omega⟩
  rw [h.ct]
  unfold tk_Wy
  rw [tk_su.one (j := s0) h.2.2.1 (fun i hi hne => by rw [h0 i hi hne, Int64.zero_mul]), h1, Int64.one_mul]
theorem tk_Wy.go {ko st ac sz : Nat → Int32} {n sn s0 m : Nat} {he : Int32} {L : List Nat → Prop} {w w2 : Nat → Int64} {x : Int64} (h : tk_Wy w ko st ac n sn (m + 1) x) (hA : tk_Sa ko st ac n sn s0 he L) (hz : tk_Sz sz ko n 128) (hL : tk_Lu w2 w st sz n sn sn) : tk_Wy w2 ko st ac n sn m x := by
  unfold tk_Wy
  rw [hL, ← show _ = x from h]
  refine tk_su.cg sn (fun s _ => ?_)
  rw [hA.ctS hz]
  rfl
/-- the sum at the end -/
noncomputable def tk_ac1 (w : Nat → Int64) (ac : Nat → Int32) (k : Nat) : Int64 := tk_su (fun t => w t * tk_b1 (ac t = 1)) k
theorem tk_ac1S {w : Nat → Int64} {ac : Nat → Int32} {k : Nat} : tk_ac1 w ac (k + 1) = tk_ac1 w ac k + w k * tk_b1 (ac k = 1) := rfl
theorem tk_Wy.fin {ko st ac : Nat → Int32} {n sn : Nat} {w : Nat → Int64} {x : Int64} (h : tk_Wy w ko st ac n sn 0 x) : tk_ac1 w ac sn = x := h

set_option maxHeartbeats 4000000 in
set_option maxRecDepth 100000 in
theorem k_X1_lengthenGA (l : Launch) (D : va_G) (cy : Nat → ClassId) (S : HS) (a : Nat) (ha : pq_R S a 4) (tt : Nat) (htt : pq_R S tt 3) (ko sz st ac n sn s0 : Nat) (ni si i0 he : Int32) (L : List Nat → Prop) (hA1 : tk_Ap S tt 150 151 152 206 ko sz st ac n sn s0 ni si i0 he L) (w1 w2 : Nat) (hCt : tk_Ct S a w1 w2) : pq_C l D cy yX1_lengthen cX1_lengthen 4 (none) 2 0 0 S [.ref a, .ref tt] (fun v S2 => v = none ∧ pq_Fr [(189, 0), (4, 0), (4, 1)] S S2 ∧ (tk_Ct S2 a w2 w1 ∧ tk_Lu (hJ S2 w2) (hJ S w1) (hI S st) (hI S sz) n sn sn)) := by
  refine pq_start (by decide) (Nat.le_of_ble_eq_true rfl) ?_
  intro p e s m args below meth c A F hr hlk hnm hA
  have lqm1 : (-1 : Int32).toInt = -1 := rfl
  have lq0 : (0 : Int32).toInt = 0 := rfl
  have lq1 : (1 : Int32).toInt = 1 := rfl
  obtain ⟨hn1, hn2, hn3⟩ := hA1.nn
  obtain ⟨hb1, hb2, hb3, hb4⟩ := hA1.b
  refine pq_lenF hCt.2.2.2.1 (by decide) rfl (fun lw1 lw2 => ?_)
  refine pq_lenF hCt.2.1 (by decide) rfl (fun lv1 lv2 => ?_)
  have L20 : ∀ (k : Int32) (kn : Nat) (hkn : k.toInt = (kn : Int)) (hk1 : kn < sn) (K : ∀ (S2 : HS) (hF2 : pq_Fr [(189, 0), (4, 0), (4, 1)] S S2) (hC2 : tk_Ct S2 a w1 w2) (hw2 : hJ S2 w1 = hJ S w1) (hLu2 : tk_Lu (hJ S2 w2) (hJ S w1) (hI S st) (hI S sz) n sn (kn + 1)), pq_At p l e (pq_rm 2 0 0) s m args below meth c (pq_Z below args s D cy S 0 0 (fun v S2 => v = none ∧ pq_Fr [(189, 0), (4, 0), (4, 1)] S S2 ∧ (tk_Ct S2 a w2 w1 ∧ tk_Lu (hJ S2 w2) (hJ S w1) (hI S st) (hI S sz) n sn sn))) D cy A 4 0 0 80 S2 [some (.ref a), some (.ref tt), some (.int k), none] []) (fu : Nat) (S1 : HS) (q9 : Int32) (qn : Nat) (hF : pq_Fr [(189, 0), (4, 0), (4, 1)] S S1) (hCL : tk_Ct S1 a w1 w2) (hw9 : hJ S1 w1 = hJ S w1) (hLt : tk_Lt (hJ S1 w2) (hJ S w1) (hI S st) (hI S sz) n sn kn qn) (hqn : q9.toInt = (qn : Int)) (hq1 : qn ≤ n), (128 - q9.toInt).toNat < fu → pq_At p l e (pq_rm 2 0 0) s m args below meth c (pq_Z below args s D cy S 0 0 (fun v S2 => v = none ∧ pq_Fr [(189, 0), (4, 0), (4, 1)] S S2 ∧ (tk_Ct S2 a w2 w1 ∧ tk_Lu (hJ S2 w2) (hJ S w1) (hI S st) (hI S sz) n sn sn))) D cy A 4 0 0 20 S1 [some (.ref a), some (.ref tt), some (.int k), some (.int q9)] [] := by
    intro k kn hkn hk1 K fu
    induction fu with
    | zero => intro S1 q9 qn hF hCL hw9 hLt hqn hq1 hm; exact absurd hm (Nat.not_lt_zero _)
    | succ fu ih =>
      intro S1 q9 qn hF hCL hw9 hLt hqn hq1 hm
      have haL := hF.R ha (by first | decide | omega)
      have httL := hF.R htt (by first | decide | omega)
      have hAL := hA1.fr htt (by decide) (by decide) hF (by decide)
      have eSt : hI S1 st = hI S st := hF.I hA1.r3 (by decide) (by decide)
      have eSz : hI S1 sz = hI S sz := hF.I hA1.r1 (by decide) (by decide)
      have eAc : hI S1 ac = hI S ac := hF.I hA1.r2 (by decide) (by decide)
      have hNL : hN S1 st = hN S st := (hF.1 st 152 hA1.r3 (by decide)).2
      have hm9 : n * kn + n ≤ sn * n := (by have w : n * (kn + 1) ≤ n * sn := Nat.mul_le_mul_left n hk1; rw [Nat.mul_add, Nat.mul_one, Nat.mul_comm n sn] at w; exact w)
      have hm8 : sn * n ≤ 201 * 128 := Nat.mul_le_mul hb3 hb2
      have hm7 : k.toInt * ni.toInt = ((n * kn : Nat) : Int) := (by rw [hkn, hn1, Int.natCast_mul, Int.mul_comm])
      refine pq_lenF hCL.2.2.2.1 (by decide) rfl (fun lw3 lw4 => ?_)
      refine pq_lenF hCL.2.1 (by decide) rfl (fun lv3 lv4 => ?_)
      refine pq_iload_n F dX1_lengthen_20 rfl rfl ?_
      refine pq_aload_n F dX1_lengthen_21 rfl rfl ?_
      refine pq_get F httL (by decide) lk_X1_45 hAL.e4 dX1_lengthen_22 ?_
      refine pq_icmp_ge (tgt := 80) F dX1_lengthen_25 (by decide) (fun c25 => ?_) (fun c25 => ?_)
      · skip
        exact pq_fgm [true, true, true, false] (K _ hF hCL hw9 (by have e9 : qn = n := (by focus ((try clear hA1); (try clear hAL); (try clear hCL); (try clear hCt); (try clear K); (try clear ih); (try clear hLt); (try clear hLu); (try clear hLu5); (try clear hLu2); (try clear hw9); (try clear hw8); (try clear g5); (try clear eSt); (try clear eSz); (try clear eAc); (try clear e57); (try clear e63); (try clear e55); (try clear e69); (try clear e33); (try clear hC5); (try clear hw5); simp only [vp_in_iff, Int32.lt_iff_toInt_lt, Int32.le_iff_toInt_le, ← Int32.toInt_inj, Int32.toInt_add, Int32.toInt_sub, Int32.toInt_mul, Int32.toInt_neg, pq_NuO, pq_NuI, pq_NuJ, pq_NuR, pq_shr6, pq_shr7, pq_shr8, lqm1, lq0, lq1] at *; (try simp (disch := omega) only [pq_bm] at *); all_goals omega)); rw [e9] at hLt; exact hLt.row))
      · skip
        refine pq_aload_n F dX1_lengthen_28 rfl rfl ?_
        refine pq_get F haL (by decide) lk_X1_9 hCL.1 dX1_lengthen_29 ?_
        refine pq_iload_n F dX1_lengthen_32 rfl rfl ?_
        refine pq_lald F hCL.2.1 (by decide) (by decide) rfl (fun n1_33 n2_33 => (by focus ((try clear hA1); (try clear hAL); (try clear hCL); (try clear hCt); (try clear K); (try clear ih); (try clear hLt); (try clear hLu); (try clear hLu5); (try clear hLu2); (try clear hw9); (try clear hw8); (try clear g5); (try clear eSt); (try clear eSz); (try clear eAc); (try clear e57); (try clear e63); (try clear e55); (try clear e69); (try clear e33); (try clear hC5); (try clear hw5); simp only [vp_in_iff, Int32.lt_iff_toInt_lt, Int32.le_iff_toInt_le, ← Int32.toInt_inj, Int32.toInt_add, Int32.toInt_sub, Int32.toInt_mul, Int32.toInt_neg, pq_NuO, pq_NuI, pq_NuJ, pq_NuR, pq_shr6, pq_shr7, pq_shr8, lqm1, lq0, lq1] at *; (try simp (disch := omega) only [pq_bm] at *); all_goals omega))) dX1_lengthen_33 (fun x33 e33 => ?_)
        refine pq_lconst (v := 0) F dX1_lengthen_34 (by decide) ?_
        refine pq_lcmp F dX1_lengthen_35 ?_
        refine pq_if_eq (tgt := 80) F dX1_lengthen_36 (by decide) (fun c36 => ?_) (fun c36 => ?_)
        · skip
          exact pq_fgm [true, true, true, false] (K _ hF hCL hw9 (hLt.z (by have w9 := tk_cmp.mp (by first | exact c36 | exact Classical.byContradiction c36); rw [e33, hw9, tk_ix hkn] at w9; exact w9)))
        · skip
          refine pq_aload_n F dX1_lengthen_39 rfl rfl ?_
          refine pq_get F haL (by decide) lk_X1_15 hCL.2.2.1 dX1_lengthen_40 ?_
          refine pq_aload_n F dX1_lengthen_43 rfl rfl ?_
          refine pq_get F httL (by decide) lk_X1_48 hAL.e3 dX1_lengthen_44 ?_
          refine pq_iload_n F dX1_lengthen_47 rfl rfl ?_
          refine pq_aload_n F dX1_lengthen_48 rfl rfl ?_
          refine pq_get F httL (by decide) lk_X1_45 hAL.e4 dX1_lengthen_49 ?_
          refine pq_imul F dX1_lengthen_52 ?_
          refine pq_iload_n F dX1_lengthen_53 rfl rfl ?_
          refine pq_iadd F dX1_lengthen_54 ?_
          refine pq_iald F hAL.r3 (by decide) (by decide) rfl (fun n1_55 n2_55 => (by focus ((try clear hA1); (try clear hAL); (try clear hCL); (try clear hCt); (try clear K); (try clear ih); (try clear hLt); (try clear hLu); (try clear hLu5); (try clear hLu2); (try clear hw9); (try clear hw8); (try clear g5); (try clear eSt); (try clear eSz); (try clear eAc); (try clear e57); (try clear e63); (try clear e55); (try clear e69); (try clear e33); (try clear hC5); (try clear hw5); simp only [vp_in_iff, Int32.lt_iff_toInt_lt, Int32.le_iff_toInt_le, ← Int32.toInt_inj, Int32.toInt_add, Int32.toInt_sub, Int32.toInt_mul, Int32.toInt_neg, pq_NuO, pq_NuI, pq_NuJ, pq_NuR, pq_shr6, pq_shr7, pq_shr8, lqm1, lq0, lq1] at *; (try simp (disch := omega) only [pq_bm] at *); all_goals omega))) dX1_lengthen_55 (fun x55 e55 l55 u55 => ?_)
          obtain ⟨j55, hj55, ej55⟩ := hA1.a.2.1 kn qn (by omega) (by focus ((try clear hA1); (try clear hAL); (try clear hCL); (try clear hCt); (try clear K); (try clear ih); (try clear hLt); (try clear hLu); (try clear hLu5); (try clear hLu2); (try clear hw9); (try clear hw8); (try clear g5); (try clear eSt); (try clear eSz); (try clear eAc); (try clear e57); (try clear e63); (try clear e55); (try clear e69); (try clear e33); (try clear hC5); (try clear hw5); simp only [vp_in_iff, Int32.lt_iff_toInt_lt, Int32.le_iff_toInt_le, ← Int32.toInt_inj, Int32.toInt_add, Int32.toInt_sub, Int32.toInt_mul, Int32.toInt_neg, pq_NuO, pq_NuI, pq_NuJ, pq_NuR, pq_shr6, pq_shr7, pq_shr8, lqm1, lq0, lq1] at *; (try simp (disch := omega) only [pq_bm] at *); all_goals omega))
          have hix : (k * ni + q9).toInt = ((n * kn + qn : Nat) : Int) := (by focus ((try clear hA1); (try clear hAL); (try clear hCL); (try clear hCt); (try clear K); (try clear ih); (try clear hLt); (try clear hLu); (try clear hLu5); (try clear hLu2); (try clear hw9); (try clear hw8); (try clear g5); (try clear eSt); (try clear eSz); (try clear eAc); (try clear e57); (try clear e63); (try clear e55); (try clear e69); (try clear e33); (try clear hC5); (try clear hw5); simp only [vp_in_iff, Int32.lt_iff_toInt_lt, Int32.le_iff_toInt_le, ← Int32.toInt_inj, Int32.toInt_add, Int32.toInt_sub, Int32.toInt_mul, Int32.toInt_neg, pq_NuO, pq_NuI, pq_NuJ, pq_NuR, pq_shr6, pq_shr7, pq_shr8, lqm1, lq0, lq1] at *; (try simp (disch := omega) only [pq_bm] at *); all_goals omega))
          have ex55 : x55.toInt = (j55 : Int) := (by rw [e55, eSt, tk_ix hix]; exact ej55)
          refine pq_dup2 F dX1_lengthen_56 rfl rfl ?_
          refine pq_lald F hCL.2.2.2.1 (by decide) (by decide) rfl (fun n1_57 n2_57 => (by focus ((try clear hA1); (try clear hAL); (try clear hCL); (try clear hCt); (try clear K); (try clear ih); (try clear hLt); (try clear hLu); (try clear hLu5); (try clear hLu2); (try clear hw9); (try clear hw8); (try clear g5); (try clear eSt); (try clear eSz); (try clear eAc); (try clear e57); (try clear e63); (try clear e55); (try clear e69); (try clear e33); (try clear hC5); (try clear hw5); simp only [vp_in_iff, Int32.lt_iff_toInt_lt, Int32.le_iff_toInt_le, ← Int32.toInt_inj, Int32.toInt_add, Int32.toInt_sub, Int32.toInt_mul, Int32.toInt_neg, pq_NuO, pq_NuI, pq_NuJ, pq_NuR, pq_shr6, pq_shr7, pq_shr8, lqm1, lq0, lq1] at *; (try simp (disch := omega) only [pq_bm] at *); all_goals omega))) dX1_lengthen_57 (fun x57 e57 => ?_)
          refine pq_aload_n F dX1_lengthen_58 rfl rfl ?_
          refine pq_get F haL (by decide) lk_X1_9 hCL.1 dX1_lengthen_59 ?_
          refine pq_iload_n F dX1_lengthen_62 rfl rfl ?_
          refine pq_lald F hCL.2.1 (by decide) (by decide) rfl (fun n1_63 n2_63 => (by focus ((try clear hA1); (try clear hAL); (try clear hCL); (try clear hCt); (try clear K); (try clear ih); (try clear hLt); (try clear hLu); (try clear hLu5); (try clear hLu2); (try clear hw9); (try clear hw8); (try clear g5); (try clear eSt); (try clear eSz); (try clear eAc); (try clear e57); (try clear e63); (try clear e55); (try clear e69); (try clear e33); (try clear hC5); (try clear hw5); simp only [vp_in_iff, Int32.lt_iff_toInt_lt, Int32.le_iff_toInt_le, ← Int32.toInt_inj, Int32.toInt_add, Int32.toInt_sub, Int32.toInt_mul, Int32.toInt_neg, pq_NuO, pq_NuI, pq_NuJ, pq_NuR, pq_shr6, pq_shr7, pq_shr8, lqm1, lq0, lq1] at *; (try simp (disch := omega) only [pq_bm] at *); all_goals omega))) dX1_lengthen_63 (fun x63 e63 => ?_)
          refine pq_aload_n F dX1_lengthen_64 rfl rfl ?_
          refine pq_get F httL (by decide) lk_X1_52 hAL.e1 dX1_lengthen_65 ?_
          refine pq_iload_n F dX1_lengthen_68 rfl rfl ?_
          refine pq_iald F hAL.r1 (by decide) (by decide) rfl (fun n1_69 n2_69 => (by focus ((try clear hA1); (try clear hAL); (try clear hCL); (try clear hCt); (try clear K); (try clear ih); (try clear hLt); (try clear hLu); (try clear hLu5); (try clear hLu2); (try clear hw9); (try clear hw8); (try clear g5); (try clear eSt); (try clear eSz); (try clear eAc); (try clear e57); (try clear e63); (try clear e55); (try clear e69); (try clear e33); (try clear hC5); (try clear hw5); simp only [vp_in_iff, Int32.lt_iff_toInt_lt, Int32.le_iff_toInt_le, ← Int32.toInt_inj, Int32.toInt_add, Int32.toInt_sub, Int32.toInt_mul, Int32.toInt_neg, pq_NuO, pq_NuI, pq_NuJ, pq_NuR, pq_shr6, pq_shr7, pq_shr8, lqm1, lq0, lq1] at *; (try simp (disch := omega) only [pq_bm] at *); all_goals omega))) dX1_lengthen_69 (fun x69 e69 l69 u69 => ?_)
          refine pq_i2l F dX1_lengthen_70 ?_
          refine pq_lmul F dX1_lengthen_71 ?_
          refine pq_ladd F dX1_lengthen_72 ?_
          refine pq_last F hCL.2.2.2.1 (by decide) (by decide) rfl (fun n1_73 n2_73 => (by focus ((try clear hA1); (try clear hAL); (try clear hCL); (try clear hCt); (try clear K); (try clear ih); (try clear hLt); (try clear hLu); (try clear hLu5); (try clear hLu2); (try clear hw9); (try clear hw8); (try clear g5); (try clear eSt); (try clear eSz); (try clear eAc); (try clear e57); (try clear e63); (try clear e55); (try clear e69); (try clear e33); (try clear hC5); (try clear hw5); simp only [vp_in_iff, Int32.lt_iff_toInt_lt, Int32.le_iff_toInt_le, ← Int32.toInt_inj, Int32.toInt_add, Int32.toInt_sub, Int32.toInt_mul, Int32.toInt_neg, pq_NuO, pq_NuI, pq_NuJ, pq_NuR, pq_shr6, pq_shr7, pq_shr8, lqm1, lq0, lq1] at *; (try simp (disch := omega) only [pq_bm] at *); all_goals omega))) dX1_lengthen_73 ?_
          refine pq_iinc (v := 1) F dX1_lengthen_74 rfl (by decide) (by decide) ?_
          refine pq_goto (tgt := 20) F dX1_lengthen_77 (by decide) ?_
          exact pq_fgm [true, true, true, true] (ih _ _ (qn + 1) (hF.uJ hCL.2.2.2.1 (by first | decide | exact List.mem_cons_self)) hCL (by simp only [pq_IuO, pq_IuJ, pq_Iu, pq_JuO, pq_JuI, pq_Ju, pq_RuO, pq_RuJ, pq_RuI, if_true, if_false, hCL.2.2.2.2]; exact hw9) (by simp only [pq_IuO, pq_IuJ, pq_Iu, pq_JuO, pq_JuI, pq_Ju, pq_RuO, pq_RuJ, pq_RuI, if_true, if_false]; rw [tk_ix ex55]; exact hLt.up hj55 (by rw [ej55, Int.toNat_natCast]) (by rw [e57, tk_ix ex55, e63, hw9, tk_ix hkn, e69, eSz, tk_ix hqn])) (by focus ((try clear hA1); (try clear hAL); (try clear hCL); (try clear hCt); (try clear K); (try clear ih); (try clear hLt); (try clear hLu); (try clear hLu5); (try clear hLu2); (try clear hw9); (try clear hw8); (try clear g5); (try clear eSt); (try clear eSz); (try clear eAc); (try clear e57); (try clear e63); (try clear e55); (try clear e69); (try clear e33); (try clear hC5); (try clear hw5); simp only [vp_in_iff, Int32.lt_iff_toInt_lt, Int32.le_iff_toInt_le, ← Int32.toInt_inj, Int32.toInt_add, Int32.toInt_sub, Int32.toInt_mul, Int32.toInt_neg, pq_NuO, pq_NuI, pq_NuJ, pq_NuR, pq_shr6, pq_shr7, pq_shr8, lqm1, lq0, lq1] at *; (try simp (disch := omega) only [pq_bm] at *); all_goals omega)) (by focus ((try clear hA1); (try clear hAL); (try clear hCL); (try clear hCt); (try clear K); (try clear ih); (try clear hLt); (try clear hLu); (try clear hLu5); (try clear hLu2); (try clear hw9); (try clear hw8); (try clear g5); (try clear eSt); (try clear eSz); (try clear eAc); (try clear e57); (try clear e63); (try clear e55); (try clear e69); (try clear e33); (try clear hC5); (try clear hw5); simp only [vp_in_iff, Int32.lt_iff_toInt_lt, Int32.le_iff_toInt_le, ← Int32.toInt_inj, Int32.toInt_add, Int32.toInt_sub, Int32.toInt_mul, Int32.toInt_neg, pq_NuO, pq_NuI, pq_NuJ, pq_NuR, pq_shr6, pq_shr7, pq_shr8, lqm1, lq0, lq1] at *; (try simp (disch := omega) only [pq_bm] at *); all_goals omega)) (by focus ((try clear hA1); (try clear hAL); (try clear hCL); (try clear hCt); (try clear K); (try clear ih); (try clear hLt); (try clear hLu); (try clear hLu5); (try clear hLu2); (try clear hw9); (try clear hw8); (try clear g5); (try clear eSt); (try clear eSz); (try clear eAc); (try clear e57); (try clear e63); (try clear e55); (try clear e69); (try clear e33); (try clear hC5); (try clear hw5); simp only [vp_in_iff, Int32.lt_iff_toInt_lt, Int32.le_iff_toInt_le, ← Int32.toInt_inj, Int32.toInt_add, Int32.toInt_sub, Int32.toInt_mul, Int32.toInt_neg, pq_NuO, pq_NuI, pq_NuJ, pq_NuR, pq_shr6, pq_shr7, pq_shr8, lqm1, lq0, lq1] at *; (try simp (disch := omega) only [pq_bm] at *); all_goals omega)))
  have L10 : ∀  (fu : Nat) (S1 : HS) (k : Int32) (kn : Nat) (hF : pq_Fr [(189, 0), (4, 0), (4, 1)] S S1) (hCL : tk_Ct S1 a w1 w2) (hw9 : hJ S1 w1 = hJ S w1) (hLu : tk_Lu (hJ S1 w2) (hJ S w1) (hI S st) (hI S sz) n sn kn) (hkn : k.toInt = (kn : Int)) (hk1 : kn ≤ sn), (201 - k.toInt).toNat < fu → pq_At p l e (pq_rm 2 0 0) s m args below meth c (pq_Z below args s D cy S 0 0 (fun v S2 => v = none ∧ pq_Fr [(189, 0), (4, 0), (4, 1)] S S2 ∧ (tk_Ct S2 a w2 w1 ∧ tk_Lu (hJ S2 w2) (hJ S w1) (hI S st) (hI S sz) n sn sn))) D cy A 4 0 0 10 S1 [some (.ref a), some (.ref tt), some (.int k), none] [] := by
    intro  fu
    induction fu with
    | zero => intro S1 k kn hF hCL hw9 hLu hkn hk1 hm; exact absurd hm (Nat.not_lt_zero _)
    | succ fu ih =>
      intro S1 k kn hF hCL hw9 hLu hkn hk1 hm
      have haL := hF.R ha (by first | decide | omega)
      have httL := hF.R htt (by first | decide | omega)
      have hAL := hA1.fr htt (by decide) (by decide) hF (by decide)
      have eSt : hI S1 st = hI S st := hF.I hA1.r3 (by decide) (by decide)
      have eSz : hI S1 sz = hI S sz := hF.I hA1.r1 (by decide) (by decide)
      have eAc : hI S1 ac = hI S ac := hF.I hA1.r2 (by decide) (by decide)
      have hNL : hN S1 st = hN S st := (hF.1 st 152 hA1.r3 (by decide)).2
      refine pq_iload_n F dX1_lengthen_10 rfl rfl ?_
      refine pq_aload_n F dX1_lengthen_11 rfl rfl ?_
      refine pq_get F httL (by decide) lk_X1_38 hAL.e5 dX1_lengthen_12 ?_
      refine pq_icmp_ge (tgt := 86) F dX1_lengthen_15 (by decide) (fun c15 => ?_) (fun c15 => ?_)
      · skip
        refine pq_aload_n F dX1_lengthen_86 rfl rfl ?_
        refine pq_get F haL (by decide) lk_X1_9 hCL.1 dX1_lengthen_87 ?_
        refine pq_astore_n F dX1_lengthen_90 rfl (by decide) ?_
        refine pq_aload_n F dX1_lengthen_91 rfl rfl ?_
        refine pq_aload_n F dX1_lengthen_92 rfl rfl ?_
        refine pq_get F haL (by decide) lk_X1_15 hCL.2.2.1 dX1_lengthen_93 ?_
        refine pq_put F haL (by decide) lp_X1_9 rfl rfl (⟨by decide, _, rfl, hCL.2.2.2.1⟩) dX1_lengthen_96 ?_
        refine pq_aload_n F dX1_lengthen_99 rfl rfl ?_
        refine pq_aload_n F dX1_lengthen_100 rfl rfl ?_
        refine pq_put F haL (by decide) lp_X1_15 rfl rfl (⟨by decide, _, rfl, hCL.2.1⟩) dX1_lengthen_101 ?_
        exact pq_vret F hr hlk hA (Nat.le_refl _) (Nat.le_refl _) ((by have e9 : kn = sn := (by focus ((try clear hA1); (try clear hAL); (try clear hCL); (try clear hCt); (try clear K); (try clear ih); (try clear hLt); (try clear hLu); (try clear hLu5); (try clear hLu2); (try clear hw9); (try clear hw8); (try clear g5); (try clear eSt); (try clear eSz); (try clear eAc); (try clear e57); (try clear e63); (try clear e55); (try clear e69); (try clear e33); (try clear hC5); (try clear hw5); simp only [vp_in_iff, Int32.lt_iff_toInt_lt, Int32.le_iff_toInt_le, ← Int32.toInt_inj, Int32.toInt_add, Int32.toInt_sub, Int32.toInt_mul, Int32.toInt_neg, pq_NuO, pq_NuI, pq_NuJ, pq_NuR, pq_shr6, pq_shr7, pq_shr8, lqm1, lq0, lq1] at *; (try simp (disch := omega) only [pq_bm] at *); all_goals omega)); rw [e9] at hLu; exact ⟨rfl, ((hF.uO haL (by decide)).uO haL (by decide)), ⟨(pq_kp pq_ks (by decide)), hCL.2.2.2.1, pq_ks, hCL.2.1, fun w9 => hCL.2.2.2.2 w9.symm⟩, hLu⟩)) dX1_lengthen_104
      · skip
        refine pq_iconst (v := 0) F dX1_lengthen_18 (by decide) ?_
        refine pq_istore_n F dX1_lengthen_19 rfl (by decide) ?_
        refine pq_fgm [true, true, true, true] (L20 k kn hkn (by focus ((try clear hA1); (try clear hAL); (try clear hCL); (try clear hCt); (try clear K); (try clear ih); (try clear hLt); (try clear hLu); (try clear hLu5); (try clear hLu2); (try clear hw9); (try clear hw8); (try clear g5); (try clear eSt); (try clear eSz); (try clear eAc); (try clear e57); (try clear e63); (try clear e55); (try clear e69); (try clear e33); (try clear hC5); (try clear hw5); simp only [vp_in_iff, Int32.lt_iff_toInt_lt, Int32.le_iff_toInt_le, ← Int32.toInt_inj, Int32.toInt_add, Int32.toInt_sub, Int32.toInt_mul, Int32.toInt_neg, pq_NuO, pq_NuI, pq_NuJ, pq_NuR, pq_shr6, pq_shr7, pq_shr8, lqm1, lq0, lq1] at *; (try simp (disch := omega) only [pq_bm] at *); all_goals omega)) (fun S5 hF5 hC5 hw5 hLu5 => ?_) 1000 _ _ 0 hF hCL hw9 hLu.go rfl (Nat.zero_le _) (by focus ((try clear hA1); (try clear hAL); (try clear hCL); (try clear hCt); (try clear K); (try clear ih); (try clear hLt); (try clear hLu); (try clear hLu5); (try clear hLu2); (try clear hw9); (try clear hw8); (try clear g5); (try clear eSt); (try clear eSz); (try clear eAc); (try clear e57); (try clear e63); (try clear e55); (try clear e69); (try clear e33); (try clear hC5); (try clear hw5); simp only [vp_in_iff, Int32.lt_iff_toInt_lt, Int32.le_iff_toInt_le, ← Int32.toInt_inj, Int32.toInt_add, Int32.toInt_sub, Int32.toInt_mul, Int32.toInt_neg, pq_NuO, pq_NuI, pq_NuJ, pq_NuR, pq_shr6, pq_shr7, pq_shr8, lqm1, lq0, lq1] at *; (try simp (disch := omega) only [pq_bm] at *); all_goals omega)))
        have ha5 := hF5.R ha (by decide)
        have htt5 := hF5.R htt (by decide)
        refine pq_iinc (v := 1) F dX1_lengthen_80 rfl (by decide) (by decide) ?_
        refine pq_goto (tgt := 10) F dX1_lengthen_83 (by decide) ?_
        exact pq_fgm [true, true, true, false] (ih _ _ (kn + 1) hF5 hC5 hw5 hLu5 (by focus ((try clear hA1); (try clear hAL); (try clear hCL); (try clear hCt); (try clear K); (try clear ih); (try clear hLt); (try clear hLu); (try clear hLu5); (try clear hLu2); (try clear hw9); (try clear hw8); (try clear g5); (try clear eSt); (try clear eSz); (try clear eAc); (try clear e57); (try clear e63); (try clear e55); (try clear e69); (try clear e33); (try clear hC5); (try clear hw5); simp only [vp_in_iff, Int32.lt_iff_toInt_lt, Int32.le_iff_toInt_le, ← Int32.toInt_inj, Int32.toInt_add, Int32.toInt_sub, Int32.toInt_mul, Int32.toInt_neg, pq_NuO, pq_NuI, pq_NuJ, pq_NuR, pq_shr6, pq_shr7, pq_shr8, lqm1, lq0, lq1] at *; (try simp (disch := omega) only [pq_bm] at *); all_goals omega)) (by focus ((try clear hA1); (try clear hAL); (try clear hCL); (try clear hCt); (try clear K); (try clear ih); (try clear hLt); (try clear hLu); (try clear hLu5); (try clear hLu2); (try clear hw9); (try clear hw8); (try clear g5); (try clear eSt); (try clear eSz); (try clear eAc); (try clear e57); (try clear e63); (try clear e55); (try clear e69); (try clear e33); (try clear hC5); (try clear hw5); simp only [vp_in_iff, Int32.lt_iff_toInt_lt, Int32.le_iff_toInt_le, ← Int32.toInt_inj, Int32.toInt_add, Int32.toInt_sub, Int32.toInt_mul, Int32.toInt_neg, pq_NuO, pq_NuI, pq_NuJ, pq_NuR, pq_shr6, pq_shr7, pq_shr8, lqm1, lq0, lq1] at *; (try simp (disch := omega) only [pq_bm] at *); all_goals omega)) (by focus ((try clear hA1); (try clear hAL); (try clear hCL); (try clear hCt); (try clear K); (try clear ih); (try clear hLt); (try clear hLu); (try clear hLu5); (try clear hLu2); (try clear hw9); (try clear hw8); (try clear g5); (try clear eSt); (try clear eSz); (try clear eAc); (try clear e57); (try clear e63); (try clear e55); (try clear e69); (try clear e33); (try clear hC5); (try clear hw5); simp only [vp_in_iff, Int32.lt_iff_toInt_lt, Int32.le_iff_toInt_le, ← Int32.toInt_inj, Int32.toInt_add, Int32.toInt_sub, Int32.toInt_mul, Int32.toInt_neg, pq_NuO, pq_NuI, pq_NuJ, pq_NuR, pq_shr6, pq_shr7, pq_shr8, lqm1, lq0, lq1] at *; (try simp (disch := omega) only [pq_bm] at *); all_goals omega)))
  refine pq_aload_n F dX1_lengthen_0 rfl rfl ?_
  refine pq_get F ha (by decide) lk_X1_15 hCt.2.2.1 dX1_lengthen_1 ?_
  refine pq_lconst (v := 0) F dX1_lengthen_4 (by decide) ?_
  refine pq_lenF hCt.2.2.2.1 (by decide) rfl (fun lna5_0 lnb5_0 => ?_)
  refine pq_callS (As := [_, _]) F (k_J7_fill_d0a16 l D cy _ _ 189 ?_ ?_ ?_ _ ?_) ml_X1_24 (Nat.le_of_ble_eq_true rfl) ⟨Nat.le_of_ble_eq_true rfl, Nat.le_of_ble_eq_true rfl⟩ ⟨by decide, by decide⟩ dX1_lengthen_5 (fun v5 S5 w5 => ?_)
  · exact hCt.2.2.2.1
  · first | decide | omega
  · first | decide | omega
  · focus ((try clear hA1); (try clear hAL); (try clear hCL); (try clear hCt); (try clear K); (try clear ih); (try clear hLt); (try clear hLu); (try clear hLu5); (try clear hLu2); (try clear hw9); (try clear hw8); (try clear g5); (try clear eSt); (try clear eSz); (try clear eAc); (try clear e57); (try clear e63); (try clear e55); (try clear e69); (try clear e33); (try clear hC5); (try clear hw5); simp only [vp_in_iff, Int32.lt_iff_toInt_lt, Int32.le_iff_toInt_le, ← Int32.toInt_inj, Int32.toInt_add, Int32.toInt_sub, Int32.toInt_mul, Int32.toInt_neg, pq_NuO, pq_NuI, pq_NuJ, pq_NuR, pq_shr6, pq_shr7, pq_shr8, lqm1, lq0, lq1] at *; (try simp (disch := omega) only [pq_bm] at *); all_goals omega)
  obtain ⟨rfl, f5, rfl, g5⟩ := w5
  refine pq_iconst (v := 0) F dX1_lengthen_8 (by decide) ?_
  refine pq_istore_n F dX1_lengthen_9 rfl (by decide) ?_
  exact pq_fgm [true, true, true, false] (L10 1000 _ _ 0 (pq_Fr.rf.uJ hCt.2.2.2.1 (by first | decide | exact List.mem_cons_self)) hCt (by simp only [pq_IuO, pq_IuJ, pq_Iu, pq_JuO, pq_JuI, pq_Ju, pq_RuO, pq_RuJ, pq_RuI, if_true, if_false, hCt.2.2.2.2]) (tk_Lu.beg (fun i hi => (by simp only [pq_IuO, pq_IuJ, pq_Iu, pq_JuO, pq_JuI, pq_Ju, pq_RuO, pq_RuJ, pq_RuI, if_true, if_false]; exact g5 i (by omega)))) rfl (Nat.zero_le _) (by focus ((try clear hA1); (try clear hAL); (try clear hCL); (try clear hCt); (try clear K); (try clear ih); (try clear hLt); (try clear hLu); (try clear hLu5); (try clear hLu2); (try clear hw9); (try clear hw8); (try clear g5); (try clear eSt); (try clear eSz); (try clear eAc); (try clear e57); (try clear e63); (try clear e55); (try clear e69); (try clear e33); (try clear hC5); (try clear hw5); simp only [vp_in_iff, Int32.lt_iff_toInt_lt, Int32.le_iff_toInt_le, ← Int32.toInt_inj, Int32.toInt_add, Int32.toInt_sub, Int32.toInt_mul, Int32.toInt_neg, pq_NuO, pq_NuI, pq_NuJ, pq_NuR, pq_shr6, pq_shr7, pq_shr8, lqm1, lq0, lq1] at *; (try simp (disch := omega) only [pq_bm] at *); all_goals omega)))

set_option maxHeartbeats 4000000 in
set_option maxRecDepth 100000 in
theorem k_X1_textsOfGA (l : Launch) (D : va_G) (cy : Nat → ClassId) (S : HS) (a : Nat) (ha : pq_R S a 4) (tt : Nat) (htt : pq_R S tt 3) (ln : Int32) (hln0 : 0 ≤ ln.toInt) (hln1 : ln.toInt ≤ 12) (ko sz st ac n sn s0 : Nat) (ni si i0 he : Int32) (L : List Nat → Prop) (hA1 : tk_Ap S tt 150 151 152 206 ko sz st ac n sn s0 ni si i0 he L) (w1 w2 : Nat) (hCt : tk_Ct S a w1 w2) (lN : Nat) (hln : ln.toInt = (lN : Int)) : pq_C l D cy yX1_textsOf cX1_textsOf 6 (some .long) 3 0 0 S [.ref a, .ref tt, .int ln] (fun v S2 => pq_Fr [(189, 0), (4, 0), (4, 1)] S S2 ∧ ∃ x : Int64, v = some (.long x) ∧ (x = tk_ct lN L ∧ ∃ v1 v2 : Nat, tk_Ct S2 a v1 v2)) := by
  refine pq_start (by decide) (Nat.le_of_ble_eq_true rfl) ?_
  intro p e s m args below meth c A F hr hlk hnm hA
  have lqm1 : (-1 : Int32).toInt = -1 := rfl
  have lq0 : (0 : Int32).toInt = 0 := rfl
  have lq1 : (1 : Int32).toInt = 1 := rfl
  obtain ⟨hn1, hn2, hn3⟩ := hA1.nn
  obtain ⟨hb1, hb2, hb3, hb4⟩ := hA1.b
  refine pq_lenF hCt.2.1 (by decide) rfl (fun lv1 lv2 => ?_)
  have hs00 := hA1.a.2.2.1
  have hhe : he = 0 ∨ he = 1 := hA1.a.2.2.2.2.1
  have L58 : ∀ (v1 v2 : Nat) (fu : Nat) (S1 : HS) (j_tx : Int64) (k : Int32) (kn : Nat) (hF : pq_Fr [(189, 0), (4, 0), (4, 1)] S S1) (hCL : tk_Ct S1 a v1 v2) (hWy : tk_Wy (hJ S1 v1) (hI S ko) (hI S st) (hI S ac) n sn 0 (tk_ct lN L)) (hjx : j_tx = tk_ac1 (hJ S1 v1) (hI S ac) kn) (hkn : k.toInt = (kn : Int)) (hk1 : kn ≤ sn), (201 - k.toInt).toNat < fu → pq_At p l e (pq_rm 3 0 0) s m args below meth c (pq_Z below args s D cy S 0 0 (fun v S2 => pq_Fr [(189, 0), (4, 0), (4, 1)] S S2 ∧ ∃ x : Int64, v = some (.long x) ∧ (x = tk_ct lN L ∧ ∃ v1 v2 : Nat, tk_Ct S2 a v1 v2))) D cy A 6 0 0 58 S1 [some (.ref a), some (.ref tt), some (.int ln), some (.long j_tx), none, some (.int k)] [] := by
    intro v1 v2 fu
    induction fu with
    | zero => intro S1 j_tx k kn hF hCL hWy hjx hkn hk1 hm; exact absurd hm (Nat.not_lt_zero _)
    | succ fu ih =>
      intro S1 j_tx k kn hF hCL hWy hjx hkn hk1 hm
      have haL := hF.R ha (by first | decide | omega)
      have httL := hF.R htt (by first | decide | omega)
      have hAL := hA1.fr htt (by decide) (by decide) hF (by decide)
      have eSt : hI S1 st = hI S st := hF.I hA1.r3 (by decide) (by decide)
      have eSz : hI S1 sz = hI S sz := hF.I hA1.r1 (by decide) (by decide)
      have eAc : hI S1 ac = hI S ac := hF.I hA1.r2 (by decide) (by decide)
      have hNL : hN S1 st = hN S st := (hF.1 st 152 hA1.r3 (by decide)).2
      have eKo : hI S1 ko = hI S ko := hF.I hA1.r0 (by decide) (by decide)
      refine pq_lenF hCL.2.1 (by decide) rfl (fun lw3 lw4 => ?_)
      refine pq_iload F dX1_textsOf_58 rfl ?_
      refine pq_aload_n F dX1_textsOf_60 rfl rfl ?_
      refine pq_get F httL (by decide) lk_X1_38 hAL.e5 dX1_textsOf_61 ?_
      refine pq_icmp_ge (tgt := 97) F dX1_textsOf_64 (by decide) (fun c64 => ?_) (fun c64 => ?_)
      · skip
        refine pq_lload_n F dX1_textsOf_97 rfl rfl ?_
        exact pq_lret F hr hlk hA (Nat.le_refl _) (Nat.le_refl _) ((by have e9 : kn = sn := (by clear hjx; focus ((try clear hA1); (try clear hAL); (try clear hCL); (try clear hCt); (try clear ih); (try clear hWy); (try clear hjx); (try clear g22); (try clear p44); (try clear hhe); (try clear eSt); (try clear eSz); (try clear eAc); (try clear eKo); (try clear e84); (try clear e74); (try clear hC44); (try clear hW44); (try clear hx74); (try clear ex74); simp only [vp_in_iff, Int32.lt_iff_toInt_lt, Int32.le_iff_toInt_le, ← Int32.toInt_inj, Int32.toInt_add, Int32.toInt_sub, Int32.toInt_mul, Int32.toInt_neg, pq_NuO, pq_NuI, pq_NuJ, pq_NuR, pq_shr6, pq_shr7, pq_shr8, lqm1, lq0, lq1] at *; (try simp (disch := omega) only [pq_bm] at *); all_goals omega)); rw [e9] at hjx; exact ⟨hF, _, rfl, hjx.trans hWy.fin, v1, v2, hCL⟩)) dX1_textsOf_98
      · skip
        refine pq_lload_n F dX1_textsOf_67 rfl rfl ?_
        refine pq_aload_n F dX1_textsOf_68 rfl rfl ?_
        refine pq_get F httL (by decide) lk_X1_41 hAL.e2 dX1_textsOf_69 ?_
        refine pq_iload F dX1_textsOf_72 rfl ?_
        refine pq_zald F hAL.r2 (by decide) (by decide) rfl (fun n1_74 n2_74 => (by focus ((try clear hA1); (try clear hAL); (try clear hCL); (try clear hCt); (try clear ih); (try clear hWy); (try clear hjx); (try clear g22); (try clear p44); (try clear hhe); (try clear eSt); (try clear eSz); (try clear eAc); (try clear eKo); (try clear e84); (try clear e74); (try clear hC44); (try clear hW44); (try clear hx74); (try clear ex74); simp only [vp_in_iff, Int32.lt_iff_toInt_lt, Int32.le_iff_toInt_le, ← Int32.toInt_inj, Int32.toInt_add, Int32.toInt_sub, Int32.toInt_mul, Int32.toInt_neg, pq_NuO, pq_NuI, pq_NuJ, pq_NuR, pq_shr6, pq_shr7, pq_shr8, lqm1, lq0, lq1] at *; (try simp (disch := omega) only [pq_bm] at *); all_goals omega))) dX1_textsOf_74 (fun x74 e74 l74 u74 => ?_)
        have ex74 : x74 = hI S ac kn := (by rw [e74, eAc, tk_ix hkn])
        refine pq_if_eq (tgt := 88) F dX1_textsOf_75 (by decide) (fun c75 => ?_) (fun c75 => ?_)
        · skip
          refine pq_lconst (v := 0) F dX1_textsOf_88 (by decide) ?_
          refine pq_ladd F dX1_textsOf_89 ?_
          refine pq_lstore_n F dX1_textsOf_90 rfl (by decide) ?_
          refine pq_iinc (v := 1) F dX1_textsOf_91 rfl (by decide) (by decide) ?_
          refine pq_goto (tgt := 58) F dX1_textsOf_94 (by decide) ?_
          exact pq_fgm [true, true, true, true, false, true] (ih _ _ _ (kn + 1) hF hCL hWy (by rw [tk_ac1S, tk_b1f (by rw [← ex74, (show x74 = 0 from by first | exact c75 | exact Classical.byContradiction c75)]; decide), Int64.mul_zero, hjx]) (by focus ((try clear hA1); (try clear hAL); (try clear hCL); (try clear hCt); (try clear ih); (try clear hWy); (try clear hjx); (try clear g22); (try clear p44); (try clear hhe); (try clear eSt); (try clear eSz); (try clear eAc); (try clear eKo); (try clear e84); (try clear e74); (try clear hC44); (try clear hW44); (try clear hx74); (try clear ex74); simp only [vp_in_iff, Int32.lt_iff_toInt_lt, Int32.le_iff_toInt_le, ← Int32.toInt_inj, Int32.toInt_add, Int32.toInt_sub, Int32.toInt_mul, Int32.toInt_neg, pq_NuO, pq_NuI, pq_NuJ, pq_NuR, pq_shr6, pq_shr7, pq_shr8, lqm1, lq0, lq1] at *; (try simp (disch := omega) only [pq_bm] at *); all_goals omega)) (by focus ((try clear hA1); (try clear hAL); (try clear hCL); (try clear hCt); (try clear ih); (try clear hWy); (try clear hjx); (try clear g22); (try clear p44); (try clear hhe); (try clear eSt); (try clear eSz); (try clear eAc); (try clear eKo); (try clear e84); (try clear e74); (try clear hC44); (try clear hW44); (try clear hx74); (try clear ex74); simp only [vp_in_iff, Int32.lt_iff_toInt_lt, Int32.le_iff_toInt_le, ← Int32.toInt_inj, Int32.toInt_add, Int32.toInt_sub, Int32.toInt_mul, Int32.toInt_neg, pq_NuO, pq_NuI, pq_NuJ, pq_NuR, pq_shr6, pq_shr7, pq_shr8, lqm1, lq0, lq1] at *; (try simp (disch := omega) only [pq_bm] at *); all_goals omega)) (by focus ((try clear hA1); (try clear hAL); (try clear hCL); (try clear hCt); (try clear ih); (try clear hWy); (try clear hjx); (try clear g22); (try clear p44); (try clear hhe); (try clear eSt); (try clear eSz); (try clear eAc); (try clear eKo); (try clear e84); (try clear e74); (try clear hC44); (try clear hW44); (try clear hx74); (try clear ex74); simp only [vp_in_iff, Int32.lt_iff_toInt_lt, Int32.le_iff_toInt_le, ← Int32.toInt_inj, Int32.toInt_add, Int32.toInt_sub, Int32.toInt_mul, Int32.toInt_neg, pq_NuO, pq_NuI, pq_NuJ, pq_NuR, pq_shr6, pq_shr7, pq_shr8, lqm1, lq0, lq1] at *; (try simp (disch := omega) only [pq_bm] at *); all_goals omega)))
        · skip
          have hx74 : x74 = 1 := (by rcases hA1.a.2.2.2.1 kn (by focus ((try clear hA1); (try clear hAL); (try clear hCL); (try clear hCt); (try clear ih); (try clear hWy); (try clear hjx); (try clear g22); (try clear p44); (try clear hhe); (try clear eSt); (try clear eSz); (try clear eAc); (try clear eKo); (try clear e84); (try clear e74); (try clear hC44); (try clear hW44); (try clear hx74); (try clear ex74); simp only [vp_in_iff, Int32.lt_iff_toInt_lt, Int32.le_iff_toInt_le, ← Int32.toInt_inj, Int32.toInt_add, Int32.toInt_sub, Int32.toInt_mul, Int32.toInt_neg, pq_NuO, pq_NuI, pq_NuJ, pq_NuR, pq_shr6, pq_shr7, pq_shr8, lqm1, lq0, lq1] at *; (try simp (disch := omega) only [pq_bm] at *); all_goals omega)) with w9 | w9; (exfalso; rw [← ex74] at w9; first | exact c75 w9 | exact absurd w9 c75); (rw [ex74]; exact w9))
          refine pq_aload_n F dX1_textsOf_78 rfl rfl ?_
          refine pq_get F haL (by decide) lk_X1_9 hCL.1 dX1_textsOf_79 ?_
          refine pq_iload F dX1_textsOf_82 rfl ?_
          refine pq_lald F hCL.2.1 (by decide) (by decide) rfl (fun n1_84 n2_84 => (by focus ((try clear hA1); (try clear hAL); (try clear hCL); (try clear hCt); (try clear ih); (try clear hWy); (try clear hjx); (try clear g22); (try clear p44); (try clear hhe); (try clear eSt); (try clear eSz); (try clear eAc); (try clear eKo); (try clear e84); (try clear e74); (try clear hC44); (try clear hW44); (try clear hx74); (try clear ex74); simp only [vp_in_iff, Int32.lt_iff_toInt_lt, Int32.le_iff_toInt_le, ← Int32.toInt_inj, Int32.toInt_add, Int32.toInt_sub, Int32.toInt_mul, Int32.toInt_neg, pq_NuO, pq_NuI, pq_NuJ, pq_NuR, pq_shr6, pq_shr7, pq_shr8, lqm1, lq0, lq1] at *; (try simp (disch := omega) only [pq_bm] at *); all_goals omega))) dX1_textsOf_84 (fun x84 e84 => ?_)
          refine pq_goto (tgt := 89) F dX1_textsOf_85 (by decide) ?_
          refine pq_ladd F dX1_textsOf_89 ?_
          refine pq_lstore_n F dX1_textsOf_90 rfl (by decide) ?_
          refine pq_iinc (v := 1) F dX1_textsOf_91 rfl (by decide) (by decide) ?_
          refine pq_goto (tgt := 58) F dX1_textsOf_94 (by decide) ?_
          exact pq_fgm [true, true, true, true, false, true] (ih _ _ _ (kn + 1) hF hCL hWy (by rw [tk_ac1S, tk_b1t (by rw [← ex74]; exact hx74), Int64.mul_one, hjx, e84, tk_ix hkn]) (by focus ((try clear hA1); (try clear hAL); (try clear hCL); (try clear hCt); (try clear ih); (try clear hWy); (try clear hjx); (try clear g22); (try clear p44); (try clear hhe); (try clear eSt); (try clear eSz); (try clear eAc); (try clear eKo); (try clear e84); (try clear e74); (try clear hC44); (try clear hW44); (try clear hx74); (try clear ex74); simp only [vp_in_iff, Int32.lt_iff_toInt_lt, Int32.le_iff_toInt_le, ← Int32.toInt_inj, Int32.toInt_add, Int32.toInt_sub, Int32.toInt_mul, Int32.toInt_neg, pq_NuO, pq_NuI, pq_NuJ, pq_NuR, pq_shr6, pq_shr7, pq_shr8, lqm1, lq0, lq1] at *; (try simp (disch := omega) only [pq_bm] at *); all_goals omega)) (by focus ((try clear hA1); (try clear hAL); (try clear hCL); (try clear hCt); (try clear ih); (try clear hWy); (try clear hjx); (try clear g22); (try clear p44); (try clear hhe); (try clear eSt); (try clear eSz); (try clear eAc); (try clear eKo); (try clear e84); (try clear e74); (try clear hC44); (try clear hW44); (try clear hx74); (try clear ex74); simp only [vp_in_iff, Int32.lt_iff_toInt_lt, Int32.le_iff_toInt_le, ← Int32.toInt_inj, Int32.toInt_add, Int32.toInt_sub, Int32.toInt_mul, Int32.toInt_neg, pq_NuO, pq_NuI, pq_NuJ, pq_NuR, pq_shr6, pq_shr7, pq_shr8, lqm1, lq0, lq1] at *; (try simp (disch := omega) only [pq_bm] at *); all_goals omega)) (by focus ((try clear hA1); (try clear hAL); (try clear hCL); (try clear hCt); (try clear ih); (try clear hWy); (try clear hjx); (try clear g22); (try clear p44); (try clear hhe); (try clear eSt); (try clear eSz); (try clear eAc); (try clear eKo); (try clear e84); (try clear e74); (try clear hC44); (try clear hW44); (try clear hx74); (try clear ex74); simp only [vp_in_iff, Int32.lt_iff_toInt_lt, Int32.le_iff_toInt_le, ← Int32.toInt_inj, Int32.toInt_add, Int32.toInt_sub, Int32.toInt_mul, Int32.toInt_neg, pq_NuO, pq_NuI, pq_NuJ, pq_NuR, pq_shr6, pq_shr7, pq_shr8, lqm1, lq0, lq1] at *; (try simp (disch := omega) only [pq_bm] at *); all_goals omega)))
  have L37 : ∀  (fu : Nat) (S1 : HS) (k : Int32) (kn v1 v2 : Nat) (hF : pq_Fr [(189, 0), (4, 0), (4, 1)] S S1) (hCL : tk_Ct S1 a v1 v2) (hWy : tk_Wy (hJ S1 v1) (hI S ko) (hI S st) (hI S ac) n sn (lN - kn) (tk_ct lN L)) (hkn : k.toInt = (kn : Int)) (hk1 : kn ≤ lN), (12 - k.toInt).toNat < fu → pq_At p l e (pq_rm 3 0 0) s m args below meth c (pq_Z below args s D cy S 0 0 (fun v S2 => pq_Fr [(189, 0), (4, 0), (4, 1)] S S2 ∧ ∃ x : Int64, v = some (.long x) ∧ (x = tk_ct lN L ∧ ∃ v1 v2 : Nat, tk_Ct S2 a v1 v2))) D cy A 6 0 0 37 S1 [some (.ref a), some (.ref tt), some (.int ln), some (.int k), none, none] [] := by
    intro  fu
    induction fu with
    | zero => intro S1 k kn v1 v2 hF hCL hWy hkn hk1 hm; exact absurd hm (Nat.not_lt_zero _)
    | succ fu ih =>
      intro S1 k kn v1 v2 hF hCL hWy hkn hk1 hm
      have haL := hF.R ha (by first | decide | omega)
      have httL := hF.R htt (by first | decide | omega)
      have hAL := hA1.fr htt (by decide) (by decide) hF (by decide)
      have eSt : hI S1 st = hI S st := hF.I hA1.r3 (by decide) (by decide)
      have eSz : hI S1 sz = hI S sz := hF.I hA1.r1 (by decide) (by decide)
      have eAc : hI S1 ac = hI S ac := hF.I hA1.r2 (by decide) (by decide)
      have hNL : hN S1 st = hN S st := (hF.1 st 152 hA1.r3 (by decide)).2
      have eKo : hI S1 ko = hI S ko := hF.I hA1.r0 (by decide) (by decide)
      refine pq_iload_n F dX1_textsOf_37 rfl rfl ?_
      refine pq_iload_n F dX1_textsOf_38 rfl rfl ?_
      refine pq_icmp_ge (tgt := 53) F dX1_textsOf_39 (by decide) (fun c39 => ?_) (fun c39 => ?_)
      · skip
        refine pq_lconst (v := 0) F dX1_textsOf_53 (by decide) ?_
        refine pq_lstore_n F dX1_textsOf_54 rfl (by decide) ?_
        refine pq_iconst (v := 0) F dX1_textsOf_55 (by decide) ?_
        refine pq_istore F dX1_textsOf_56 (by decide) ?_
        exact pq_fgm [true, true, true, true, false, true] (L58 v1 v2 1000 _ _ _ 0 hF hCL (by have e9 : lN - kn = 0 := (by clear hWy; focus ((try clear hA1); (try clear hAL); (try clear hCL); (try clear hCt); (try clear ih); (try clear hWy); (try clear hjx); (try clear g22); (try clear p44); (try clear hhe); (try clear eSt); (try clear eSz); (try clear eAc); (try clear eKo); (try clear e84); (try clear e74); (try clear hC44); (try clear hW44); (try clear hx74); (try clear ex74); simp only [vp_in_iff, Int32.lt_iff_toInt_lt, Int32.le_iff_toInt_le, ← Int32.toInt_inj, Int32.toInt_add, Int32.toInt_sub, Int32.toInt_mul, Int32.toInt_neg, pq_NuO, pq_NuI, pq_NuJ, pq_NuR, pq_shr6, pq_shr7, pq_shr8, lqm1, lq0, lq1] at *; (try simp (disch := omega) only [pq_bm] at *); all_goals omega)); rw [e9] at hWy; exact hWy) rfl rfl (Nat.zero_le _) (by focus ((try clear hA1); (try clear hAL); (try clear hCL); (try clear hCt); (try clear ih); (try clear hWy); (try clear hjx); (try clear g22); (try clear p44); (try clear hhe); (try clear eSt); (try clear eSz); (try clear eAc); (try clear eKo); (try clear e84); (try clear e74); (try clear hC44); (try clear hW44); (try clear hx74); (try clear ex74); simp only [vp_in_iff, Int32.lt_iff_toInt_lt, Int32.le_iff_toInt_le, ← Int32.toInt_inj, Int32.toInt_add, Int32.toInt_sub, Int32.toInt_mul, Int32.toInt_neg, pq_NuO, pq_NuI, pq_NuJ, pq_NuR, pq_shr6, pq_shr7, pq_shr8, lqm1, lq0, lq1] at *; (try simp (disch := omega) only [pq_bm] at *); all_goals omega)))
      · skip
        refine pq_aload_n F dX1_textsOf_42 rfl rfl ?_
        refine pq_aload_n F dX1_textsOf_43 rfl rfl ?_
        refine pq_callV (As := [_]) F (k_X1_lengthenGA l D cy _ _ ?_ _ ?_ ko sz st ac n sn s0 ni si i0 he L hAL v1 v2 hCL) ml_X1_34 haL (by decide) rfl (Nat.le_of_ble_eq_true rfl) ⟨Nat.le_of_ble_eq_true rfl, Nat.le_of_ble_eq_true rfl⟩ ⟨by decide, by decide⟩ dX1_textsOf_44 (fun v44 S44 w44 => ?_)
        · exact haL
        · exact httL
        obtain ⟨rfl, hF44, p44⟩ := w44
        have haL_44 := (hF44.1 _ _ haL (by decide)).1
        have httL_44 := (hF44.1 _ _ httL (by decide)).1
        have hz_44 := (hF44.1 _ _ hAL.r1 (by decide)).1
        have ec44_1_httL_44 := hF44.O httL (by decide) (by decide) hAL.e1
        have hz_44z := (hF44.1 _ _ hAL.r2 (by decide)).1
        have ec44_2_httL_44 := hF44.O httL (by decide) (by decide) hAL.e2
        have hz_44zz := (hF44.1 _ _ hAL.r3 (by decide)).1
        have ec44_3_httL_44 := hF44.O httL (by decide) (by decide) hAL.e3
        have ec44_4_httL_44 := hF44.O httL (by decide) (by decide) hAL.e4
        have ec44_5_httL_44 := hF44.O httL (by decide) (by decide) hAL.e5
        have ec44_6_httL_44 := hF44.O httL (by decide) (by decide) hAL.e6
        have ec44_7_httL_44 := hF44.O httL (by decide) (by decide) hAL.e7
        obtain ⟨hC44, hL44⟩ := p44
        rw [eSt, eSz] at hL44
        have hW44 : tk_Wy (hJ S44 v2) (hI S ko) (hI S st) (hI S ac) n sn (lN - (kn + 1)) (tk_ct lN L) := (by have e9 : lN - kn = (lN - (kn + 1)) + 1 := (by clear hL44; focus ((try clear hA1); (try clear hAL); (try clear hCL); (try clear hCt); (try clear ih); (try clear hWy); (try clear hjx); (try clear g22); (try clear p44); (try clear hhe); (try clear eSt); (try clear eSz); (try clear eAc); (try clear eKo); (try clear e84); (try clear e74); (try clear hC44); (try clear hW44); (try clear hx74); (try clear ex74); simp only [vp_in_iff, Int32.lt_iff_toInt_lt, Int32.le_iff_toInt_le, ← Int32.toInt_inj, Int32.toInt_add, Int32.toInt_sub, Int32.toInt_mul, Int32.toInt_neg, pq_NuO, pq_NuI, pq_NuJ, pq_NuR, pq_shr6, pq_shr7, pq_shr8, lqm1, lq0, lq1] at *; (try simp (disch := omega) only [pq_bm] at *); all_goals omega)); rw [e9] at hWy; exact hWy.go hA1.a hA1.z hL44)
        refine pq_iinc (v := 1) F dX1_textsOf_47 rfl (by decide) (by decide) ?_
        refine pq_goto (tgt := 37) F dX1_textsOf_50 (by decide) ?_
        exact pq_fgm [true, true, true, true, false, false] (ih _ _ (kn + 1) v2 v1 (hF.cm hF44 (by decide)) hC44 hW44 (by focus ((try clear hA1); (try clear hAL); (try clear hCL); (try clear hCt); (try clear ih); (try clear hWy); (try clear hjx); (try clear g22); (try clear p44); (try clear hhe); (try clear eSt); (try clear eSz); (try clear eAc); (try clear eKo); (try clear e84); (try clear e74); (try clear hC44); (try clear hW44); (try clear hx74); (try clear ex74); simp only [vp_in_iff, Int32.lt_iff_toInt_lt, Int32.le_iff_toInt_le, ← Int32.toInt_inj, Int32.toInt_add, Int32.toInt_sub, Int32.toInt_mul, Int32.toInt_neg, pq_NuO, pq_NuI, pq_NuJ, pq_NuR, pq_shr6, pq_shr7, pq_shr8, lqm1, lq0, lq1] at *; (try simp (disch := omega) only [pq_bm] at *); all_goals omega)) (by focus ((try clear hA1); (try clear hAL); (try clear hCL); (try clear hCt); (try clear ih); (try clear hWy); (try clear hjx); (try clear g22); (try clear p44); (try clear hhe); (try clear eSt); (try clear eSz); (try clear eAc); (try clear eKo); (try clear e84); (try clear e74); (try clear hC44); (try clear hW44); (try clear hx74); (try clear ex74); simp only [vp_in_iff, Int32.lt_iff_toInt_lt, Int32.le_iff_toInt_le, ← Int32.toInt_inj, Int32.toInt_add, Int32.toInt_sub, Int32.toInt_mul, Int32.toInt_neg, pq_NuO, pq_NuI, pq_NuJ, pq_NuR, pq_shr6, pq_shr7, pq_shr8, lqm1, lq0, lq1] at *; (try simp (disch := omega) only [pq_bm] at *); all_goals omega)) (by focus ((try clear hA1); (try clear hAL); (try clear hCL); (try clear hCt); (try clear ih); (try clear hWy); (try clear hjx); (try clear g22); (try clear p44); (try clear hhe); (try clear eSt); (try clear eSz); (try clear eAc); (try clear eKo); (try clear e84); (try clear e74); (try clear hC44); (try clear hW44); (try clear hx74); (try clear ex74); simp only [vp_in_iff, Int32.lt_iff_toInt_lt, Int32.le_iff_toInt_le, ← Int32.toInt_inj, Int32.toInt_add, Int32.toInt_sub, Int32.toInt_mul, Int32.toInt_neg, pq_NuO, pq_NuI, pq_NuJ, pq_NuR, pq_shr6, pq_shr7, pq_shr8, lqm1, lq0, lq1] at *; (try simp (disch := omega) only [pq_bm] at *); all_goals omega)))
  refine pq_iload_n F dX1_textsOf_0 rfl rfl ?_
  refine pq_if_ne (tgt := 17) F dX1_textsOf_1 (by decide) (fun c1 => ?_) (fun c1 => ?_)
  · skip
    refine pq_aload_n F dX1_textsOf_17 rfl rfl ?_
    refine pq_get F ha (by decide) lk_X1_9 hCt.1 dX1_textsOf_18 ?_
    refine pq_lconst (v := 0) F dX1_textsOf_21 (by decide) ?_
    refine pq_lenF hCt.2.1 (by decide) rfl (fun lna22_0 lnb22_0 => ?_)
    refine pq_callS (As := [_, _]) F (k_J7_fill_d0a16 l D cy _ _ 189 ?_ ?_ ?_ _ ?_) ml_X1_24 (Nat.le_of_ble_eq_true rfl) ⟨Nat.le_of_ble_eq_true rfl, Nat.le_of_ble_eq_true rfl⟩ ⟨by decide, by decide⟩ dX1_textsOf_22 (fun v22 S22 w22 => ?_)
    · exact hCt.2.1
    · first | decide | omega
    · first | decide | omega
    · focus ((try clear hA1); (try clear hAL); (try clear hCL); (try clear hCt); (try clear ih); (try clear hWy); (try clear hjx); (try clear g22); (try clear p44); (try clear hhe); (try clear eSt); (try clear eSz); (try clear eAc); (try clear eKo); (try clear e84); (try clear e74); (try clear hC44); (try clear hW44); (try clear hx74); (try clear ex74); simp only [vp_in_iff, Int32.lt_iff_toInt_lt, Int32.le_iff_toInt_le, ← Int32.toInt_inj, Int32.toInt_add, Int32.toInt_sub, Int32.toInt_mul, Int32.toInt_neg, pq_NuO, pq_NuI, pq_NuJ, pq_NuR, pq_shr6, pq_shr7, pq_shr8, lqm1, lq0, lq1] at *; (try simp (disch := omega) only [pq_bm] at *); all_goals omega)
    obtain ⟨rfl, f22, rfl, g22⟩ := w22
    refine pq_aload_n F dX1_textsOf_25 rfl rfl ?_
    refine pq_get F ha (by decide) lk_X1_9 hCt.1 dX1_textsOf_26 ?_
    refine pq_aload_n F dX1_textsOf_29 rfl rfl ?_
    refine pq_get F htt (by decide) lk_X1_30 hA1.e6 dX1_textsOf_30 ?_
    refine pq_lconst (v := 1) F dX1_textsOf_33 (by decide) ?_
    refine pq_last F hCt.2.1 (by decide) (by decide) rfl (fun n1_34 n2_34 => (by focus ((try clear hA1); (try clear hAL); (try clear hCL); (try clear hCt); (try clear ih); (try clear hWy); (try clear hjx); (try clear g22); (try clear p44); (try clear hhe); (try clear eSt); (try clear eSz); (try clear eAc); (try clear eKo); (try clear e84); (try clear e74); (try clear hC44); (try clear hW44); (try clear hx74); (try clear ex74); simp only [vp_in_iff, Int32.lt_iff_toInt_lt, Int32.le_iff_toInt_le, ← Int32.toInt_inj, Int32.toInt_add, Int32.toInt_sub, Int32.toInt_mul, Int32.toInt_neg, pq_NuO, pq_NuI, pq_NuJ, pq_NuR, pq_shr6, pq_shr7, pq_shr8, lqm1, lq0, lq1] at *; (try simp (disch := omega) only [pq_bm] at *); all_goals omega))) dX1_textsOf_34 ?_
    refine pq_iconst (v := 0) F dX1_textsOf_35 (by decide) ?_
    refine pq_istore_n F dX1_textsOf_36 rfl (by decide) ?_
    exact pq_fgm [true, true, true, true, false, false] (L37 1000 _ _ 0 w1 w2 ((pq_Fr.rf.uJ hCt.2.1 (by first | decide | exact List.mem_cons_self)).uJ hCt.2.1 (by first | decide | exact List.mem_cons_self)) hCt (by simp only [pq_IuO, pq_IuJ, pq_Iu, pq_JuO, pq_JuI, pq_Ju, pq_RuO, pq_RuJ, pq_RuI, if_true, if_false]; rw [Nat.sub_zero, tk_ix hn3]; exact tk_Wy.beg hA1.a pk_uLs (fun i hi hne => (by rw [pk_uLn hne]; exact g22 i (by omega))) (by clear g22; focus ((try clear hA1); (try clear hAL); (try clear hCL); (try clear hCt); (try clear ih); (try clear hWy); (try clear hjx); (try clear g22); (try clear p44); (try clear hhe); (try clear eSt); (try clear eSz); (try clear eAc); (try clear eKo); (try clear e84); (try clear e74); (try clear hC44); (try clear hW44); (try clear hx74); (try clear ex74); simp only [vp_in_iff, Int32.lt_iff_toInt_lt, Int32.le_iff_toInt_le, ← Int32.toInt_inj, Int32.toInt_add, Int32.toInt_sub, Int32.toInt_mul, Int32.toInt_neg, pq_NuO, pq_NuI, pq_NuJ, pq_NuR, pq_shr6, pq_shr7, pq_shr8, lqm1, lq0, lq1] at *; (try simp (disch := omega) only [pq_bm] at *); all_goals omega))) rfl (Nat.zero_le _) (by focus ((try clear hA1); (try clear hAL); (try clear hCL); (try clear hCt); (try clear ih); (try clear hWy); (try clear hjx); (try clear g22); (try clear p44); (try clear hhe); (try clear eSt); (try clear eSz); (try clear eAc); (try clear eKo); (try clear e84); (try clear e74); (try clear hC44); (try clear hW44); (try clear hx74); (try clear ex74); simp only [vp_in_iff, Int32.lt_iff_toInt_lt, Int32.le_iff_toInt_le, ← Int32.toInt_inj, Int32.toInt_add, Int32.toInt_sub, Int32.toInt_mul, Int32.toInt_neg, pq_NuO, pq_NuI, pq_NuJ, pq_NuR, pq_shr6, pq_shr7, pq_shr8, lqm1, lq0, lq1] at *; (try simp (disch := omega) only [pq_bm] at *); all_goals omega)))
  · skip
    refine pq_aload_n F dX1_textsOf_4 rfl rfl ?_
    refine pq_get F htt (by decide) lk_X1_18 hA1.e7 dX1_textsOf_5 ?_
    refine pq_if_eq (tgt := 15) F dX1_textsOf_8 (by decide) (fun c8 => ?_) (fun c8 => ?_)
    · skip
      refine pq_lconst (v := 0) F dX1_textsOf_15 (by decide) ?_
      exact pq_lret F hr hlk hA (Nat.le_refl _) (Nat.le_refl _) ((by have e9 : lN = 0 := (by focus ((try clear hA1); (try clear hAL); (try clear hCL); (try clear hCt); (try clear ih); (try clear hWy); (try clear hjx); (try clear g22); (try clear p44); (try clear hhe); (try clear eSt); (try clear eSz); (try clear eAc); (try clear eKo); (try clear e84); (try clear e74); (try clear hC44); (try clear hW44); (try clear hx74); (try clear ex74); simp only [vp_in_iff, Int32.lt_iff_toInt_lt, Int32.le_iff_toInt_le, ← Int32.toInt_inj, Int32.toInt_add, Int32.toInt_sub, Int32.toInt_mul, Int32.toInt_neg, pq_NuO, pq_NuI, pq_NuJ, pq_NuR, pq_shr6, pq_shr7, pq_shr8, lqm1, lq0, lq1] at *; (try simp (disch := omega) only [pq_bm] at *); all_goals omega)); rw [e9]; refine ⟨pq_Fr.rf, _, rfl, ?_, w1, w2, hCt⟩; rw [tk_ct0]; exact (tk_b1f (fun w9 => (by have w8 := hA1.a.2.2.2.2.2.1.mpr w9; first | (rw [c8] at w8; exact absurd w8 (by decide)) | exact absurd w8 (by rw [show he = 0 from c8]; decide)))).symm)) dX1_textsOf_16
    · skip
      refine pq_lconst (v := 1) F dX1_textsOf_11 (by decide) ?_
      refine pq_goto (tgt := 16) F dX1_textsOf_12 (by decide) ?_
      exact pq_lret F hr hlk hA (Nat.le_refl _) (Nat.le_refl _) ((by have e9 : lN = 0 := (by focus ((try clear hA1); (try clear hAL); (try clear hCL); (try clear hCt); (try clear ih); (try clear hWy); (try clear hjx); (try clear g22); (try clear p44); (try clear hhe); (try clear eSt); (try clear eSz); (try clear eAc); (try clear eKo); (try clear e84); (try clear e74); (try clear hC44); (try clear hW44); (try clear hx74); (try clear ex74); simp only [vp_in_iff, Int32.lt_iff_toInt_lt, Int32.le_iff_toInt_le, ← Int32.toInt_inj, Int32.toInt_add, Int32.toInt_sub, Int32.toInt_mul, Int32.toInt_neg, pq_NuO, pq_NuI, pq_NuJ, pq_NuR, pq_shr6, pq_shr7, pq_shr8, lqm1, lq0, lq1] at *; (try simp (disch := omega) only [pq_bm] at *); all_goals omega)); rw [e9]; refine ⟨pq_Fr.rf, _, rfl, ?_, w1, w2, hCt⟩; rw [tk_ct0]; exact (tk_b1t (hA1.a.2.2.2.2.2.1.mp (hhe.resolve_left c8))).symm)) dX1_textsOf_16

set_option maxHeartbeats 4000000 in
set_option maxRecDepth 100000 in
theorem k_X1_lengthenGB (l : Launch) (D : va_G) (cy : Nat → ClassId) (S : HS) (a : Nat) (ha : pq_R S a 4) (tt : Nat) (htt : pq_R S tt 33) (ko sz st ac n sn s0 : Nat) (ni si i0 he : Int32) (L : List Nat → Prop) (hA1 : tk_Ap S tt 153 154 155 207 ko sz st ac n sn s0 ni si i0 he L) (w1 w2 : Nat) (hCt : tk_Ct S a w1 w2) : pq_C l D cy yX1_lengthen cX1_lengthen 4 (none) 2 0 0 S [.ref a, .ref tt] (fun v S2 => v = none ∧ pq_Fr [(189, 0), (4, 0), (4, 1)] S S2 ∧ (tk_Ct S2 a w2 w1 ∧ tk_Lu (hJ S2 w2) (hJ S w1) (hI S st) (hI S sz) n sn sn)) := by
  refine pq_start (by decide) (Nat.le_of_ble_eq_true rfl) ?_
  intro p e s m args below meth c A F hr hlk hnm hA
  have lqm1 : (-1 : Int32).toInt = -1 := rfl
  have lq0 : (0 : Int32).toInt = 0 := rfl
  have lq1 : (1 : Int32).toInt = 1 := rfl
  obtain ⟨hn1, hn2, hn3⟩ := hA1.nn
  obtain ⟨hb1, hb2, hb3, hb4⟩ := hA1.b
  refine pq_lenF hCt.2.2.2.1 (by decide) rfl (fun lw1 lw2 => ?_)
  refine pq_lenF hCt.2.1 (by decide) rfl (fun lv1 lv2 => ?_)
  have L20 : ∀ (k : Int32) (kn : Nat) (hkn : k.toInt = (kn : Int)) (hk1 : kn < sn) (K : ∀ (S2 : HS) (hF2 : pq_Fr [(189, 0), (4, 0), (4, 1)] S S2) (hC2 : tk_Ct S2 a w1 w2) (hw2 : hJ S2 w1 = hJ S w1) (hLu2 : tk_Lu (hJ S2 w2) (hJ S w1) (hI S st) (hI S sz) n sn (kn + 1)), pq_At p l e (pq_rm 2 0 0) s m args below meth c (pq_Z below args s D cy S 0 0 (fun v S2 => v = none ∧ pq_Fr [(189, 0), (4, 0), (4, 1)] S S2 ∧ (tk_Ct S2 a w2 w1 ∧ tk_Lu (hJ S2 w2) (hJ S w1) (hI S st) (hI S sz) n sn sn))) D cy A 4 0 0 80 S2 [some (.ref a), some (.ref tt), some (.int k), none] []) (fu : Nat) (S1 : HS) (q9 : Int32) (qn : Nat) (hF : pq_Fr [(189, 0), (4, 0), (4, 1)] S S1) (hCL : tk_Ct S1 a w1 w2) (hw9 : hJ S1 w1 = hJ S w1) (hLt : tk_Lt (hJ S1 w2) (hJ S w1) (hI S st) (hI S sz) n sn kn qn) (hqn : q9.toInt = (qn : Int)) (hq1 : qn ≤ n), (128 - q9.toInt).toNat < fu → pq_At p l e (pq_rm 2 0 0) s m args below meth c (pq_Z below args s D cy S 0 0 (fun v S2 => v = none ∧ pq_Fr [(189, 0), (4, 0), (4, 1)] S S2 ∧ (tk_Ct S2 a w2 w1 ∧ tk_Lu (hJ S2 w2) (hJ S w1) (hI S st) (hI S sz) n sn sn))) D cy A 4 0 0 20 S1 [some (.ref a), some (.ref tt), some (.int k), some (.int q9)] [] := by
    intro k kn hkn hk1 K fu
    induction fu with
    | zero => intro S1 q9 qn hF hCL hw9 hLt hqn hq1 hm; exact absurd hm (Nat.not_lt_zero _)
    | succ fu ih =>
      intro S1 q9 qn hF hCL hw9 hLt hqn hq1 hm
      have haL := hF.R ha (by first | decide | omega)
      have httL := hF.R htt (by first | decide | omega)
      have hAL := hA1.fr htt (by decide) (by decide) hF (by decide)
      have eSt : hI S1 st = hI S st := hF.I hA1.r3 (by decide) (by decide)
      have eSz : hI S1 sz = hI S sz := hF.I hA1.r1 (by decide) (by decide)
      have eAc : hI S1 ac = hI S ac := hF.I hA1.r2 (by decide) (by decide)
      have hNL : hN S1 st = hN S st := (hF.1 st 155 hA1.r3 (by decide)).2
      have hm9 : n * kn + n ≤ sn * n := (by have w : n * (kn + 1) ≤ n * sn := Nat.mul_le_mul_left n hk1; rw [Nat.mul_add, Nat.mul_one, Nat.mul_comm n sn] at w; exact w)
      have hm8 : sn * n ≤ 201 * 128 := Nat.mul_le_mul hb3 hb2
      have hm7 : k.toInt * ni.toInt = ((n * kn : Nat) : Int) := (by rw [hkn, hn1, Int.natCast_mul, Int.mul_comm])
      refine pq_lenF hCL.2.2.2.1 (by decide) rfl (fun lw3 lw4 => ?_)
      refine pq_lenF hCL.2.1 (by decide) rfl (fun lv3 lv4 => ?_)
      refine pq_iload_n F dX1_lengthen_20 rfl rfl ?_
      refine pq_aload_n F dX1_lengthen_21 rfl rfl ?_
      refine pq_get F httL (by decide) lk_X1_45 hAL.e4 dX1_lengthen_22 ?_
      refine pq_icmp_ge (tgt := 80) F dX1_lengthen_25 (by decide) (fun c25 => ?_) (fun c25 => ?_)
      · skip
        exact pq_fgm [true, true, true, false] (K _ hF hCL hw9 (by have e9 : qn = n := (by focus ((try clear hA1); (try clear hAL); (try clear hCL); (try clear hCt); (try clear K); (try clear ih); (try clear hLt); (try clear hLu); (try clear hLu5); (try clear hLu2); (try clear hw9); (try clear hw8); (try clear g5); (try clear eSt); (try clear eSz); (try clear eAc); (try clear e57); (try clear e63); (try clear e55); (try clear e69); (try clear e33); (try clear hC5); (try clear hw5); simp only [vp_in_iff, Int32.lt_iff_toInt_lt, Int32.le_iff_toInt_le, ← Int32.toInt_inj, Int32.toInt_add, Int32.toInt_sub, Int32.toInt_mul, Int32.toInt_neg, pq_NuO, pq_NuI, pq_NuJ, pq_NuR, pq_shr6, pq_shr7, pq_shr8, lqm1, lq0, lq1] at *; (try simp (disch := omega) only [pq_bm] at *); all_goals omega)); rw [e9] at hLt; exact hLt.row))
      · skip
        refine pq_aload_n F dX1_lengthen_28 rfl rfl ?_
        refine pq_get F haL (by decide) lk_X1_9 hCL.1 dX1_lengthen_29 ?_
        refine pq_iload_n F dX1_lengthen_32 rfl rfl ?_
        refine pq_lald F hCL.2.1 (by decide) (by decide) rfl (fun n1_33 n2_33 => (by focus ((try clear hA1); (try clear hAL); (try clear hCL); (try clear hCt); (try clear K); (try clear ih); (try clear hLt); (try clear hLu); (try clear hLu5); (try clear hLu2); (try clear hw9); (try clear hw8); (try clear g5); (try clear eSt); (try clear eSz); (try clear eAc); (try clear e57); (try clear e63); (try clear e55); (try clear e69); (try clear e33); (try clear hC5); (try clear hw5); simp only [vp_in_iff, Int32.lt_iff_toInt_lt, Int32.le_iff_toInt_le, ← Int32.toInt_inj, Int32.toInt_add, Int32.toInt_sub, Int32.toInt_mul, Int32.toInt_neg, pq_NuO, pq_NuI, pq_NuJ, pq_NuR, pq_shr6, pq_shr7, pq_shr8, lqm1, lq0, lq1] at *; (try simp (disch := omega) only [pq_bm] at *); all_goals omega))) dX1_lengthen_33 (fun x33 e33 => ?_)
        refine pq_lconst (v := 0) F dX1_lengthen_34 (by decide) ?_
        refine pq_lcmp F dX1_lengthen_35 ?_
        refine pq_if_eq (tgt := 80) F dX1_lengthen_36 (by decide) (fun c36 => ?_) (fun c36 => ?_)
        · skip
          exact pq_fgm [true, true, true, false] (K _ hF hCL hw9 (hLt.z (by have w9 := tk_cmp.mp (by first | exact c36 | exact Classical.byContradiction c36); rw [e33, hw9, tk_ix hkn] at w9; exact w9)))
        · skip
          refine pq_aload_n F dX1_lengthen_39 rfl rfl ?_
          refine pq_get F haL (by decide) lk_X1_15 hCL.2.2.1 dX1_lengthen_40 ?_
          refine pq_aload_n F dX1_lengthen_43 rfl rfl ?_
          refine pq_get F httL (by decide) lk_X1_48 hAL.e3 dX1_lengthen_44 ?_
          refine pq_iload_n F dX1_lengthen_47 rfl rfl ?_
          refine pq_aload_n F dX1_lengthen_48 rfl rfl ?_
          refine pq_get F httL (by decide) lk_X1_45 hAL.e4 dX1_lengthen_49 ?_
          refine pq_imul F dX1_lengthen_52 ?_
          refine pq_iload_n F dX1_lengthen_53 rfl rfl ?_
          refine pq_iadd F dX1_lengthen_54 ?_
          refine pq_iald F hAL.r3 (by decide) (by decide) rfl (fun n1_55 n2_55 => (by focus ((try clear hA1); (try clear hAL); (try clear hCL); (try clear hCt); (try clear K); (try clear ih); (try clear hLt); (try clear hLu); (try clear hLu5); (try clear hLu2); (try clear hw9); (try clear hw8); (try clear g5); (try clear eSt); (try clear eSz); (try clear eAc); (try clear e57); (try clear e63); (try clear e55); (try clear e69); (try clear e33); (try clear hC5); (try clear hw5); simp only [vp_in_iff, Int32.lt_iff_toInt_lt, Int32.le_iff_toInt_le, ← Int32.toInt_inj, Int32.toInt_add, Int32.toInt_sub, Int32.toInt_mul, Int32.toInt_neg, pq_NuO, pq_NuI, pq_NuJ, pq_NuR, pq_shr6, pq_shr7, pq_shr8, lqm1, lq0, lq1] at *; (try simp (disch := omega) only [pq_bm] at *); all_goals omega))) dX1_lengthen_55 (fun x55 e55 l55 u55 => ?_)
          obtain ⟨j55, hj55, ej55⟩ := hA1.a.2.1 kn qn (by omega) (by focus ((try clear hA1); (try clear hAL); (try clear hCL); (try clear hCt); (try clear K); (try clear ih); (try clear hLt); (try clear hLu); (try clear hLu5); (try clear hLu2); (try clear hw9); (try clear hw8); (try clear g5); (try clear eSt); (try clear eSz); (try clear eAc); (try clear e57); (try clear e63); (try clear e55); (try clear e69); (try clear e33); (try clear hC5); (try clear hw5); simp only [vp_in_iff, Int32.lt_iff_toInt_lt, Int32.le_iff_toInt_le, ← Int32.toInt_inj, Int32.toInt_add, Int32.toInt_sub, Int32.toInt_mul, Int32.toInt_neg, pq_NuO, pq_NuI, pq_NuJ, pq_NuR, pq_shr6, pq_shr7, pq_shr8, lqm1, lq0, lq1] at *; (try simp (disch := omega) only [pq_bm] at *); all_goals omega))
          have hix : (k * ni + q9).toInt = ((n * kn + qn : Nat) : Int) := (by focus ((try clear hA1); (try clear hAL); (try clear hCL); (try clear hCt); (try clear K); (try clear ih); (try clear hLt); (try clear hLu); (try clear hLu5); (try clear hLu2); (try clear hw9); (try clear hw8); (try clear g5); (try clear eSt); (try clear eSz); (try clear eAc); (try clear e57); (try clear e63); (try clear e55); (try clear e69); (try clear e33); (try clear hC5); (try clear hw5); simp only [vp_in_iff, Int32.lt_iff_toInt_lt, Int32.le_iff_toInt_le, ← Int32.toInt_inj, Int32.toInt_add, Int32.toInt_sub, Int32.toInt_mul, Int32.toInt_neg, pq_NuO, pq_NuI, pq_NuJ, pq_NuR, pq_shr6, pq_shr7, pq_shr8, lqm1, lq0, lq1] at *; (try simp (disch := omega) only [pq_bm] at *); all_goals omega))
          have ex55 : x55.toInt = (j55 : Int) := (by rw [e55, eSt, tk_ix hix]; exact ej55)
          refine pq_dup2 F dX1_lengthen_56 rfl rfl ?_
          refine pq_lald F hCL.2.2.2.1 (by decide) (by decide) rfl (fun n1_57 n2_57 => (by focus ((try clear hA1); (try clear hAL); (try clear hCL); (try clear hCt); (try clear K); (try clear ih); (try clear hLt); (try clear hLu); (try clear hLu5); (try clear hLu2); (try clear hw9); (try clear hw8); (try clear g5); (try clear eSt); (try clear eSz); (try clear eAc); (try clear e57); (try clear e63); (try clear e55); (try clear e69); (try clear e33); (try clear hC5); (try clear hw5); simp only [vp_in_iff, Int32.lt_iff_toInt_lt, Int32.le_iff_toInt_le, ← Int32.toInt_inj, Int32.toInt_add, Int32.toInt_sub, Int32.toInt_mul, Int32.toInt_neg, pq_NuO, pq_NuI, pq_NuJ, pq_NuR, pq_shr6, pq_shr7, pq_shr8, lqm1, lq0, lq1] at *; (try simp (disch := omega) only [pq_bm] at *); all_goals omega))) dX1_lengthen_57 (fun x57 e57 => ?_)
          refine pq_aload_n F dX1_lengthen_58 rfl rfl ?_
          refine pq_get F haL (by decide) lk_X1_9 hCL.1 dX1_lengthen_59 ?_
          refine pq_iload_n F dX1_lengthen_62 rfl rfl ?_
          refine pq_lald F hCL.2.1 (by decide) (by decide) rfl (fun n1_63 n2_63 => (by focus ((try clear hA1); (try clear hAL); (try clear hCL); (try clear hCt); (try clear K); (try clear ih); (try clear hLt); (try clear hLu); (try clear hLu5); (try clear hLu2); (try clear hw9); (try clear hw8); (try clear g5); (try clear eSt); (try clear eSz); (try clear eAc); (try clear e57); (try clear e63); (try clear e55); (try clear e69); (try clear e33); (try clear hC5); (try clear hw5); simp only [vp_in_iff, Int32.lt_iff_toInt_lt, Int32.le_iff_toInt_le, ← Int32.toInt_inj, Int32.toInt_add, Int32.toInt_sub, Int32.toInt_mul, Int32.toInt_neg, pq_NuO, pq_NuI, pq_NuJ, pq_NuR, pq_shr6, pq_shr7, pq_shr8, lqm1, lq0, lq1] at *; (try simp (disch := omega) only [pq_bm] at *); all_goals omega))) dX1_lengthen_63 (fun x63 e63 => ?_)
          refine pq_aload_n F dX1_lengthen_64 rfl rfl ?_
          refine pq_get F httL (by decide) lk_X1_52 hAL.e1 dX1_lengthen_65 ?_
          refine pq_iload_n F dX1_lengthen_68 rfl rfl ?_
          refine pq_iald F hAL.r1 (by decide) (by decide) rfl (fun n1_69 n2_69 => (by focus ((try clear hA1); (try clear hAL); (try clear hCL); (try clear hCt); (try clear K); (try clear ih); (try clear hLt); (try clear hLu); (try clear hLu5); (try clear hLu2); (try clear hw9); (try clear hw8); (try clear g5); (try clear eSt); (try clear eSz); (try clear eAc); (try clear e57); (try clear e63); (try clear e55); (try clear e69); (try clear e33); (try clear hC5); (try clear hw5); simp only [vp_in_iff, Int32.lt_iff_toInt_lt, Int32.le_iff_toInt_le, ← Int32.toInt_inj, Int32.toInt_add, Int32.toInt_sub, Int32.toInt_mul, Int32.toInt_neg, pq_NuO, pq_NuI, pq_NuJ, pq_NuR, pq_shr6, pq_shr7, pq_shr8, lqm1, lq0, lq1] at *; (try simp (disch := omega) only [pq_bm] at *); all_goals omega))) dX1_lengthen_69 (fun x69 e69 l69 u69 => ?_)
          refine pq_i2l F dX1_lengthen_70 ?_
          refine pq_lmul F dX1_lengthen_71 ?_
          refine pq_ladd F dX1_lengthen_72 ?_
          refine pq_last F hCL.2.2.2.1 (by decide) (by decide) rfl (fun n1_73 n2_73 => (by focus ((try clear hA1); (try clear hAL); (try clear hCL); (try clear hCt); (try clear K); (try clear ih); (try clear hLt); (try clear hLu); (try clear hLu5); (try clear hLu2); (try clear hw9); (try clear hw8); (try clear g5); (try clear eSt); (try clear eSz); (try clear eAc); (try clear e57); (try clear e63); (try clear e55); (try clear e69); (try clear e33); (try clear hC5); (try clear hw5); simp only [vp_in_iff, Int32.lt_iff_toInt_lt, Int32.le_iff_toInt_le, ← Int32.toInt_inj, Int32.toInt_add, Int32.toInt_sub, Int32.toInt_mul, Int32.toInt_neg, pq_NuO, pq_NuI, pq_NuJ, pq_NuR, pq_shr6, pq_shr7, pq_shr8, lqm1, lq0, lq1] at *; (try simp (disch := omega) only [pq_bm] at *); all_goals omega))) dX1_lengthen_73 ?_
          refine pq_iinc (v := 1) F dX1_lengthen_74 rfl (by decide) (by decide) ?_
          refine pq_goto (tgt := 20) F dX1_lengthen_77 (by decide) ?_
          exact pq_fgm [true, true, true, true] (ih _ _ (qn + 1) (hF.uJ hCL.2.2.2.1 (by first | decide | exact List.mem_cons_self)) hCL (by simp only [pq_IuO, pq_IuJ, pq_Iu, pq_JuO, pq_JuI, pq_Ju, pq_RuO, pq_RuJ, pq_RuI, if_true, if_false, hCL.2.2.2.2]; exact hw9) (by simp only [pq_IuO, pq_IuJ, pq_Iu, pq_JuO, pq_JuI, pq_Ju, pq_RuO, pq_RuJ, pq_RuI, if_true, if_false]; rw [tk_ix ex55]; exact hLt.up hj55 (by rw [ej55, Int.toNat_natCast]) (by rw [e57, tk_ix ex55, e63, hw9, tk_ix hkn, e69, eSz, tk_ix hqn])) (by focus ((try clear hA1); (try clear hAL); (try clear hCL); (try clear hCt); (try clear K); (try clear ih); (try clear hLt); (try clear hLu); (try clear hLu5); (try clear hLu2); (try clear hw9); (try clear hw8); (try clear g5); (try clear eSt); (try clear eSz); (try clear eAc); (try clear e57); (try clear e63); (try clear e55); (try clear e69); (try clear e33); (try clear hC5); (try clear hw5); simp only [vp_in_iff, Int32.lt_iff_toInt_lt, Int32.le_iff_toInt_le, ← Int32.toInt_inj, Int32.toInt_add, Int32.toInt_sub, Int32.toInt_mul, Int32.toInt_neg, pq_NuO, pq_NuI, pq_NuJ, pq_NuR, pq_shr6, pq_shr7, pq_shr8, lqm1, lq0, lq1] at *; (try simp (disch := omega) only [pq_bm] at *); all_goals omega)) (by focus ((try clear hA1); (try clear hAL); (try clear hCL); (try clear hCt); (try clear K); (try clear ih); (try clear hLt); (try clear hLu); (try clear hLu5); (try clear hLu2); (try clear hw9); (try clear hw8); (try clear g5); (try clear eSt); (try clear eSz); (try clear eAc); (try clear e57); (try clear e63); (try clear e55); (try clear e69); (try clear e33); (try clear hC5); (try clear hw5); simp only [vp_in_iff, Int32.lt_iff_toInt_lt, Int32.le_iff_toInt_le, ← Int32.toInt_inj, Int32.toInt_add, Int32.toInt_sub, Int32.toInt_mul, Int32.toInt_neg, pq_NuO, pq_NuI, pq_NuJ, pq_NuR, pq_shr6, pq_shr7, pq_shr8, lqm1, lq0, lq1] at *; (try simp (disch := omega) only [pq_bm] at *); all_goals omega)) (by focus ((try clear hA1); (try clear hAL); (try clear hCL); (try clear hCt); (try clear K); (try clear ih); (try clear hLt); (try clear hLu); (try clear hLu5); (try clear hLu2); (try clear hw9); (try clear hw8); (try clear g5); (try clear eSt); (try clear eSz); (try clear eAc); (try clear e57); (try clear e63); (try clear e55); (try clear e69); (try clear e33); (try clear hC5); (try clear hw5); simp only [vp_in_iff, Int32.lt_iff_toInt_lt, Int32.le_iff_toInt_le, ← Int32.toInt_inj, Int32.toInt_add, Int32.toInt_sub, Int32.toInt_mul, Int32.toInt_neg, pq_NuO, pq_NuI, pq_NuJ, pq_NuR, pq_shr6, pq_shr7, pq_shr8, lqm1, lq0, lq1] at *; (try simp (disch := omega) only [pq_bm] at *); all_goals omega)))
  have L10 : ∀  (fu : Nat) (S1 : HS) (k : Int32) (kn : Nat) (hF : pq_Fr [(189, 0), (4, 0), (4, 1)] S S1) (hCL : tk_Ct S1 a w1 w2) (hw9 : hJ S1 w1 = hJ S w1) (hLu : tk_Lu (hJ S1 w2) (hJ S w1) (hI S st) (hI S sz) n sn kn) (hkn : k.toInt = (kn : Int)) (hk1 : kn ≤ sn), (201 - k.toInt).toNat < fu → pq_At p l e (pq_rm 2 0 0) s m args below meth c (pq_Z below args s D cy S 0 0 (fun v S2 => v = none ∧ pq_Fr [(189, 0), (4, 0), (4, 1)] S S2 ∧ (tk_Ct S2 a w2 w1 ∧ tk_Lu (hJ S2 w2) (hJ S w1) (hI S st) (hI S sz) n sn sn))) D cy A 4 0 0 10 S1 [some (.ref a), some (.ref tt), some (.int k), none] [] := by
    intro  fu
    induction fu with
    | zero => intro S1 k kn hF hCL hw9 hLu hkn hk1 hm; exact absurd hm (Nat.not_lt_zero _)
    | succ fu ih =>
      intro S1 k kn hF hCL hw9 hLu hkn hk1 hm
      have haL := hF.R ha (by first | decide | omega)
      have httL := hF.R htt (by first | decide | omega)
      have hAL := hA1.fr htt (by decide) (by decide) hF (by decide)
      have eSt : hI S1 st = hI S st := hF.I hA1.r3 (by decide) (by decide)
      have eSz : hI S1 sz = hI S sz := hF.I hA1.r1 (by decide) (by decide)
      have eAc : hI S1 ac = hI S ac := hF.I hA1.r2 (by decide) (by decide)
      have hNL : hN S1 st = hN S st := (hF.1 st 155 hA1.r3 (by decide)).2
      refine pq_iload_n F dX1_lengthen_10 rfl rfl ?_
      refine pq_aload_n F dX1_lengthen_11 rfl rfl ?_
      refine pq_get F httL (by decide) lk_X1_38 hAL.e5 dX1_lengthen_12 ?_
      refine pq_icmp_ge (tgt := 86) F dX1_lengthen_15 (by decide) (fun c15 => ?_) (fun c15 => ?_)
      · skip
        refine pq_aload_n F dX1_lengthen_86 rfl rfl ?_
        refine pq_get F haL (by decide) lk_X1_9 hCL.1 dX1_lengthen_87 ?_
        refine pq_astore_n F dX1_lengthen_90 rfl (by decide) ?_
        refine pq_aload_n F dX1_lengthen_91 rfl rfl ?_
        refine pq_aload_n F dX1_lengthen_92 rfl rfl ?_
        refine pq_get F haL (by decide) lk_X1_15 hCL.2.2.1 dX1_lengthen_93 ?_
        refine pq_put F haL (by decide) lp_X1_9 rfl rfl (⟨by decide, _, rfl, hCL.2.2.2.1⟩) dX1_lengthen_96 ?_
        refine pq_aload_n F dX1_lengthen_99 rfl rfl ?_
        refine pq_aload_n F dX1_lengthen_100 rfl rfl ?_
        refine pq_put F haL (by decide) lp_X1_15 rfl rfl (⟨by decide, _, rfl, hCL.2.1⟩) dX1_lengthen_101 ?_
        exact pq_vret F hr hlk hA (Nat.le_refl _) (Nat.le_refl _) ((by have e9 : kn = sn := (by focus ((try clear hA1); (try clear hAL); (try clear hCL); (try clear hCt); (try clear K); (try clear ih); (try clear hLt); (try clear hLu); (try clear hLu5); (try clear hLu2); (try clear hw9); (try clear hw8); (try clear g5); (try clear eSt); (try clear eSz); (try clear eAc); (try clear e57); (try clear e63); (try clear e55); (try clear e69); (try clear e33); (try clear hC5); (try clear hw5); simp only [vp_in_iff, Int32.lt_iff_toInt_lt, Int32.le_iff_toInt_le, ← Int32.toInt_inj, Int32.toInt_add, Int32.toInt_sub, Int32.toInt_mul, Int32.toInt_neg, pq_NuO, pq_NuI, pq_NuJ, pq_NuR, pq_shr6, pq_shr7, pq_shr8, lqm1, lq0, lq1] at *; (try simp (disch := omega) only [pq_bm] at *); all_goals omega)); rw [e9] at hLu; exact ⟨rfl, ((hF.uO haL (by decide)).uO haL (by decide)), ⟨(pq_kp pq_ks (by decide)), hCL.2.2.2.1, pq_ks, hCL.2.1, fun w9 => hCL.2.2.2.2 w9.symm⟩, hLu⟩)) dX1_lengthen_104
      · skip
        refine pq_iconst (v := 0) F dX1_lengthen_18 (by decide) ?_
        refine pq_istore_n F dX1_lengthen_19 rfl (by decide) ?_
        refine pq_fgm [true, true, true, true] (L20 k kn hkn (by focus ((try clear hA1); (try clear hAL); (try clear hCL); (try clear hCt); (try clear K); (try clear ih); (try clear hLt); (try clear hLu); (try clear hLu5); (try clear hLu2); (try clear hw9); (try clear hw8); (try clear g5); (try clear eSt); (try clear eSz); (try clear eAc); (try clear e57); (try clear e63); (try clear e55); (try clear e69); (try clear e33); (try clear hC5); (try clear hw5); simp only [vp_in_iff, Int32.lt_iff_toInt_lt, Int32.le_iff_toInt_le, ← Int32.toInt_inj, Int32.toInt_add, Int32.toInt_sub, Int32.toInt_mul, Int32.toInt_neg, pq_NuO, pq_NuI, pq_NuJ, pq_NuR, pq_shr6, pq_shr7, pq_shr8, lqm1, lq0, lq1] at *; (try simp (disch := omega) only [pq_bm] at *); all_goals omega)) (fun S5 hF5 hC5 hw5 hLu5 => ?_) 1000 _ _ 0 hF hCL hw9 hLu.go rfl (Nat.zero_le _) (by focus ((try clear hA1); (try clear hAL); (try clear hCL); (try clear hCt); (try clear K); (try clear ih); (try clear hLt); (try clear hLu); (try clear hLu5); (try clear hLu2); (try clear hw9); (try clear hw8); (try clear g5); (try clear eSt); (try clear eSz); (try clear eAc); (try clear e57); (try clear e63); (try clear e55); (try clear e69); (try clear e33); (try clear hC5); (try clear hw5); simp only [vp_in_iff, Int32.lt_iff_toInt_lt, Int32.le_iff_toInt_le, ← Int32.toInt_inj, Int32.toInt_add, Int32.toInt_sub, Int32.toInt_mul, Int32.toInt_neg, pq_NuO, pq_NuI, pq_NuJ, pq_NuR, pq_shr6, pq_shr7, pq_shr8, lqm1, lq0, lq1] at *; (try simp (disch := omega) only [pq_bm] at *); all_goals omega)))
        have ha5 := hF5.R ha (by decide)
        have htt5 := hF5.R htt (by decide)
        refine pq_iinc (v := 1) F dX1_lengthen_80 rfl (by decide) (by decide) ?_
        refine pq_goto (tgt := 10) F dX1_lengthen_83 (by decide) ?_
        exact pq_fgm [true, true, true, false] (ih _ _ (kn + 1) hF5 hC5 hw5 hLu5 (by focus ((try clear hA1); (try clear hAL); (try clear hCL); (try clear hCt); (try clear K); (try clear ih); (try clear hLt); (try clear hLu); (try clear hLu5); (try clear hLu2); (try clear hw9); (try clear hw8); (try clear g5); (try clear eSt); (try clear eSz); (try clear eAc); (try clear e57); (try clear e63); (try clear e55); (try clear e69); (try clear e33); (try clear hC5); (try clear hw5); simp only [vp_in_iff, Int32.lt_iff_toInt_lt, Int32.le_iff_toInt_le, ← Int32.toInt_inj, Int32.toInt_add, Int32.toInt_sub, Int32.toInt_mul, Int32.toInt_neg, pq_NuO, pq_NuI, pq_NuJ, pq_NuR, pq_shr6, pq_shr7, pq_shr8, lqm1, lq0, lq1] at *; (try simp (disch := omega) only [pq_bm] at *); all_goals omega)) (by focus ((try clear hA1); (try clear hAL); (try clear hCL); (try clear hCt); (try clear K); (try clear ih); (try clear hLt); (try clear hLu); (try clear hLu5); (try clear hLu2); (try clear hw9); (try clear hw8); (try clear g5); (try clear eSt); (try clear eSz); (try clear eAc); (try clear e57); (try clear e63); (try clear e55); (try clear e69); (try clear e33); (try clear hC5); (try clear hw5); simp only [vp_in_iff, Int32.lt_iff_toInt_lt, Int32.le_iff_toInt_le, ← Int32.toInt_inj, Int32.toInt_add, Int32.toInt_sub, Int32.toInt_mul, Int32.toInt_neg, pq_NuO, pq_NuI, pq_NuJ, pq_NuR, pq_shr6, pq_shr7, pq_shr8, lqm1, lq0, lq1] at *; (try simp (disch := omega) only [pq_bm] at *); all_goals omega)) (by focus ((try clear hA1); (try clear hAL); (try clear hCL); (try clear hCt); (try clear K); (try clear ih); (try clear hLt); (try clear hLu); (try clear hLu5); (try clear hLu2); (try clear hw9); (try clear hw8); (try clear g5); (try clear eSt); (try clear eSz); (try clear eAc); (try clear e57); (try clear e63); (try clear e55); (try clear e69); (try clear e33); (try clear hC5); (try clear hw5); simp only [vp_in_iff, Int32.lt_iff_toInt_lt, Int32.le_iff_toInt_le, ← Int32.toInt_inj, Int32.toInt_add, Int32.toInt_sub, Int32.toInt_mul, Int32.toInt_neg, pq_NuO, pq_NuI, pq_NuJ, pq_NuR, pq_shr6, pq_shr7, pq_shr8, lqm1, lq0, lq1] at *; (try simp (disch := omega) only [pq_bm] at *); all_goals omega)))
  refine pq_aload_n F dX1_lengthen_0 rfl rfl ?_
  refine pq_get F ha (by decide) lk_X1_15 hCt.2.2.1 dX1_lengthen_1 ?_
  refine pq_lconst (v := 0) F dX1_lengthen_4 (by decide) ?_
  refine pq_lenF hCt.2.2.2.1 (by decide) rfl (fun lna5_0 lnb5_0 => ?_)
  refine pq_callS (As := [_, _]) F (k_J7_fill_d0a16 l D cy _ _ 189 ?_ ?_ ?_ _ ?_) ml_X1_24 (Nat.le_of_ble_eq_true rfl) ⟨Nat.le_of_ble_eq_true rfl, Nat.le_of_ble_eq_true rfl⟩ ⟨by decide, by decide⟩ dX1_lengthen_5 (fun v5 S5 w5 => ?_)
  · exact hCt.2.2.2.1
  · first | decide | omega
  · first | decide | omega
  · focus ((try clear hA1); (try clear hAL); (try clear hCL); (try clear hCt); (try clear K); (try clear ih); (try clear hLt); (try clear hLu); (try clear hLu5); (try clear hLu2); (try clear hw9); (try clear hw8); (try clear g5); (try clear eSt); (try clear eSz); (try clear eAc); (try clear e57); (try clear e63); (try clear e55); (try clear e69); (try clear e33); (try clear hC5); (try clear hw5); simp only [vp_in_iff, Int32.lt_iff_toInt_lt, Int32.le_iff_toInt_le, ← Int32.toInt_inj, Int32.toInt_add, Int32.toInt_sub, Int32.toInt_mul, Int32.toInt_neg, pq_NuO, pq_NuI, pq_NuJ, pq_NuR, pq_shr6, pq_shr7, pq_shr8, lqm1, lq0, lq1] at *; (try simp (disch := omega) only [pq_bm] at *); all_goals omega)
  obtain ⟨rfl, f5, rfl, g5⟩ := w5
  refine pq_iconst (v := 0) F dX1_lengthen_8 (by decide) ?_
  refine pq_istore_n F dX1_lengthen_9 rfl (by decide) ?_
  exact pq_fgm [true, true, true, false] (L10 1000 _ _ 0 (pq_Fr.rf.uJ hCt.2.2.2.1 (by first | decide | exact List.mem_cons_self)) hCt (by simp only [pq_IuO, pq_IuJ, pq_Iu, pq_JuO, pq_JuI, pq_Ju, pq_RuO, pq_RuJ, pq_RuI, if_true, if_false, hCt.2.2.2.2]) (tk_Lu.beg (fun i hi => (by simp only [pq_IuO, pq_IuJ, pq_Iu, pq_JuO, pq_JuI, pq_Ju, pq_RuO, pq_RuJ, pq_RuI, if_true, if_false]; exact g5 i (by omega)))) rfl (Nat.zero_le _) (by focus ((try clear hA1); (try clear hAL); (try clear hCL); (try clear hCt); (try clear K); (try clear ih); (try clear hLt); (try clear hLu); (try clear hLu5); (try clear hLu2); (try clear hw9); (try clear hw8); (try clear g5); (try clear eSt); (try clear eSz); (try clear eAc); (try clear e57); (try clear e63); (try clear e55); (try clear e69); (try clear e33); (try clear hC5); (try clear hw5); simp only [vp_in_iff, Int32.lt_iff_toInt_lt, Int32.le_iff_toInt_le, ← Int32.toInt_inj, Int32.toInt_add, Int32.toInt_sub, Int32.toInt_mul, Int32.toInt_neg, pq_NuO, pq_NuI, pq_NuJ, pq_NuR, pq_shr6, pq_shr7, pq_shr8, lqm1, lq0, lq1] at *; (try simp (disch := omega) only [pq_bm] at *); all_goals omega)))

set_option maxHeartbeats 4000000 in
set_option maxRecDepth 100000 in
theorem k_X1_textsOfGB (l : Launch) (D : va_G) (cy : Nat → ClassId) (S : HS) (a : Nat) (ha : pq_R S a 4) (tt : Nat) (htt : pq_R S tt 33) (ln : Int32) (hln0 : 0 ≤ ln.toInt) (hln1 : ln.toInt ≤ 12) (ko sz st ac n sn s0 : Nat) (ni si i0 he : Int32) (L : List Nat → Prop) (hA1 : tk_Ap S tt 153 154 155 207 ko sz st ac n sn s0 ni si i0 he L) (w1 w2 : Nat) (hCt : tk_Ct S a w1 w2) (lN : Nat) (hln : ln.toInt = (lN : Int)) : pq_C l D cy yX1_textsOf cX1_textsOf 6 (some .long) 3 0 0 S [.ref a, .ref tt, .int ln] (fun v S2 => pq_Fr [(189, 0), (4, 0), (4, 1)] S S2 ∧ ∃ x : Int64, v = some (.long x) ∧ (x = tk_ct lN L ∧ ∃ v1 v2 : Nat, tk_Ct S2 a v1 v2)) := by
  refine pq_start (by decide) (Nat.le_of_ble_eq_true rfl) ?_
  intro p e s m args below meth c A F hr hlk hnm hA
  have lqm1 : (-1 : Int32).toInt = -1 := rfl
  have lq0 : (0 : Int32).toInt = 0 := rfl
  have lq1 : (1 : Int32).toInt = 1 := rfl
  obtain ⟨hn1, hn2, hn3⟩ := hA1.nn
  obtain ⟨hb1, hb2, hb3, hb4⟩ := hA1.b
  refine pq_lenF hCt.2.1 (by decide) rfl (fun lv1 lv2 => ?_)
  have hs00 := hA1.a.2.2.1
  have hhe : he = 0 ∨ he = 1 := hA1.a.2.2.2.2.1
  have L58 : ∀ (v1 v2 : Nat) (fu : Nat) (S1 : HS) (j_tx : Int64) (k : Int32) (kn : Nat) (hF : pq_Fr [(189, 0), (4, 0), (4, 1)] S S1) (hCL : tk_Ct S1 a v1 v2) (hWy : tk_Wy (hJ S1 v1) (hI S ko) (hI S st) (hI S ac) n sn 0 (tk_ct lN L)) (hjx : j_tx = tk_ac1 (hJ S1 v1) (hI S ac) kn) (hkn : k.toInt = (kn : Int)) (hk1 : kn ≤ sn), (201 - k.toInt).toNat < fu → pq_At p l e (pq_rm 3 0 0) s m args below meth c (pq_Z below args s D cy S 0 0 (fun v S2 => pq_Fr [(189, 0), (4, 0), (4, 1)] S S2 ∧ ∃ x : Int64, v = some (.long x) ∧ (x = tk_ct lN L ∧ ∃ v1 v2 : Nat, tk_Ct S2 a v1 v2))) D cy A 6 0 0 58 S1 [some (.ref a), some (.ref tt), some (.int ln), some (.long j_tx), none, some (.int k)] [] := by
    intro v1 v2 fu
    induction fu with
    | zero => intro S1 j_tx k kn hF hCL hWy hjx hkn hk1 hm; exact absurd hm (Nat.not_lt_zero _)
    | succ fu ih =>
      intro S1 j_tx k kn hF hCL hWy hjx hkn hk1 hm
      have haL := hF.R ha (by first | decide | omega)
      have httL := hF.R htt (by first | decide | omega)
      have hAL := hA1.fr htt (by decide) (by decide) hF (by decide)
      have eSt : hI S1 st = hI S st := hF.I hA1.r3 (by decide) (by decide)
      have eSz : hI S1 sz = hI S sz := hF.I hA1.r1 (by decide) (by decide)
      have eAc : hI S1 ac = hI S ac := hF.I hA1.r2 (by decide) (by decide)
      have hNL : hN S1 st = hN S st := (hF.1 st 155 hA1.r3 (by decide)).2
      have eKo : hI S1 ko = hI S ko := hF.I hA1.r0 (by decide) (by decide)
      refine pq_lenF hCL.2.1 (by decide) rfl (fun lw3 lw4 => ?_)
      refine pq_iload F dX1_textsOf_58 rfl ?_
      refine pq_aload_n F dX1_textsOf_60 rfl rfl ?_
      refine pq_get F httL (by decide) lk_X1_38 hAL.e5 dX1_textsOf_61 ?_
      refine pq_icmp_ge (tgt := 97) F dX1_textsOf_64 (by decide) (fun c64 => ?_) (fun c64 => ?_)
      · skip
        refine pq_lload_n F dX1_textsOf_97 rfl rfl ?_
        exact pq_lret F hr hlk hA (Nat.le_refl _) (Nat.le_refl _) ((by have e9 : kn = sn := (by clear hjx; focus ((try clear hA1); (try clear hAL); (try clear hCL); (try clear hCt); (try clear ih); (try clear hWy); (try clear hjx); (try clear g22); (try clear p44); (try clear hhe); (try clear eSt); (try clear eSz); (try clear eAc); (try clear eKo); (try clear e84); (try clear e74); (try clear hC44); (try clear hW44); (try clear hx74); (try clear ex74); simp only [vp_in_iff, Int32.lt_iff_toInt_lt, Int32.le_iff_toInt_le, ← Int32.toInt_inj, Int32.toInt_add, Int32.toInt_sub, Int32.toInt_mul, Int32.toInt_neg, pq_NuO, pq_NuI, pq_NuJ, pq_NuR, pq_shr6, pq_shr7, pq_shr8, lqm1, lq0, lq1] at *; (try simp (disch := omega) only [pq_bm] at *); all_goals omega)); rw [e9] at hjx; exact ⟨hF, _, rfl, hjx.trans hWy.fin, v1, v2, hCL⟩)) dX1_textsOf_98
      · skip
        refine pq_lload_n F dX1_textsOf_67 rfl rfl ?_
        refine pq_aload_n F dX1_textsOf_68 rfl rfl ?_
        refine pq_get F httL (by decide) lk_X1_41 hAL.e2 dX1_textsOf_69 ?_
        refine pq_iload F dX1_textsOf_72 rfl ?_
        refine pq_zald F hAL.r2 (by decide) (by decide) rfl (fun n1_74 n2_74 => (by focus ((try clear hA1); (try clear hAL); (try clear hCL); (try clear hCt); (try clear ih); (try clear hWy); (try clear hjx); (try clear g22); (try clear p44); (try clear hhe); (try clear eSt); (try clear eSz); (try clear eAc); (try clear eKo); (try clear e84); (try clear e74); (try clear hC44); (try clear hW44); (try clear hx74); (try clear ex74); simp only [vp_in_iff, Int32.lt_iff_toInt_lt, Int32.le_iff_toInt_le, ← Int32.toInt_inj, Int32.toInt_add, Int32.toInt_sub, Int32.toInt_mul, Int32.toInt_neg, pq_NuO, pq_NuI, pq_NuJ, pq_NuR, pq_shr6, pq_shr7, pq_shr8, lqm1, lq0, lq1] at *; (try simp (disch := omega) only [pq_bm] at *); all_goals omega))) dX1_textsOf_74 (fun x74 e74 l74 u74 => ?_)
        have ex74 : x74 = hI S ac kn := (by rw [e74, eAc, tk_ix hkn])
        refine pq_if_eq (tgt := 88) F dX1_textsOf_75 (by decide) (fun c75 => ?_) (fun c75 => ?_)
        · skip
          refine pq_lconst (v := 0) F dX1_textsOf_88 (by decide) ?_
          refine pq_ladd F dX1_textsOf_89 ?_
          refine pq_lstore_n F dX1_textsOf_90 rfl (by decide) ?_
          refine pq_iinc (v := 1) F dX1_textsOf_91 rfl (by decide) (by decide) ?_
          refine pq_goto (tgt := 58) F dX1_textsOf_94 (by decide) ?_
          exact pq_fgm [true, true, true, true, false, true] (ih _ _ _ (kn + 1) hF hCL hWy (by rw [tk_ac1S, tk_b1f (by rw [← ex74, (show x74 = 0 from by first | exact c75 | exact Classical.byContradiction c75)]; decide), Int64.mul_zero, hjx]) (by focus ((try clear hA1); (try clear hAL); (try clear hCL); (try clear hCt); (try clear ih); (try clear hWy); (try clear hjx); (try clear g22); (try clear p44); (try clear hhe); (try clear eSt); (try clear eSz); (try clear eAc); (try clear eKo); (try clear e84); (try clear e74); (try clear hC44); (try clear hW44); (try clear hx74); (try clear ex74); simp only [vp_in_iff, Int32.lt_iff_toInt_lt, Int32.le_iff_toInt_le, ← Int32.toInt_inj, Int32.toInt_add, Int32.toInt_sub, Int32.toInt_mul, Int32.toInt_neg, pq_NuO, pq_NuI, pq_NuJ, pq_NuR, pq_shr6, pq_shr7, pq_shr8, lqm1, lq0, lq1] at *; (try simp (disch := omega) only [pq_bm] at *); all_goals omega)) (by focus ((try clear hA1); (try clear hAL); (try clear hCL); (try clear hCt); (try clear ih); (try clear hWy); (try clear hjx); (try clear g22); (try clear p44); (try clear hhe); (try clear eSt); (try clear eSz); (try clear eAc); (try clear eKo); (try clear e84); (try clear e74); (try clear hC44); (try clear hW44); (try clear hx74); (try clear ex74); simp only [vp_in_iff, Int32.lt_iff_toInt_lt, Int32.le_iff_toInt_le, ← Int32.toInt_inj, Int32.toInt_add, Int32.toInt_sub, Int32.toInt_mul, Int32.toInt_neg, pq_NuO, pq_NuI, pq_NuJ, pq_NuR, pq_shr6, pq_shr7, pq_shr8, lqm1, lq0, lq1] at *; (try simp (disch := omega) only [pq_bm] at *); all_goals omega)) (by focus ((try clear hA1); (try clear hAL); (try clear hCL); (try clear hCt); (try clear ih); (try clear hWy); (try clear hjx); (try clear g22); (try clear p44); (try clear hhe); (try clear eSt); (try clear eSz); (try clear eAc); (try clear eKo); (try clear e84); (try clear e74); (try clear hC44); (try clear hW44); (try clear hx74); (try clear ex74); simp only [vp_in_iff, Int32.lt_iff_toInt_lt, Int32.le_iff_toInt_le, ← Int32.toInt_inj, Int32.toInt_add, Int32.toInt_sub, Int32.toInt_mul, Int32.toInt_neg, pq_NuO, pq_NuI, pq_NuJ, pq_NuR, pq_shr6, pq_shr7, pq_shr8, lqm1, lq0, lq1] at *; (try simp (disch := omega) only [pq_bm] at *); all_goals omega)))
        · skip
          have hx74 : x74 = 1 := (by rcases hA1.a.2.2.2.1 kn (by focus ((try clear hA1); (try clear hAL); (try clear hCL); (try clear hCt); (try clear ih); (try clear hWy); (try clear hjx); (try clear g22); (try clear p44); (try clear hhe); (try clear eSt); (try clear eSz); (try clear eAc); (try clear eKo); (try clear e84); (try clear e74); (try clear hC44); (try clear hW44); (try clear hx74); (try clear ex74); simp only [vp_in_iff, Int32.lt_iff_toInt_lt, Int32.le_iff_toInt_le, ← Int32.toInt_inj, Int32.toInt_add, Int32.toInt_sub, Int32.toInt_mul, Int32.toInt_neg, pq_NuO, pq_NuI, pq_NuJ, pq_NuR, pq_shr6, pq_shr7, pq_shr8, lqm1, lq0, lq1] at *; (try simp (disch := omega) only [pq_bm] at *); all_goals omega)) with w9 | w9; (exfalso; rw [← ex74] at w9; first | exact c75 w9 | exact absurd w9 c75); (rw [ex74]; exact w9))
          refine pq_aload_n F dX1_textsOf_78 rfl rfl ?_
          refine pq_get F haL (by decide) lk_X1_9 hCL.1 dX1_textsOf_79 ?_
          refine pq_iload F dX1_textsOf_82 rfl ?_
          refine pq_lald F hCL.2.1 (by decide) (by decide) rfl (fun n1_84 n2_84 => (by focus ((try clear hA1); (try clear hAL); (try clear hCL); (try clear hCt); (try clear ih); (try clear hWy); (try clear hjx); (try clear g22); (try clear p44); (try clear hhe); (try clear eSt); (try clear eSz); (try clear eAc); (try clear eKo); (try clear e84); (try clear e74); (try clear hC44); (try clear hW44); (try clear hx74); (try clear ex74); simp only [vp_in_iff, Int32.lt_iff_toInt_lt, Int32.le_iff_toInt_le, ← Int32.toInt_inj, Int32.toInt_add, Int32.toInt_sub, Int32.toInt_mul, Int32.toInt_neg, pq_NuO, pq_NuI, pq_NuJ, pq_NuR, pq_shr6, pq_shr7, pq_shr8, lqm1, lq0, lq1] at *; (try simp (disch := omega) only [pq_bm] at *); all_goals omega))) dX1_textsOf_84 (fun x84 e84 => ?_)
          refine pq_goto (tgt := 89) F dX1_textsOf_85 (by decide) ?_
          refine pq_ladd F dX1_textsOf_89 ?_
          refine pq_lstore_n F dX1_textsOf_90 rfl (by decide) ?_
          refine pq_iinc (v := 1) F dX1_textsOf_91 rfl (by decide) (by decide) ?_
          refine pq_goto (tgt := 58) F dX1_textsOf_94 (by decide) ?_
          exact pq_fgm [true, true, true, true, false, true] (ih _ _ _ (kn + 1) hF hCL hWy (by rw [tk_ac1S, tk_b1t (by rw [← ex74]; exact hx74), Int64.mul_one, hjx, e84, tk_ix hkn]) (by focus ((try clear hA1); (try clear hAL); (try clear hCL); (try clear hCt); (try clear ih); (try clear hWy); (try clear hjx); (try clear g22); (try clear p44); (try clear hhe); (try clear eSt); (try clear eSz); (try clear eAc); (try clear eKo); (try clear e84); (try clear e74); (try clear hC44); (try clear hW44); (try clear hx74); (try clear ex74); simp only [vp_in_iff, Int32.lt_iff_toInt_lt, Int32.le_iff_toInt_le, ← Int32.toInt_inj, Int32.toInt_add, Int32.toInt_sub, Int32.toInt_mul, Int32.toInt_neg, pq_NuO, pq_NuI, pq_NuJ, pq_NuR, pq_shr6, pq_shr7, pq_shr8, lqm1, lq0, lq1] at *; (try simp (disch := omega) only [pq_bm] at *); all_goals omega)) (by focus ((try clear hA1); (try clear hAL); (try clear hCL); (try clear hCt); (try clear ih); (try clear hWy); (try clear hjx); (try clear g22); (try clear p44); (try clear hhe); (try clear eSt); (try clear eSz); (try clear eAc); (try clear eKo); (try clear e84); (try clear e74); (try clear hC44); (try clear hW44); (try clear hx74); (try clear ex74); simp only [vp_in_iff, Int32.lt_iff_toInt_lt, Int32.le_iff_toInt_le, ← Int32.toInt_inj, Int32.toInt_add, Int32.toInt_sub, Int32.toInt_mul, Int32.toInt_neg, pq_NuO, pq_NuI, pq_NuJ, pq_NuR, pq_shr6, pq_shr7, pq_shr8, lqm1, lq0, lq1] at *; (try simp (disch := omega) only [pq_bm] at *); all_goals omega)) (by focus ((try clear hA1); (try clear hAL); (try clear hCL); (try clear hCt); (try clear ih); (try clear hWy); (try clear hjx); (try clear g22); (try clear p44); (try clear hhe); (try clear eSt); (try clear eSz); (try clear eAc); (try clear eKo); (try clear e84); (try clear e74); (try clear hC44); (try clear hW44); (try clear hx74); (try clear ex74); simp only [vp_in_iff, Int32.lt_iff_toInt_lt, Int32.le_iff_toInt_le, ← Int32.toInt_inj, Int32.toInt_add, Int32.toInt_sub, Int32.toInt_mul, Int32.toInt_neg, pq_NuO, pq_NuI, pq_NuJ, pq_NuR, pq_shr6, pq_shr7, pq_shr8, lqm1, lq0, lq1] at *; (try simp (disch := omega) only [pq_bm] at *); all_goals omega)))
  have L37 : ∀  (fu : Nat) (S1 : HS) (k : Int32) (kn v1 v2 : Nat) (hF : pq_Fr [(189, 0), (4, 0), (4, 1)] S S1) (hCL : tk_Ct S1 a v1 v2) (hWy : tk_Wy (hJ S1 v1) (hI S ko) (hI S st) (hI S ac) n sn (lN - kn) (tk_ct lN L)) (hkn : k.toInt = (kn : Int)) (hk1 : kn ≤ lN), (12 - k.toInt).toNat < fu → pq_At p l e (pq_rm 3 0 0) s m args below meth c (pq_Z below args s D cy S 0 0 (fun v S2 => pq_Fr [(189, 0), (4, 0), (4, 1)] S S2 ∧ ∃ x : Int64, v = some (.long x) ∧ (x = tk_ct lN L ∧ ∃ v1 v2 : Nat, tk_Ct S2 a v1 v2))) D cy A 6 0 0 37 S1 [some (.ref a), some (.ref tt), some (.int ln), some (.int k), none, none] [] := by
    intro  fu
    induction fu with
    | zero => intro S1 k kn v1 v2 hF hCL hWy hkn hk1 hm; exact absurd hm (Nat.not_lt_zero _)
    | succ fu ih =>
      intro S1 k kn v1 v2 hF hCL hWy hkn hk1 hm
      have haL := hF.R ha (by first | decide | omega)
      have httL := hF.R htt (by first | decide | omega)
      have hAL := hA1.fr htt (by decide) (by decide) hF (by decide)
      have eSt : hI S1 st = hI S st := hF.I hA1.r3 (by decide) (by decide)
      have eSz : hI S1 sz = hI S sz := hF.I hA1.r1 (by decide) (by decide)
      have eAc : hI S1 ac = hI S ac := hF.I hA1.r2 (by decide) (by decide)
      have hNL : hN S1 st = hN S st := (hF.1 st 155 hA1.r3 (by decide)).2
      have eKo : hI S1 ko = hI S ko := hF.I hA1.r0 (by decide) (by decide)
      refine pq_iload_n F dX1_textsOf_37 rfl rfl ?_
      refine pq_iload_n F dX1_textsOf_38 rfl rfl ?_
      refine pq_icmp_ge (tgt := 53) F dX1_textsOf_39 (by decide) (fun c39 => ?_) (fun c39 => ?_)
      · skip
        refine pq_lconst (v := 0) F dX1_textsOf_53 (by decide) ?_
        refine pq_lstore_n F dX1_textsOf_54 rfl (by decide) ?_
        refine pq_iconst (v := 0) F dX1_textsOf_55 (by decide) ?_
        refine pq_istore F dX1_textsOf_56 (by decide) ?_
        exact pq_fgm [true, true, true, true, false, true] (L58 v1 v2 1000 _ _ _ 0 hF hCL (by have e9 : lN - kn = 0 := (by clear hWy; focus ((try clear hA1); (try clear hAL); (try clear hCL); (try clear hCt); (try clear ih); (try clear hWy); (try clear hjx); (try clear g22); (try clear p44); (try clear hhe); (try clear eSt); (try clear eSz); (try clear eAc); (try clear eKo); (try clear e84); (try clear e74); (try clear hC44); (try clear hW44); (try clear hx74); (try clear ex74); simp only [vp_in_iff, Int32.lt_iff_toInt_lt, Int32.le_iff_toInt_le, ← Int32.toInt_inj, Int32.toInt_add, Int32.toInt_sub, Int32.toInt_mul, Int32.toInt_neg, pq_NuO, pq_NuI, pq_NuJ, pq_NuR, pq_shr6, pq_shr7, pq_shr8, lqm1, lq0, lq1] at *; (try simp (disch := omega) only [pq_bm] at *); all_goals omega)); rw [e9] at hWy; exact hWy) rfl rfl (Nat.zero_le _) (by focus ((try clear hA1); (try clear hAL); (try clear hCL); (try clear hCt); (try clear ih); (try clear hWy); (try clear hjx); (try clear g22); (try clear p44); (try clear hhe); (try clear eSt); (try clear eSz); (try clear eAc); (try clear eKo); (try clear e84); (try clear e74); (try clear hC44); (try clear hW44); (try clear hx74); (try clear ex74); simp only [vp_in_iff, Int32.lt_iff_toInt_lt, Int32.le_iff_toInt_le, ← Int32.toInt_inj, Int32.toInt_add, Int32.toInt_sub, Int32.toInt_mul, Int32.toInt_neg, pq_NuO, pq_NuI, pq_NuJ, pq_NuR, pq_shr6, pq_shr7, pq_shr8, lqm1, lq0, lq1] at *; (try simp (disch := omega) only [pq_bm] at *); all_goals omega)))
      · skip
        refine pq_aload_n F dX1_textsOf_42 rfl rfl ?_
        refine pq_aload_n F dX1_textsOf_43 rfl rfl ?_
        refine pq_callV (As := [_]) F (k_X1_lengthenGB l D cy _ _ ?_ _ ?_ ko sz st ac n sn s0 ni si i0 he L hAL v1 v2 hCL) ml_X1_34 haL (by decide) rfl (Nat.le_of_ble_eq_true rfl) ⟨Nat.le_of_ble_eq_true rfl, Nat.le_of_ble_eq_true rfl⟩ ⟨by decide, by decide⟩ dX1_textsOf_44 (fun v44 S44 w44 => ?_)
        · exact haL
        · exact httL
        obtain ⟨rfl, hF44, p44⟩ := w44
        have haL_44 := (hF44.1 _ _ haL (by decide)).1
        have httL_44 := (hF44.1 _ _ httL (by decide)).1
        have hz_44 := (hF44.1 _ _ hAL.r1 (by decide)).1
        have ec44_1_httL_44 := hF44.O httL (by decide) (by decide) hAL.e1
        have hz_44z := (hF44.1 _ _ hAL.r2 (by decide)).1
        have ec44_2_httL_44 := hF44.O httL (by decide) (by decide) hAL.e2
        have hz_44zz := (hF44.1 _ _ hAL.r3 (by decide)).1
        have ec44_3_httL_44 := hF44.O httL (by decide) (by decide) hAL.e3
        have ec44_4_httL_44 := hF44.O httL (by decide) (by decide) hAL.e4
        have ec44_5_httL_44 := hF44.O httL (by decide) (by decide) hAL.e5
        have ec44_6_httL_44 := hF44.O httL (by decide) (by decide) hAL.e6
        have ec44_7_httL_44 := hF44.O httL (by decide) (by decide) hAL.e7
        obtain ⟨hC44, hL44⟩ := p44
        rw [eSt, eSz] at hL44
        have hW44 : tk_Wy (hJ S44 v2) (hI S ko) (hI S st) (hI S ac) n sn (lN - (kn + 1)) (tk_ct lN L) := (by have e9 : lN - kn = (lN - (kn + 1)) + 1 := (by clear hL44; focus ((try clear hA1); (try clear hAL); (try clear hCL); (try clear hCt); (try clear ih); (try clear hWy); (try clear hjx); (try clear g22); (try clear p44); (try clear hhe); (try clear eSt); (try clear eSz); (try clear eAc); (try clear eKo); (try clear e84); (try clear e74); (try clear hC44); (try clear hW44); (try clear hx74); (try clear ex74); simp only [vp_in_iff, Int32.lt_iff_toInt_lt, Int32.le_iff_toInt_le, ← Int32.toInt_inj, Int32.toInt_add, Int32.toInt_sub, Int32.toInt_mul, Int32.toInt_neg, pq_NuO, pq_NuI, pq_NuJ, pq_NuR, pq_shr6, pq_shr7, pq_shr8, lqm1, lq0, lq1] at *; (try simp (disch := omega) only [pq_bm] at *); all_goals omega)); rw [e9] at hWy; exact hWy.go hA1.a hA1.z hL44)
        refine pq_iinc (v := 1) F dX1_textsOf_47 rfl (by decide) (by decide) ?_
        refine pq_goto (tgt := 37) F dX1_textsOf_50 (by decide) ?_
        exact pq_fgm [true, true, true, true, false, false] (ih _ _ (kn + 1) v2 v1 (hF.cm hF44 (by decide)) hC44 hW44 (by focus ((try clear hA1); (try clear hAL); (try clear hCL); (try clear hCt); (try clear ih); (try clear hWy); (try clear hjx); (try clear g22); (try clear p44); (try clear hhe); (try clear eSt); (try clear eSz); (try clear eAc); (try clear eKo); (try clear e84); (try clear e74); (try clear hC44); (try clear hW44); (try clear hx74); (try clear ex74); simp only [vp_in_iff, Int32.lt_iff_toInt_lt, Int32.le_iff_toInt_le, ← Int32.toInt_inj, Int32.toInt_add, Int32.toInt_sub, Int32.toInt_mul, Int32.toInt_neg, pq_NuO, pq_NuI, pq_NuJ, pq_NuR, pq_shr6, pq_shr7, pq_shr8, lqm1, lq0, lq1] at *; (try simp (disch := omega) only [pq_bm] at *); all_goals omega)) (by focus ((try clear hA1); (try clear hAL); (try clear hCL); (try clear hCt); (try clear ih); (try clear hWy); (try clear hjx); (try clear g22); (try clear p44); (try clear hhe); (try clear eSt); (try clear eSz); (try clear eAc); (try clear eKo); (try clear e84); (try clear e74); (try clear hC44); (try clear hW44); (try clear hx74); (try clear ex74); simp only [vp_in_iff, Int32.lt_iff_toInt_lt, Int32.le_iff_toInt_le, ← Int32.toInt_inj, Int32.toInt_add, Int32.toInt_sub, Int32.toInt_mul, Int32.toInt_neg, pq_NuO, pq_NuI, pq_NuJ, pq_NuR, pq_shr6, pq_shr7, pq_shr8, lqm1, lq0, lq1] at *; (try simp (disch := omega) only [pq_bm] at *); all_goals omega)) (by focus ((try clear hA1); (try clear hAL); (try clear hCL); (try clear hCt); (try clear ih); (try clear hWy); (try clear hjx); (try clear g22); (try clear p44); (try clear hhe); (try clear eSt); (try clear eSz); (try clear eAc); (try clear eKo); (try clear e84); (try clear e74); (try clear hC44); (try clear hW44); (try clear hx74); (try clear ex74); simp only [vp_in_iff, Int32.lt_iff_toInt_lt, Int32.le_iff_toInt_le, ← Int32.toInt_inj, Int32.toInt_add, Int32.toInt_sub, Int32.toInt_mul, Int32.toInt_neg, pq_NuO, pq_NuI, pq_NuJ, pq_NuR, pq_shr6, pq_shr7, pq_shr8, lqm1, lq0, lq1] at *; (try simp (disch := omega) only [pq_bm] at *); all_goals omega)))
  refine pq_iload_n F dX1_textsOf_0 rfl rfl ?_
  refine pq_if_ne (tgt := 17) F dX1_textsOf_1 (by decide) (fun c1 => ?_) (fun c1 => ?_)
  · skip
    refine pq_aload_n F dX1_textsOf_17 rfl rfl ?_
    refine pq_get F ha (by decide) lk_X1_9 hCt.1 dX1_textsOf_18 ?_
    refine pq_lconst (v := 0) F dX1_textsOf_21 (by decide) ?_
    refine pq_lenF hCt.2.1 (by decide) rfl (fun lna22_0 lnb22_0 => ?_)
    refine pq_callS (As := [_, _]) F (k_J7_fill_d0a16 l D cy _ _ 189 ?_ ?_ ?_ _ ?_) ml_X1_24 (Nat.le_of_ble_eq_true rfl) ⟨Nat.le_of_ble_eq_true rfl, Nat.le_of_ble_eq_true rfl⟩ ⟨by decide, by decide⟩ dX1_textsOf_22 (fun v22 S22 w22 => ?_)
    · exact hCt.2.1
    · first | decide | omega
    · first | decide | omega
    · focus ((try clear hA1); (try clear hAL); (try clear hCL); (try clear hCt); (try clear ih); (try clear hWy); (try clear hjx); (try clear g22); (try clear p44); (try clear hhe); (try clear eSt); (try clear eSz); (try clear eAc); (try clear eKo); (try clear e84); (try clear e74); (try clear hC44); (try clear hW44); (try clear hx74); (try clear ex74); simp only [vp_in_iff, Int32.lt_iff_toInt_lt, Int32.le_iff_toInt_le, ← Int32.toInt_inj, Int32.toInt_add, Int32.toInt_sub, Int32.toInt_mul, Int32.toInt_neg, pq_NuO, pq_NuI, pq_NuJ, pq_NuR, pq_shr6, pq_shr7, pq_shr8, lqm1, lq0, lq1] at *; (try simp (disch := omega) only [pq_bm] at *); all_goals omega)
    obtain ⟨rfl, f22, rfl, g22⟩ := w22
    refine pq_aload_n F dX1_textsOf_25 rfl rfl ?_
    refine pq_get F ha (by decide) lk_X1_9 hCt.1 dX1_textsOf_26 ?_
    refine pq_aload_n F dX1_textsOf_29 rfl rfl ?_
    refine pq_get F htt (by decide) lk_X1_30 hA1.e6 dX1_textsOf_30 ?_
    refine pq_lconst (v := 1) F dX1_textsOf_33 (by decide) ?_
    refine pq_last F hCt.2.1 (by decide) (by decide) rfl (fun n1_34 n2_34 => (by focus ((try clear hA1); (try clear hAL); (try clear hCL); (try clear hCt); (try clear ih); (try clear hWy); (try clear hjx); (try clear g22); (try clear p44); (try clear hhe); (try clear eSt); (try clear eSz); (try clear eAc); (try clear eKo); (try clear e84); (try clear e74); (try clear hC44); (try clear hW44); (try clear hx74); (try clear ex74); simp only [vp_in_iff, Int32.lt_iff_toInt_lt, Int32.le_iff_toInt_le, ← Int32.toInt_inj, Int32.toInt_add, Int32.toInt_sub, Int32.toInt_mul, Int32.toInt_neg, pq_NuO, pq_NuI, pq_NuJ, pq_NuR, pq_shr6, pq_shr7, pq_shr8, lqm1, lq0, lq1] at *; (try simp (disch := omega) only [pq_bm] at *); all_goals omega))) dX1_textsOf_34 ?_
    refine pq_iconst (v := 0) F dX1_textsOf_35 (by decide) ?_
    refine pq_istore_n F dX1_textsOf_36 rfl (by decide) ?_
    exact pq_fgm [true, true, true, true, false, false] (L37 1000 _ _ 0 w1 w2 ((pq_Fr.rf.uJ hCt.2.1 (by first | decide | exact List.mem_cons_self)).uJ hCt.2.1 (by first | decide | exact List.mem_cons_self)) hCt (by simp only [pq_IuO, pq_IuJ, pq_Iu, pq_JuO, pq_JuI, pq_Ju, pq_RuO, pq_RuJ, pq_RuI, if_true, if_false]; rw [Nat.sub_zero, tk_ix hn3]; exact tk_Wy.beg hA1.a pk_uLs (fun i hi hne => (by rw [pk_uLn hne]; exact g22 i (by omega))) (by clear g22; focus ((try clear hA1); (try clear hAL); (try clear hCL); (try clear hCt); (try clear ih); (try clear hWy); (try clear hjx); (try clear g22); (try clear p44); (try clear hhe); (try clear eSt); (try clear eSz); (try clear eAc); (try clear eKo); (try clear e84); (try clear e74); (try clear hC44); (try clear hW44); (try clear hx74); (try clear ex74); simp only [vp_in_iff, Int32.lt_iff_toInt_lt, Int32.le_iff_toInt_le, ← Int32.toInt_inj, Int32.toInt_add, Int32.toInt_sub, Int32.toInt_mul, Int32.toInt_neg, pq_NuO, pq_NuI, pq_NuJ, pq_NuR, pq_shr6, pq_shr7, pq_shr8, lqm1, lq0, lq1] at *; (try simp (disch := omega) only [pq_bm] at *); all_goals omega))) rfl (Nat.zero_le _) (by focus ((try clear hA1); (try clear hAL); (try clear hCL); (try clear hCt); (try clear ih); (try clear hWy); (try clear hjx); (try clear g22); (try clear p44); (try clear hhe); (try clear eSt); (try clear eSz); (try clear eAc); (try clear eKo); (try clear e84); (try clear e74); (try clear hC44); (try clear hW44); (try clear hx74); (try clear ex74); simp only [vp_in_iff, Int32.lt_iff_toInt_lt, Int32.le_iff_toInt_le, ← Int32.toInt_inj, Int32.toInt_add, Int32.toInt_sub, Int32.toInt_mul, Int32.toInt_neg, pq_NuO, pq_NuI, pq_NuJ, pq_NuR, pq_shr6, pq_shr7, pq_shr8, lqm1, lq0, lq1] at *; (try simp (disch := omega) only [pq_bm] at *); all_goals omega)))
  · skip
    refine pq_aload_n F dX1_textsOf_4 rfl rfl ?_
    refine pq_get F htt (by decide) lk_X1_18 hA1.e7 dX1_textsOf_5 ?_
    refine pq_if_eq (tgt := 15) F dX1_textsOf_8 (by decide) (fun c8 => ?_) (fun c8 => ?_)
    · skip
      refine pq_lconst (v := 0) F dX1_textsOf_15 (by decide) ?_
      exact pq_lret F hr hlk hA (Nat.le_refl _) (Nat.le_refl _) ((by have e9 : lN = 0 := (by focus ((try clear hA1); (try clear hAL); (try clear hCL); (try clear hCt); (try clear ih); (try clear hWy); (try clear hjx); (try clear g22); (try clear p44); (try clear hhe); (try clear eSt); (try clear eSz); (try clear eAc); (try clear eKo); (try clear e84); (try clear e74); (try clear hC44); (try clear hW44); (try clear hx74); (try clear ex74); simp only [vp_in_iff, Int32.lt_iff_toInt_lt, Int32.le_iff_toInt_le, ← Int32.toInt_inj, Int32.toInt_add, Int32.toInt_sub, Int32.toInt_mul, Int32.toInt_neg, pq_NuO, pq_NuI, pq_NuJ, pq_NuR, pq_shr6, pq_shr7, pq_shr8, lqm1, lq0, lq1] at *; (try simp (disch := omega) only [pq_bm] at *); all_goals omega)); rw [e9]; refine ⟨pq_Fr.rf, _, rfl, ?_, w1, w2, hCt⟩; rw [tk_ct0]; exact (tk_b1f (fun w9 => (by have w8 := hA1.a.2.2.2.2.2.1.mpr w9; first | (rw [c8] at w8; exact absurd w8 (by decide)) | exact absurd w8 (by rw [show he = 0 from c8]; decide)))).symm)) dX1_textsOf_16
    · skip
      refine pq_lconst (v := 1) F dX1_textsOf_11 (by decide) ?_
      refine pq_goto (tgt := 16) F dX1_textsOf_12 (by decide) ?_
      exact pq_lret F hr hlk hA (Nat.le_refl _) (Nat.le_refl _) ((by have e9 : lN = 0 := (by focus ((try clear hA1); (try clear hAL); (try clear hCL); (try clear hCt); (try clear ih); (try clear hWy); (try clear hjx); (try clear g22); (try clear p44); (try clear hhe); (try clear eSt); (try clear eSz); (try clear eAc); (try clear eKo); (try clear e84); (try clear e74); (try clear hC44); (try clear hW44); (try clear hx74); (try clear ex74); simp only [vp_in_iff, Int32.lt_iff_toInt_lt, Int32.le_iff_toInt_le, ← Int32.toInt_inj, Int32.toInt_add, Int32.toInt_sub, Int32.toInt_mul, Int32.toInt_neg, pq_NuO, pq_NuI, pq_NuJ, pq_NuR, pq_shr6, pq_shr7, pq_shr8, lqm1, lq0, lq1] at *; (try simp (disch := omega) only [pq_bm] at *); all_goals omega)); rw [e9]; refine ⟨pq_Fr.rf, _, rfl, ?_, w1, w2, hCt⟩; rw [tk_ct0]; exact (tk_b1t (hA1.a.2.2.2.2.2.1.mp (hhe.resolve_left c8))).symm)) dX1_textsOf_16

/-- the class's counter has two rows -/
def tk_Cx (S : HS) (x : Nat) : Prop := ∃ ct w1 w2 : Nat, hO S x 6 = .ref ct ∧ pq_R S ct 4 ∧ tk_Ct S ct w1 w2
theorem tk_Cx.fr {S S1 : HS} {x : Nat} {M : List (Nat × Nat)} (h : tk_Cx S x) (hx : pq_R S x 13) (hF : pq_Fr M S S1) (hM : ∀ q ∈ [(13, 6), (4, 0), (4, 1)], q ∉ M) : tk_Cx S1 x := by
  obtain ⟨ct, w1, w2, a1, a2, a3⟩ := h
  exact ⟨ct, w1, w2, hF.O hx (by decide) (hM _ (by decide)) a1, hF.R a2 (by decide), a3.fr a2 hF (fun q hq => hM q (by revert q; decide))⟩
set_option maxHeartbeats 4000000 in
set_option maxRecDepth 100000 in
theorem k_X10_countG (l : Launch) (D : va_G) (cy : Nat → ClassId) (hl0 : l.stackTraces = false) (S : HS) (a : Nat) (ha : pq_R S a 13) (pw : Int32) (pn : Int32) (t : Int32) (np nq : Nat) (hIx : pq_Ix S a t np nq) (LA LB : List Nat → Prop) (hAs : tk_As S a LA LB) (hCx : tk_Cx S a) : pq_CX l D cy yX10_count cX10_count 3 (some .long) 6 1 6 S [.ref a, .int pw, .int pn] (fun v S2 => pq_Fr [(189, 0), (4, 0), (4, 1)] S S2 ∧ ∃ x : Int64, v = some (.long x) ∧ (pq_Ix S2 a t np nq ∧ ((pw = 0 ∨ pw = 1) ∧ 0 ≤ pn.toInt ∧ pn.toInt ≤ 12) ∧ x = tk_ct pn.toInt.toNat (if pw = 0 then LA else LB) ∧ tk_Cx S2 a)) (fun E S2 => E = "java/lang/IllegalArgumentException" ∧ ¬ ((pw = 0 ∨ pw = 1) ∧ 0 ≤ pn.toInt ∧ pn.toInt ≤ 12) ∧ pq_Fr [(189, 0), (4, 0), (4, 1)] S S2 ∧ pq_Ix S2 a t np nq ∧ tk_Cx S2 a) := by
  refine pq_startX (by decide) (Nat.le_of_ble_eq_true rfl) ?_
  intro p e s m args below meth c A F hr hlk hnm hA ht
  have lqm1 : (-1 : Int32).toInt = -1 := rfl
  have lq0 : (0 : Int32).toInt = 0 := rfl
  have lq1 : (1 : Int32).toInt = 1 := rfl
  have lq12 : (12 : Int32).toInt = 12 := rfl
  obtain ⟨tp, pl, rd, wk, mg, pt, ct, sr, A9, B9, hIf, fet, ⟨ht0, ht1⟩, hIA, hIB, hIs⟩ := hIx
  have hIf2 := hIf
  obtain ⟨⟨fa0, fa1, fa2, fa3, fa4, fa5, fa6, fa7⟩, ⟨fb0, fb1, fb2, fb3, fb4, fb5, fb6, fb7, fb8⟩, ⟨fc0, fc1, fc2, fc3⟩, ⟨fd0, fd1, fd2, fd3⟩⟩ := hIf2
  have hCx2 := hCx
  obtain ⟨pt2, A2, B2, ⟨j1, j2, j3, j4, j5, j6⟩, hAo, hBo⟩ := hAs
  obtain rfl := tk_rj fa5 j1
  obtain rfl := Option.some.inj (fd0.symm.trans j3)
  obtain rfl := Option.some.inj (fd1.symm.trans j4)
  obtain ⟨ct2, w1, w2, k1, k2, hCt⟩ := hCx
  obtain rfl := tk_rj fa6 k1
  refine pq_iload_n F dX10_count_0 rfl rfl ?_
  refine pq_callS (As := [_]) F (k_X10_isPattern l D cy _ _) ml_X10_94 (Nat.le_of_ble_eq_true rfl) ⟨Nat.le_of_ble_eq_true rfl, Nat.le_of_ble_eq_true rfl⟩ ⟨by decide, by decide⟩ dX10_count_1 (fun v1 S1 w1 => ?_)
  obtain ⟨u1, y1, rfl, yl1_0, yl1_1, p1⟩ := w1
  rw [u1]
  try rw [u1] at p1
  refine pq_if_ne (tgt := 17) F dX10_count_4 (by decide) (fun c4 => ?_) (fun c4 => ?_)
  · skip
    refine pq_iload_n F dX10_count_17 rfl rfl ?_
    refine pq_if_lt (tgt := 27) F dX10_count_18 (by decide) (fun c18 => ?_) (fun c18 => ?_)
    · skip
      exact pq_thr F ht hlk hA hl0 (is := 158) (text := "texts of this length are not counted") (cls := "java/lang/IllegalArgumentException") (by decide) xw_93 ⟨Nat.le_of_ble_eq_true rfl, Nat.le_of_ble_eq_true rfl⟩ (Nat.le_of_ble_eq_true rfl) (Nat.le_of_ble_eq_true rfl) (Nat.le_of_ble_eq_true rfl) (Nat.le_of_ble_eq_true rfl) (⟨rfl, (fun w9 => (by have w7 := w9.2.1; have w8 := w9.2.2; clear w9; focus ((try clear hIf); (try clear hIA); (try clear hIB); (try clear hIs); (try clear p1); (try clear p28); (try clear p36); (try clear p44); (try clear p53); (try clear p62); (try clear hwc); (try clear hAo); (try clear hBo); (try clear hAp); (try clear p48); (try clear hCt); (try clear hCx2); (try clear j1); (try clear j3); (try clear j4); simp only [vp_in_iff, Int32.lt_iff_toInt_lt, Int32.le_iff_toInt_le, ← Int32.toInt_inj, Int32.toInt_add, Int32.toInt_sub, Int32.toInt_mul, Int32.toInt_neg, pq_NuO, pq_NuI, pq_NuJ, pq_NuR, pq_shr6, pq_shr7, pq_shr8, lqm1, lq0, lq1, lq12] at *; (try simp (disch := omega) only [pq_bm] at *); all_goals omega))), pq_andM (M0 := [(189, 0), (4, 0), (4, 1)]) (by decide) (pq_Fr.rf) (fun hFF => ⟨⟨tp, pl, rd, wk, mg, pt, ct, sr, A9, B9, hIf.fr hFF (by decide), fet, ⟨(by focus ((try clear hIf); (try clear hIA); (try clear hIB); (try clear hIs); (try clear p1); (try clear p28); (try clear p36); (try clear p44); (try clear p53); (try clear p62); (try clear hwc); (try clear hAo); (try clear hBo); (try clear hAp); (try clear p48); (try clear hCt); (try clear hCx2); (try clear j1); (try clear j3); (try clear j4); simp only [vp_in_iff, Int32.lt_iff_toInt_lt, Int32.le_iff_toInt_le, ← Int32.toInt_inj, Int32.toInt_add, Int32.toInt_sub, Int32.toInt_mul, Int32.toInt_neg, pq_NuO, pq_NuI, pq_NuJ, pq_NuR, pq_shr6, pq_shr7, pq_shr8, lqm1, lq0, lq1, lq12] at *; (try simp (disch := omega) only [pq_bm] at *); all_goals omega)), (by focus ((try clear hIf); (try clear hIA); (try clear hIB); (try clear hIs); (try clear p1); (try clear p28); (try clear p36); (try clear p44); (try clear p53); (try clear p62); (try clear hwc); (try clear hAo); (try clear hBo); (try clear hAp); (try clear p48); (try clear hCt); (try clear hCx2); (try clear j1); (try clear j3); (try clear j4); simp only [vp_in_iff, Int32.lt_iff_toInt_lt, Int32.le_iff_toInt_le, ← Int32.toInt_inj, Int32.toInt_add, Int32.toInt_sub, Int32.toInt_mul, Int32.toInt_neg, pq_NuO, pq_NuI, pq_NuJ, pq_NuR, pq_shr6, pq_shr7, pq_shr8, lqm1, lq0, lq1, lq12] at *; (try simp (disch := omega) only [pq_bm] at *); all_goals omega))⟩, hIA.fr fd2 (by decide) (by decide) (by decide) hFF (by decide), hIB.fr fd3 (by decide) (by decide) (by decide) hFF (by decide), hIs.fr fb8 hFF (by decide)⟩, hCx2⟩)⟩) dX10_count_27 dX10_count_30 dX10_count_31 dX10_count_33 dX10_count_36
    · skip
      refine pq_iload_n F dX10_count_21 rfl rfl ?_
      refine pq_bipush (v := 12) F dX10_count_22 (by decide) ?_
      refine pq_icmp_le (tgt := 37) F dX10_count_24 (by decide) (fun c24 => ?_) (fun c24 => ?_)
      · skip
        have hwc : pw = 0 ∨ pw = 1 := p1.1 (Int32.toInt_inj.mp (by focus ((try clear hIf); (try clear hIA); (try clear hIB); (try clear hIs); (try clear p1); (try clear p28); (try clear p36); (try clear p44); (try clear p53); (try clear p62); (try clear hwc); (try clear hAo); (try clear hBo); (try clear hAp); (try clear p48); (try clear hCt); (try clear hCx2); (try clear j1); (try clear j3); (try clear j4); simp only [vp_in_iff, Int32.lt_iff_toInt_lt, Int32.le_iff_toInt_le, ← Int32.toInt_inj, Int32.toInt_add, Int32.toInt_sub, Int32.toInt_mul, Int32.toInt_neg, pq_NuO, pq_NuI, pq_NuJ, pq_NuR, pq_shr6, pq_shr7, pq_shr8, lqm1, lq0, lq1, lq12] at *; (try simp (disch := omega) only [pq_bm] at *); all_goals omega)))
        refine pq_aload_n F dX10_count_37 rfl rfl ?_
        rcases hwc with hw9 | hw9
        · skip
          refine pq_get F ha (by decide) lk_X10_60 fa6 dX10_count_38 ?_
          refine pq_aload_n F dX10_count_41 rfl rfl ?_
          refine pq_get F ha (by decide) lk_X10_53 fa5 dX10_count_42 ?_
          refine pq_iload_n F dX10_count_45 rfl rfl ?_
          refine pq_aald F fb6 (by decide) (fun n1_46 n2_46 => (by change _ ≤ _ at n1_46; change _ ≤ 2 at n2_46; change 2 ≤ _ at n1_46; focus ((try clear hIf); (try clear hIA); (try clear hIB); (try clear hIs); (try clear p1); (try clear p28); (try clear p36); (try clear p44); (try clear p53); (try clear p62); (try clear hwc); (try clear hAo); (try clear hBo); (try clear hAp); (try clear p48); (try clear hCt); (try clear hCx2); (try clear j1); (try clear j3); (try clear j4); simp only [vp_in_iff, Int32.lt_iff_toInt_lt, Int32.le_iff_toInt_le, ← Int32.toInt_inj, Int32.toInt_add, Int32.toInt_sub, Int32.toInt_mul, Int32.toInt_neg, pq_NuO, pq_NuI, pq_NuJ, pq_NuR, pq_shr6, pq_shr7, pq_shr8, lqm1, lq0, lq1, lq12] at *; (try simp (disch := omega) only [pq_bm] at *); all_goals omega))) dX10_count_46 (fun o46 e46 k46 => ?_)
          have e46b : o46 = some A9 := e46.trans (by rw [hw9]; exact fd0)
          subst e46b
          obtain ⟨ko9, sz9, st9, ac9, n9, sn9, s9, ni9, si9, i9, he9, hAp⟩ := hAo
          refine pq_iload_n F dX10_count_47 rfl rfl ?_
          refine pq_callV (As := [_, _]) F (k_X1_textsOfGA l D cy _ _ ?_ _ ?_ _ ?_ ?_ ko9 sz9 st9 ac9 n9 sn9 s9 ni9 si9 i9 he9 _ hAp w1 w2 hCt pn.toInt.toNat ?_) ml_X10_160 fb7 (by decide) rfl (Nat.le_of_ble_eq_true rfl) ⟨Nat.le_of_ble_eq_true rfl, Nat.le_of_ble_eq_true rfl⟩ ⟨by decide, by decide⟩ dX10_count_48 (fun v48 S48 w48 => ?_)
          · exact fb7
          · exact fd2
          · focus ((try clear hIf); (try clear hIA); (try clear hIB); (try clear hIs); (try clear p1); (try clear p28); (try clear p36); (try clear p44); (try clear p53); (try clear p62); (try clear hwc); (try clear hAo); (try clear hBo); (try clear hAp); (try clear p48); (try clear hCt); (try clear hCx2); (try clear j1); (try clear j3); (try clear j4); simp only [vp_in_iff, Int32.lt_iff_toInt_lt, Int32.le_iff_toInt_le, ← Int32.toInt_inj, Int32.toInt_add, Int32.toInt_sub, Int32.toInt_mul, Int32.toInt_neg, pq_NuO, pq_NuI, pq_NuJ, pq_NuR, pq_shr6, pq_shr7, pq_shr8, lqm1, lq0, lq1, lq12] at *; (try simp (disch := omega) only [pq_bm] at *); all_goals omega)
          · focus ((try clear hIf); (try clear hIA); (try clear hIB); (try clear hIs); (try clear p1); (try clear p28); (try clear p36); (try clear p44); (try clear p53); (try clear p62); (try clear hwc); (try clear hAo); (try clear hBo); (try clear hAp); (try clear p48); (try clear hCt); (try clear hCx2); (try clear j1); (try clear j3); (try clear j4); simp only [vp_in_iff, Int32.lt_iff_toInt_lt, Int32.le_iff_toInt_le, ← Int32.toInt_inj, Int32.toInt_add, Int32.toInt_sub, Int32.toInt_mul, Int32.toInt_neg, pq_NuO, pq_NuI, pq_NuJ, pq_NuR, pq_shr6, pq_shr7, pq_shr8, lqm1, lq0, lq1, lq12] at *; (try simp (disch := omega) only [pq_bm] at *); all_goals omega)
          · focus ((try clear hIf); (try clear hIA); (try clear hIB); (try clear hIs); (try clear p1); (try clear p28); (try clear p36); (try clear p44); (try clear p53); (try clear p62); (try clear hwc); (try clear hAo); (try clear hBo); (try clear hAp); (try clear p48); (try clear hCt); (try clear hCx2); (try clear j1); (try clear j3); (try clear j4); simp only [vp_in_iff, Int32.lt_iff_toInt_lt, Int32.le_iff_toInt_le, ← Int32.toInt_inj, Int32.toInt_add, Int32.toInt_sub, Int32.toInt_mul, Int32.toInt_neg, pq_NuO, pq_NuI, pq_NuJ, pq_NuR, pq_shr6, pq_shr7, pq_shr8, lqm1, lq0, lq1, lq12] at *; (try simp (disch := omega) only [pq_bm] at *); all_goals omega)
          obtain ⟨hF48, y48, rfl, p48⟩ := w48
          have ha_48 := (hF48.1 _ _ ha (by decide)).1
          have fb1_48 := (hF48.1 _ _ fb1 (by decide)).1
          have ec48_0_ha_48 := hF48.O ha (by decide) (by decide) fa0
          have fb2_48 := (hF48.1 _ _ fb2 (by decide)).1
          have ec48_1_ha_48 := hF48.O ha (by decide) (by decide) fa1
          have fb3_48 := (hF48.1 _ _ fb3 (by decide)).1
          have ec48_2_ha_48 := hF48.O ha (by decide) (by decide) fa2
          have fb4_48 := (hF48.1 _ _ fb4 (by decide)).1
          have ec48_3_ha_48 := hF48.O ha (by decide) (by decide) fa3
          have fb5_48 := (hF48.1 _ _ fb5 (by decide)).1
          have ec48_4_ha_48 := hF48.O ha (by decide) (by decide) fa4
          have fb6_48 := (hF48.1 _ _ fb6 (by decide)).1
          have ec48_5_ha_48 := hF48.O ha (by decide) (by decide) fa5
          have fb7_48 := (hF48.1 _ _ fb7 (by decide)).1
          have ec48_6_ha_48 := hF48.O ha (by decide) (by decide) fa6
          have fb8_48 := (hF48.1 _ _ fb8 (by decide)).1
          have ec48_7_ha_48 := hF48.O ha (by decide) (by decide) fa7
          have ec48_1_fb1_48 := hF48.O fb1 (by decide) (by decide) fet
          exact pq_lift (pq_lret F hr hlk hA (Nat.zero_le _) (Nat.zero_le _) (pq_andM (M0 := [(189, 0), (4, 0), (4, 1)]) (by decide) ((pq_Fr.rf.cm hF48 (by decide))) (fun hFF => ⟨_, rfl, ⟨tp, pl, rd, wk, mg, pt, ct, sr, A9, B9, hIf.fr hFF (by decide), (hF48.O fb1 (by decide) (by decide) fet), ⟨(by focus ((try clear hIf); (try clear hIA); (try clear hIB); (try clear hIs); (try clear p1); (try clear p28); (try clear p36); (try clear p44); (try clear p53); (try clear p62); (try clear hwc); (try clear hAo); (try clear hBo); (try clear hAp); (try clear p48); (try clear hCt); (try clear hCx2); (try clear j1); (try clear j3); (try clear j4); simp only [vp_in_iff, Int32.lt_iff_toInt_lt, Int32.le_iff_toInt_le, ← Int32.toInt_inj, Int32.toInt_add, Int32.toInt_sub, Int32.toInt_mul, Int32.toInt_neg, pq_NuO, pq_NuI, pq_NuJ, pq_NuR, pq_shr6, pq_shr7, pq_shr8, lqm1, lq0, lq1, lq12] at *; (try simp (disch := omega) only [pq_bm] at *); all_goals omega)), (by focus ((try clear hIf); (try clear hIA); (try clear hIB); (try clear hIs); (try clear p1); (try clear p28); (try clear p36); (try clear p44); (try clear p53); (try clear p62); (try clear hwc); (try clear hAo); (try clear hBo); (try clear hAp); (try clear p48); (try clear hCt); (try clear hCx2); (try clear j1); (try clear j3); (try clear j4); simp only [vp_in_iff, Int32.lt_iff_toInt_lt, Int32.le_iff_toInt_le, ← Int32.toInt_inj, Int32.toInt_add, Int32.toInt_sub, Int32.toInt_mul, Int32.toInt_neg, pq_NuO, pq_NuI, pq_NuJ, pq_NuR, pq_shr6, pq_shr7, pq_shr8, lqm1, lq0, lq1, lq12] at *; (try simp (disch := omega) only [pq_bm] at *); all_goals omega))⟩, hIA.fr fd2 (by decide) (by decide) (by decide) hFF (by decide), hIB.fr fd3 (by decide) (by decide) (by decide) hFF (by decide), hIs.fr fb8 hFF (by decide)⟩, ⟨(Or.inl hw9), (by focus ((try clear hIf); (try clear hIA); (try clear hIB); (try clear hIs); (try clear p1); (try clear p28); (try clear p36); (try clear p44); (try clear p53); (try clear p62); (try clear hwc); (try clear hAo); (try clear hBo); (try clear hAp); (try clear p48); (try clear hCt); (try clear hCx2); (try clear j1); (try clear j3); (try clear j4); simp only [vp_in_iff, Int32.lt_iff_toInt_lt, Int32.le_iff_toInt_le, ← Int32.toInt_inj, Int32.toInt_add, Int32.toInt_sub, Int32.toInt_mul, Int32.toInt_neg, pq_NuO, pq_NuI, pq_NuJ, pq_NuR, pq_shr6, pq_shr7, pq_shr8, lqm1, lq0, lq1, lq12] at *; (try simp (disch := omega) only [pq_bm] at *); all_goals omega)), (by focus ((try clear hIf); (try clear hIA); (try clear hIB); (try clear hIs); (try clear p1); (try clear p28); (try clear p36); (try clear p44); (try clear p53); (try clear p62); (try clear hwc); (try clear hAo); (try clear hBo); (try clear hAp); (try clear p48); (try clear hCt); (try clear hCx2); (try clear j1); (try clear j3); (try clear j4); simp only [vp_in_iff, Int32.lt_iff_toInt_lt, Int32.le_iff_toInt_le, ← Int32.toInt_inj, Int32.toInt_add, Int32.toInt_sub, Int32.toInt_mul, Int32.toInt_neg, pq_NuO, pq_NuI, pq_NuJ, pq_NuR, pq_shr6, pq_shr7, pq_shr8, lqm1, lq0, lq1, lq12] at *; (try simp (disch := omega) only [pq_bm] at *); all_goals omega))⟩, (by rw [show (if pw = 0 then LA else LB) = LA from if_pos hw9]; exact p48.1), ct, _, _, hFF.O ha (by decide) (by decide) fa6, hFF.R fb7 (by decide), (Classical.choose_spec (Classical.choose_spec p48.2))⟩)) dX10_count_51)
        · skip
          refine pq_get F ha (by decide) lk_X10_60 fa6 dX10_count_38 ?_
          refine pq_aload_n F dX10_count_41 rfl rfl ?_
          refine pq_get F ha (by decide) lk_X10_53 fa5 dX10_count_42 ?_
          refine pq_iload_n F dX10_count_45 rfl rfl ?_
          refine pq_aald F fb6 (by decide) (fun n1_46 n2_46 => (by change _ ≤ _ at n1_46; change _ ≤ 2 at n2_46; change 2 ≤ _ at n1_46; focus ((try clear hIf); (try clear hIA); (try clear hIB); (try clear hIs); (try clear p1); (try clear p28); (try clear p36); (try clear p44); (try clear p53); (try clear p62); (try clear hwc); (try clear hAo); (try clear hBo); (try clear hAp); (try clear p48); (try clear hCt); (try clear hCx2); (try clear j1); (try clear j3); (try clear j4); simp only [vp_in_iff, Int32.lt_iff_toInt_lt, Int32.le_iff_toInt_le, ← Int32.toInt_inj, Int32.toInt_add, Int32.toInt_sub, Int32.toInt_mul, Int32.toInt_neg, pq_NuO, pq_NuI, pq_NuJ, pq_NuR, pq_shr6, pq_shr7, pq_shr8, lqm1, lq0, lq1, lq12] at *; (try simp (disch := omega) only [pq_bm] at *); all_goals omega))) dX10_count_46 (fun o46 e46 k46 => ?_)
          have e46b : o46 = some B9 := e46.trans (by rw [hw9]; exact fd1)
          subst e46b
          obtain ⟨ko9, sz9, st9, ac9, n9, sn9, s9, ni9, si9, i9, he9, hAp⟩ := hBo
          refine pq_iload_n F dX10_count_47 rfl rfl ?_
          refine pq_callV (As := [_, _]) F (k_X1_textsOfGB l D cy _ _ ?_ _ ?_ _ ?_ ?_ ko9 sz9 st9 ac9 n9 sn9 s9 ni9 si9 i9 he9 _ hAp w1 w2 hCt pn.toInt.toNat ?_) ml_X10_160 fb7 (by decide) rfl (Nat.le_of_ble_eq_true rfl) ⟨Nat.le_of_ble_eq_true rfl, Nat.le_of_ble_eq_true rfl⟩ ⟨by decide, by decide⟩ dX10_count_48 (fun v48 S48 w48 => ?_)
          · exact fb7
          · exact fd3
          · focus ((try clear hIf); (try clear hIA); (try clear hIB); (try clear hIs); (try clear p1); (try clear p28); (try clear p36); (try clear p44); (try clear p53); (try clear p62); (try clear hwc); (try clear hAo); (try clear hBo); (try clear hAp); (try clear p48); (try clear hCt); (try clear hCx2); (try clear j1); (try clear j3); (try clear j4); simp only [vp_in_iff, Int32.lt_iff_toInt_lt, Int32.le_iff_toInt_le, ← Int32.toInt_inj, Int32.toInt_add, Int32.toInt_sub, Int32.toInt_mul, Int32.toInt_neg, pq_NuO, pq_NuI, pq_NuJ, pq_NuR, pq_shr6, pq_shr7, pq_shr8, lqm1, lq0, lq1, lq12] at *; (try simp (disch := omega) only [pq_bm] at *); all_goals omega)
          · focus ((try clear hIf); (try clear hIA); (try clear hIB); (try clear hIs); (try clear p1); (try clear p28); (try clear p36); (try clear p44); (try clear p53); (try clear p62); (try clear hwc); (try clear hAo); (try clear hBo); (try clear hAp); (try clear p48); (try clear hCt); (try clear hCx2); (try clear j1); (try clear j3); (try clear j4); simp only [vp_in_iff, Int32.lt_iff_toInt_lt, Int32.le_iff_toInt_le, ← Int32.toInt_inj, Int32.toInt_add, Int32.toInt_sub, Int32.toInt_mul, Int32.toInt_neg, pq_NuO, pq_NuI, pq_NuJ, pq_NuR, pq_shr6, pq_shr7, pq_shr8, lqm1, lq0, lq1, lq12] at *; (try simp (disch := omega) only [pq_bm] at *); all_goals omega)
          · focus ((try clear hIf); (try clear hIA); (try clear hIB); (try clear hIs); (try clear p1); (try clear p28); (try clear p36); (try clear p44); (try clear p53); (try clear p62); (try clear hwc); (try clear hAo); (try clear hBo); (try clear hAp); (try clear p48); (try clear hCt); (try clear hCx2); (try clear j1); (try clear j3); (try clear j4); simp only [vp_in_iff, Int32.lt_iff_toInt_lt, Int32.le_iff_toInt_le, ← Int32.toInt_inj, Int32.toInt_add, Int32.toInt_sub, Int32.toInt_mul, Int32.toInt_neg, pq_NuO, pq_NuI, pq_NuJ, pq_NuR, pq_shr6, pq_shr7, pq_shr8, lqm1, lq0, lq1, lq12] at *; (try simp (disch := omega) only [pq_bm] at *); all_goals omega)
          obtain ⟨hF48, y48, rfl, p48⟩ := w48
          have ha_48 := (hF48.1 _ _ ha (by decide)).1
          have fb1_48 := (hF48.1 _ _ fb1 (by decide)).1
          have ec48_0_ha_48 := hF48.O ha (by decide) (by decide) fa0
          have fb2_48 := (hF48.1 _ _ fb2 (by decide)).1
          have ec48_1_ha_48 := hF48.O ha (by decide) (by decide) fa1
          have fb3_48 := (hF48.1 _ _ fb3 (by decide)).1
          have ec48_2_ha_48 := hF48.O ha (by decide) (by decide) fa2
          have fb4_48 := (hF48.1 _ _ fb4 (by decide)).1
          have ec48_3_ha_48 := hF48.O ha (by decide) (by decide) fa3
          have fb5_48 := (hF48.1 _ _ fb5 (by decide)).1
          have ec48_4_ha_48 := hF48.O ha (by decide) (by decide) fa4
          have fb6_48 := (hF48.1 _ _ fb6 (by decide)).1
          have ec48_5_ha_48 := hF48.O ha (by decide) (by decide) fa5
          have fb7_48 := (hF48.1 _ _ fb7 (by decide)).1
          have ec48_6_ha_48 := hF48.O ha (by decide) (by decide) fa6
          have fb8_48 := (hF48.1 _ _ fb8 (by decide)).1
          have ec48_7_ha_48 := hF48.O ha (by decide) (by decide) fa7
          have ec48_1_fb1_48 := hF48.O fb1 (by decide) (by decide) fet
          exact pq_lift (pq_lret F hr hlk hA (Nat.zero_le _) (Nat.zero_le _) (pq_andM (M0 := [(189, 0), (4, 0), (4, 1)]) (by decide) ((pq_Fr.rf.cm hF48 (by decide))) (fun hFF => ⟨_, rfl, ⟨tp, pl, rd, wk, mg, pt, ct, sr, A9, B9, hIf.fr hFF (by decide), (hF48.O fb1 (by decide) (by decide) fet), ⟨(by focus ((try clear hIf); (try clear hIA); (try clear hIB); (try clear hIs); (try clear p1); (try clear p28); (try clear p36); (try clear p44); (try clear p53); (try clear p62); (try clear hwc); (try clear hAo); (try clear hBo); (try clear hAp); (try clear p48); (try clear hCt); (try clear hCx2); (try clear j1); (try clear j3); (try clear j4); simp only [vp_in_iff, Int32.lt_iff_toInt_lt, Int32.le_iff_toInt_le, ← Int32.toInt_inj, Int32.toInt_add, Int32.toInt_sub, Int32.toInt_mul, Int32.toInt_neg, pq_NuO, pq_NuI, pq_NuJ, pq_NuR, pq_shr6, pq_shr7, pq_shr8, lqm1, lq0, lq1, lq12] at *; (try simp (disch := omega) only [pq_bm] at *); all_goals omega)), (by focus ((try clear hIf); (try clear hIA); (try clear hIB); (try clear hIs); (try clear p1); (try clear p28); (try clear p36); (try clear p44); (try clear p53); (try clear p62); (try clear hwc); (try clear hAo); (try clear hBo); (try clear hAp); (try clear p48); (try clear hCt); (try clear hCx2); (try clear j1); (try clear j3); (try clear j4); simp only [vp_in_iff, Int32.lt_iff_toInt_lt, Int32.le_iff_toInt_le, ← Int32.toInt_inj, Int32.toInt_add, Int32.toInt_sub, Int32.toInt_mul, Int32.toInt_neg, pq_NuO, pq_NuI, pq_NuJ, pq_NuR, pq_shr6, pq_shr7, pq_shr8, lqm1, lq0, lq1, lq12] at *; (try simp (disch := omega) only [pq_bm] at *); all_goals omega))⟩, hIA.fr fd2 (by decide) (by decide) (by decide) hFF (by decide), hIB.fr fd3 (by decide) (by decide) (by decide) hFF (by decide), hIs.fr fb8 hFF (by decide)⟩, ⟨(Or.inr hw9), (by focus ((try clear hIf); (try clear hIA); (try clear hIB); (try clear hIs); (try clear p1); (try clear p28); (try clear p36); (try clear p44); (try clear p53); (try clear p62); (try clear hwc); (try clear hAo); (try clear hBo); (try clear hAp); (try clear p48); (try clear hCt); (try clear hCx2); (try clear j1); (try clear j3); (try clear j4); simp only [vp_in_iff, Int32.lt_iff_toInt_lt, Int32.le_iff_toInt_le, ← Int32.toInt_inj, Int32.toInt_add, Int32.toInt_sub, Int32.toInt_mul, Int32.toInt_neg, pq_NuO, pq_NuI, pq_NuJ, pq_NuR, pq_shr6, pq_shr7, pq_shr8, lqm1, lq0, lq1, lq12] at *; (try simp (disch := omega) only [pq_bm] at *); all_goals omega)), (by focus ((try clear hIf); (try clear hIA); (try clear hIB); (try clear hIs); (try clear p1); (try clear p28); (try clear p36); (try clear p44); (try clear p53); (try clear p62); (try clear hwc); (try clear hAo); (try clear hBo); (try clear hAp); (try clear p48); (try clear hCt); (try clear hCx2); (try clear j1); (try clear j3); (try clear j4); simp only [vp_in_iff, Int32.lt_iff_toInt_lt, Int32.le_iff_toInt_le, ← Int32.toInt_inj, Int32.toInt_add, Int32.toInt_sub, Int32.toInt_mul, Int32.toInt_neg, pq_NuO, pq_NuI, pq_NuJ, pq_NuR, pq_shr6, pq_shr7, pq_shr8, lqm1, lq0, lq1, lq12] at *; (try simp (disch := omega) only [pq_bm] at *); all_goals omega))⟩, (by rw [show (if pw = 0 then LA else LB) = LB from if_neg (by rw [hw9]; decide)]; exact p48.1), ct, _, _, hFF.O ha (by decide) (by decide) fa6, hFF.R fb7 (by decide), (Classical.choose_spec (Classical.choose_spec p48.2))⟩)) dX10_count_51)
      · skip
        exact pq_thr F ht hlk hA hl0 (is := 158) (text := "texts of this length are not counted") (cls := "java/lang/IllegalArgumentException") (by decide) xw_93 ⟨Nat.le_of_ble_eq_true rfl, Nat.le_of_ble_eq_true rfl⟩ (Nat.le_of_ble_eq_true rfl) (Nat.le_of_ble_eq_true rfl) (Nat.le_of_ble_eq_true rfl) (Nat.le_of_ble_eq_true rfl) (⟨rfl, (fun w9 => (by have w7 := w9.2.1; have w8 := w9.2.2; clear w9; focus ((try clear hIf); (try clear hIA); (try clear hIB); (try clear hIs); (try clear p1); (try clear p28); (try clear p36); (try clear p44); (try clear p53); (try clear p62); (try clear hwc); (try clear hAo); (try clear hBo); (try clear hAp); (try clear p48); (try clear hCt); (try clear hCx2); (try clear j1); (try clear j3); (try clear j4); simp only [vp_in_iff, Int32.lt_iff_toInt_lt, Int32.le_iff_toInt_le, ← Int32.toInt_inj, Int32.toInt_add, Int32.toInt_sub, Int32.toInt_mul, Int32.toInt_neg, pq_NuO, pq_NuI, pq_NuJ, pq_NuR, pq_shr6, pq_shr7, pq_shr8, lqm1, lq0, lq1, lq12] at *; (try simp (disch := omega) only [pq_bm] at *); all_goals omega))), pq_andM (M0 := [(189, 0), (4, 0), (4, 1)]) (by decide) (pq_Fr.rf) (fun hFF => ⟨⟨tp, pl, rd, wk, mg, pt, ct, sr, A9, B9, hIf.fr hFF (by decide), fet, ⟨(by focus ((try clear hIf); (try clear hIA); (try clear hIB); (try clear hIs); (try clear p1); (try clear p28); (try clear p36); (try clear p44); (try clear p53); (try clear p62); (try clear hwc); (try clear hAo); (try clear hBo); (try clear hAp); (try clear p48); (try clear hCt); (try clear hCx2); (try clear j1); (try clear j3); (try clear j4); simp only [vp_in_iff, Int32.lt_iff_toInt_lt, Int32.le_iff_toInt_le, ← Int32.toInt_inj, Int32.toInt_add, Int32.toInt_sub, Int32.toInt_mul, Int32.toInt_neg, pq_NuO, pq_NuI, pq_NuJ, pq_NuR, pq_shr6, pq_shr7, pq_shr8, lqm1, lq0, lq1, lq12] at *; (try simp (disch := omega) only [pq_bm] at *); all_goals omega)), (by focus ((try clear hIf); (try clear hIA); (try clear hIB); (try clear hIs); (try clear p1); (try clear p28); (try clear p36); (try clear p44); (try clear p53); (try clear p62); (try clear hwc); (try clear hAo); (try clear hBo); (try clear hAp); (try clear p48); (try clear hCt); (try clear hCx2); (try clear j1); (try clear j3); (try clear j4); simp only [vp_in_iff, Int32.lt_iff_toInt_lt, Int32.le_iff_toInt_le, ← Int32.toInt_inj, Int32.toInt_add, Int32.toInt_sub, Int32.toInt_mul, Int32.toInt_neg, pq_NuO, pq_NuI, pq_NuJ, pq_NuR, pq_shr6, pq_shr7, pq_shr8, lqm1, lq0, lq1, lq12] at *; (try simp (disch := omega) only [pq_bm] at *); all_goals omega))⟩, hIA.fr fd2 (by decide) (by decide) (by decide) hFF (by decide), hIB.fr fd3 (by decide) (by decide) (by decide) hFF (by decide), hIs.fr fb8 hFF (by decide)⟩, hCx2⟩)⟩) dX10_count_27 dX10_count_30 dX10_count_31 dX10_count_33 dX10_count_36
  · skip
    exact pq_thr F ht hlk hA hl0 (is := 102) (text := "there is no such pattern") (cls := "java/lang/IllegalArgumentException") (by decide) xw_93 ⟨Nat.le_of_ble_eq_true rfl, Nat.le_of_ble_eq_true rfl⟩ (Nat.le_of_ble_eq_true rfl) (Nat.le_of_ble_eq_true rfl) (Nat.le_of_ble_eq_true rfl) (Nat.le_of_ble_eq_true rfl) (⟨rfl, (fun w9 => (by have w8 := p1.mpr w9.1; rw [w8] at c4; exact absurd c4 (by decide))), pq_andM (M0 := [(189, 0), (4, 0), (4, 1)]) (by decide) (pq_Fr.rf) (fun hFF => ⟨⟨tp, pl, rd, wk, mg, pt, ct, sr, A9, B9, hIf.fr hFF (by decide), fet, ⟨(by focus ((try clear hIf); (try clear hIA); (try clear hIB); (try clear hIs); (try clear p1); (try clear p28); (try clear p36); (try clear p44); (try clear p53); (try clear p62); (try clear hwc); (try clear hAo); (try clear hBo); (try clear hAp); (try clear p48); (try clear hCt); (try clear hCx2); (try clear j1); (try clear j3); (try clear j4); simp only [vp_in_iff, Int32.lt_iff_toInt_lt, Int32.le_iff_toInt_le, ← Int32.toInt_inj, Int32.toInt_add, Int32.toInt_sub, Int32.toInt_mul, Int32.toInt_neg, pq_NuO, pq_NuI, pq_NuJ, pq_NuR, pq_shr6, pq_shr7, pq_shr8, lqm1, lq0, lq1, lq12] at *; (try simp (disch := omega) only [pq_bm] at *); all_goals omega)), (by focus ((try clear hIf); (try clear hIA); (try clear hIB); (try clear hIs); (try clear p1); (try clear p28); (try clear p36); (try clear p44); (try clear p53); (try clear p62); (try clear hwc); (try clear hAo); (try clear hBo); (try clear hAp); (try clear p48); (try clear hCt); (try clear hCx2); (try clear j1); (try clear j3); (try clear j4); simp only [vp_in_iff, Int32.lt_iff_toInt_lt, Int32.le_iff_toInt_le, ← Int32.toInt_inj, Int32.toInt_add, Int32.toInt_sub, Int32.toInt_mul, Int32.toInt_neg, pq_NuO, pq_NuI, pq_NuJ, pq_NuR, pq_shr6, pq_shr7, pq_shr8, lqm1, lq0, lq1, lq12] at *; (try simp (disch := omega) only [pq_bm] at *); all_goals omega))⟩, hIA.fr fd2 (by decide) (by decide) (by decide) hFF (by decide), hIB.fr fd3 (by decide) (by decide) (by decide) hFF (by decide), hIs.fr fb8 hFF (by decide)⟩, hCx2⟩)⟩) dX10_count_7 dX10_count_10 dX10_count_11 dX10_count_13 dX10_count_16

