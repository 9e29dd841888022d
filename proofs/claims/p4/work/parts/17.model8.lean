
set_option maxHeartbeats 4000000 in
set_option maxRecDepth 100000 in
theorem k_X11_begin (l : Launch) (D : va_G) (cy : Nat → ClassId) (S : HS) (a : Nat) (ha : pq_R S a 14) (mc ms ast ask mn : Nat) (y : Int32) (e21 : hO S a 21 = .ref ast) (hst : pq_R S ast 127) (e22 : hO S a 22 = .ref ask) (hsk : pq_R S ask 128) (e6 : hO S a 6 = .int y) (hy : y.toInt = (mn : Int)) (hmn : mn ≤ 8192) (hsame : hN S ask = hN S ast) (hmc : hN S ast < mn + 1 → 2 ≤ mc ∧ 4 * mn ≤ ms) : pq_C l D cy yX11_begin cX11_begin 1 (none) 1 mc ms S [.ref a] (fun v S2 => v = none ∧ pq_Fr [(14, 21), (14, 22), (14, 23), (14, 24)] S S2 ∧ ∃ (t k : Nat) (x : Int32), hO S2 a 21 = .ref t ∧ pq_R S2 t 127 ∧ hO S2 a 22 = .ref k ∧ pq_R S2 k 128 ∧ hO S2 a 23 = .int x ∧ hO S2 a 24 = .int 0 ∧ hN S2 k = hN S2 t ∧ hN S2 t = (if hN S ast < mn + 1 then 2 * mn else hN S ast) ∧ mn + 1 ≤ hN S2 t) := by
  refine pq_start (by decide) (Nat.le_of_ble_eq_true rfl) ?_
  intro p e s m args below meth c A F hr hlk hnm hA
  have qm1 : (-1 : Int32).toInt = -1 := rfl
  have q0 : (0 : Int32).toInt = 0 := rfl
  have q1 : (1 : Int32).toInt = 1 := rfl
  have q2 : (2 : Int32).toInt = 2 := rfl
  refine pq_aload_n F dX11_begin_0 rfl rfl ?_
  refine pq_get F ha (by decide) lk_X11_115 e21 dX11_begin_1 ?_
  refine pq_alen F hst (by decide) rfl dX11_begin_4 (fun l4 u4 => ?_)
  refine pq_aload_n F dX11_begin_5 rfl rfl ?_
  refine pq_get F ha (by decide) lk_X11_7 e6 dX11_begin_6 ?_
  refine pq_iconst (v := 1) F dX11_begin_9 (by decide) ?_
  refine pq_iadd F dX11_begin_10 ?_
  refine pq_icmp_ge (tgt := 43) F dX11_begin_11 (by decide) (fun c11 => ?_) (fun c11 => ?_)
  · skip
    refine pq_aload_n F dX11_begin_43 rfl rfl ?_
    refine pq_dup F dX11_begin_44 rfl ?_
    refine pq_getI F ha (by decide) lk_X11_118 rfl dX11_begin_45 (fun x45 e45 l45 u45 => ?_)
    refine pq_iconst (v := 1) F dX11_begin_48 (by decide) ?_
    refine pq_iadd F dX11_begin_49 ?_
    refine pq_putI F ha (by decide) lp_X11_118 rfl (pq_any1 _) (pq_any2 _) dX11_begin_50 ?_
    refine pq_aload_n F dX11_begin_53 rfl rfl ?_
    refine pq_iconst (v := 0) F dX11_begin_54 (by decide) ?_
    refine pq_putI F ha (by decide) lp_X11_124 rfl (pq_any1 _) (pq_any2 _) dX11_begin_55 ?_
    exact pq_vret F hr hlk hA (by first | exact Nat.zero_le _ | (show 0 + 1 + 1 ≤ mc; omega)) (by first | exact Nat.zero_le _ | (show 0 + 2 * mn + 2 * mn ≤ ms; omega)) (⟨rfl, ((pq_Fr.rf.uO ha (by decide)).uO ha (by decide)), ast, ask, _, pq_kp (pq_kp e21 (by decide)) (by decide), hst, pq_kp (pq_kp e22 (by decide)) (by decide), hsk, pq_kp pq_ks (by decide), pq_ks, hsame, by rw [if_neg (by have z := nI_toInt (n := hN S ast) (by omega); simp only [vp_in_iff, Int32.lt_iff_toInt_lt, Int32.le_iff_toInt_le, ← Int32.toInt_inj, Int32.toInt_add, Int32.toInt_sub, Int32.toInt_mul, Int32.toInt_neg, pq_NuO, pq_NuI, pq_NuJ, qm1, q0, q1, q2] at *; (try simp (disch := omega) only [pq_bm] at *); all_goals omega)]; rfl, by show mn + 1 ≤ hN S ast; have z := nI_toInt (n := hN S ast) (by omega); simp only [vp_in_iff, Int32.lt_iff_toInt_lt, Int32.le_iff_toInt_le, ← Int32.toInt_inj, Int32.toInt_add, Int32.toInt_sub, Int32.toInt_mul, Int32.toInt_neg, pq_NuO, pq_NuI, pq_NuJ, qm1, q0, q1, q2] at *; (try simp (disch := omega) only [pq_bm] at *); all_goals omega⟩) dX11_begin_58
  · skip
    have hlen : hN S ast < mn + 1 := (by have z := nI_toInt (n := hN S ast) (by omega); simp only [vp_in_iff, Int32.lt_iff_toInt_lt, Int32.le_iff_toInt_le, ← Int32.toInt_inj, Int32.toInt_add, Int32.toInt_sub, Int32.toInt_mul, Int32.toInt_neg, pq_NuO, pq_NuI, pq_NuJ, qm1, q0, q1, q2] at *; (try simp (disch := omega) only [pq_bm] at *); all_goals omega)
    have hm := hmc hlen
    have hz : (2 * y).toInt = 2 * (mn : Int) := (by simp only [vp_in_iff, Int32.lt_iff_toInt_lt, Int32.le_iff_toInt_le, ← Int32.toInt_inj, Int32.toInt_add, Int32.toInt_sub, Int32.toInt_mul, Int32.toInt_neg, pq_NuO, pq_NuI, pq_NuJ, qm1, q0, q1, q2] at *; (try simp (disch := omega) only [pq_bm] at *); all_goals omega)
    have hz0 : (2 * y).toNatClampNeg = 2 * mn := (by have := pq_cl (x := 2 * y) (by omega); omega)
    refine pq_aload_n F dX11_begin_14 rfl rfl ?_
    refine pq_iconst (v := 2) F dX11_begin_15 (by decide) ?_
    refine pq_aload_n F dX11_begin_16 rfl rfl ?_
    refine pq_get F ha (by decide) lk_X11_7 e6 dX11_begin_17 ?_
    refine pq_imul F dX11_begin_20 ?_
    refine pq_newI F (r := 127) (n := 2 * mn) (by decide) (by decide) ac_int rfl (by decide) (by omega) hz0 (by constructor <;> omega) (by omega) (by show 0 + 1 ≤ mc; omega) (by show 0 + 2 * mn ≤ ms; omega) dX11_begin_21 (fun q21 nq21 h21 => ?_)
    have ha_21 := pq_nR (r := 127) (n := 2 * mn) (ds := fun _ => Value.null) nq21 ha
    have hst_21 := pq_nR (r := 127) (n := 2 * mn) (ds := fun _ => Value.null) nq21 hst
    have hsk_21 := pq_nR (r := 127) (n := 2 * mn) (ds := fun _ => Value.null) nq21 hsk
    refine pq_put F ha_21 (by decide) lp_X11_115 rfl rfl (⟨by decide, _, rfl, h21⟩) dX11_begin_23 ?_
    refine pq_aload_n F dX11_begin_26 rfl rfl ?_
    refine pq_iconst (v := 2) F dX11_begin_27 (by decide) ?_
    refine pq_aload_n F dX11_begin_28 rfl rfl ?_
    refine pq_get F ha_21 (by decide) lk_X11_7 (pq_kp (pq_nO nq21 ha e6) (by decide)) dX11_begin_29 ?_
    refine pq_imul F dX11_begin_32 ?_
    refine pq_newI F (r := 128) (n := 2 * mn) (by decide) (by decide) ac_int rfl (by decide) (by omega) hz0 (by constructor <;> omega) (by omega) (by show 0 + 1 + 1 ≤ mc; omega) (by show 0 + 2 * mn + 2 * mn ≤ ms; omega) dX11_begin_33 (fun q33 nq33 h33 => ?_)
    have h21_33 := pq_nR (r := 128) (n := 2 * mn) (ds := fun _ => Value.null) nq33 h21
    have ha_33 := pq_nR (r := 128) (n := 2 * mn) (ds := fun _ => Value.null) nq33 ha_21
    have hsk_33 := pq_nR (r := 128) (n := 2 * mn) (ds := fun _ => Value.null) nq33 hsk_21
    refine pq_put F ha_33 (by decide) lp_X11_121 rfl rfl (⟨by decide, _, rfl, h33⟩) dX11_begin_35 ?_
    have z21 : hN (pq_nw (pq_uO (pq_nw S q21 127 (2 * mn) (fun _ => Value.null)) a 21 (Value.ref q21)) q33 128 (2 * mn) (fun _ => Value.null)) q21 = 2 * mn := (pq_nM nq33 h21).trans (pq_nN (S := S) (q := q21) (r := 127) (n := 2 * mn) (ds := fun _ => Value.null))
    refine pq_aload_n F dX11_begin_38 rfl rfl ?_
    refine pq_iconst (v := 0) F dX11_begin_39 (by decide) ?_
    refine pq_putI F ha_33 (by decide) lp_X11_118 rfl (pq_any1 _) (pq_any2 _) dX11_begin_40 ?_
    refine pq_aload_n F dX11_begin_43 rfl rfl ?_
    refine pq_dup F dX11_begin_44 rfl ?_
    refine pq_get F ha_33 (by decide) lk_X11_118 pq_ks dX11_begin_45 ?_
    refine pq_iconst (v := 1) F dX11_begin_48 (by decide) ?_
    refine pq_iadd F dX11_begin_49 ?_
    refine pq_putI F ha_33 (by decide) lp_X11_118 rfl (pq_any1 _) (pq_any2 _) dX11_begin_50 ?_
    refine pq_aload_n F dX11_begin_53 rfl rfl ?_
    refine pq_iconst (v := 0) F dX11_begin_54 (by decide) ?_
    refine pq_putI F ha_33 (by decide) lp_X11_124 rfl (pq_any1 _) (pq_any2 _) dX11_begin_55 ?_
    exact pq_vret F hr hlk hA (by first | exact Nat.zero_le _ | (show 0 + 1 + 1 ≤ mc; omega)) (by first | exact Nat.zero_le _ | (show 0 + 2 * mn + 2 * mn ≤ ms; omega)) (⟨rfl, (((((((pq_Fr.rf.nw nq21).uO ha_21 (by decide)).nw nq33).uO ha_33 (by decide)).uO ha_33 (by decide)).uO ha_33 (by decide)).uO ha_33 (by decide)), q21, q33, _, pq_kp (pq_kp (pq_kp (pq_kp (pq_nO nq33 ha_21 pq_ks) (by decide)) (by decide)) (by decide)) (by decide), h21_33, pq_kp (pq_kp (pq_kp pq_ks (by decide)) (by decide)) (by decide), h33, pq_kp pq_ks (by decide), pq_ks, by simp only [pq_NuO, pq_nN]; exact z21.symm, by rw [if_pos hlen]; simp only [pq_NuO]; exact z21, by simp only [pq_NuO]; rw [z21]; omega⟩) dX11_begin_58

