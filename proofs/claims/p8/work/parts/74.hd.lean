
set_option maxHeartbeats 4000000 in
set_option maxRecDepth 100000 in
theorem k_X11_beginG (l : Launch) (D : va_G) (cy : Nat → ClassId) (S : HS) (a : Nat) (ha : pq_R S a 14) (mc ms ast ask mn : Nat) (y : Int32) (e21 : hO S a 21 = .ref ast) (hst : pq_R S ast 127) (e22 : hO S a 22 = .ref ask) (hsk : pq_R S ask 128) (e6 : hO S a 6 = .int y) (hy : y.toInt = (mn : Int)) (hmn : mn ≤ 8192) (hsame : hN S ask = hN S ast) (hmc : hN S ast < mn + 1 → 2 ≤ mc ∧ 4 * mn ≤ ms) (x0 : Int32) (e23 : hO S a 23 = .int x0) (hx0 : 0 ≤ x0.toInt) (hx1 : x0.toInt ≤ 1000000) (hsb : ∀ i, i < hN S ast → (hI S ast i).toInt ≤ x0.toInt) : pq_C l D cy yX11_begin cX11_begin 1 (none) 1 mc ms S [.ref a] (fun v S2 => v = none ∧ pq_Fr [(14, 21), (14, 22), (14, 23), (14, 24)] S S2 ∧ ∃ (t k : Nat) (x : Int32), hO S2 a 21 = .ref t ∧ pq_R S2 t 127 ∧ hO S2 a 22 = .ref k ∧ pq_R S2 k 128 ∧ hO S2 a 23 = .int x ∧ hO S2 a 24 = .int 0 ∧ hN S2 k = hN S2 t ∧ hN S2 t = (if hN S ast < mn + 1 then 2 * mn else hN S ast) ∧ mn + 1 ≤ hN S2 t ∧ (0 ≤ x.toInt ∧ x.toInt ≤ x0.toInt + 1) ∧ ∀ i, i < hN S2 t → (hI S2 t i).toInt < x.toInt) := by
  refine pq_start (by decide) (Nat.le_of_ble_eq_true rfl) ?_
  intro p e s m args below meth c A F hr hlk hnm hA
  have qm1 : (-1 : Int32).toInt = -1 := rfl
  have q0 : (0 : Int32).toInt = 0 := rfl
  have q1 : (1 : Int32).toInt = 1 := rfl
  have q2 : (2 : Int32).toInt = 2 := rfl
  refine pq_aload_n F dX11_begin_0 rfl rfl ?_
  refine pq_get F ha (by decide) lk_X11_115 e21 dX11_begin_1 ?_
  refine pq_alen F hst (by decide) rfl dX11_begin_4 (fun l4 u4 => ?_)
  refine pq_aload_n F dX11_begin_5 rfl rfl ?_
  refine pq_get F ha (by decide) lk_X11_7 e6 dX11_begin_6 ?_
  refine pq_iconst (v := 1) F dX11_begin_9 (by decide) ?_
  refine pq_iadd F dX11_begin_10 ?_
  refine pq_icmp_ge (tgt := 43) F dX11_begin_11 (by decide) (fun c11 => ?_) (fun c11 => ?_)
  · skip
    refine pq_aload_n F dX11_begin_43 rfl rfl ?_
    refine pq_dup F dX11_begin_44 rfl ?_
    refine pq_get F ha (by decide) lk_X11_118 e23 dX11_begin_45 ?_
    refine pq_iconst (v := 1) F dX11_begin_48 (by decide) ?_
    refine pq_iadd F dX11_begin_49 ?_
    refine pq_putI F ha (by decide) lp_X11_118 rfl (pq_any1 _) (pq_any2 _) dX11_begin_50 ?_
    refine pq_aload_n F dX11_begin_53 rfl rfl ?_
    refine pq_iconst (v := 0) F dX11_begin_54 (by decide) ?_
    refine pq_putI F ha (by decide) lp_X11_124 rfl (pq_any1 _) (pq_any2 _) dX11_begin_55 ?_
    exact pq_vret F hr hlk hA (by first | exact Nat.zero_le _ | (show 0 + 1 + 1 ≤ mc; omega)) (by first | exact Nat.zero_le _ | (show 0 + 2 * mn + 2 * mn ≤ ms; omega)) (⟨rfl, ((pq_Fr.rf.uO ha (by decide)).uO ha (by decide)), ast, ask, _, pq_kp (pq_kp e21 (by decide)) (by decide), hst, pq_kp (pq_kp e22 (by decide)) (by decide), hsk, pq_kp pq_ks (by decide), pq_ks, hsame, by rw [if_neg (by have z := nI_toInt (n := hN S ast) (by omega); simp only [vp_in_iff, Int32.lt_iff_toInt_lt, Int32.le_iff_toInt_le, ← Int32.toInt_inj, Int32.toInt_add, Int32.toInt_sub, Int32.toInt_mul, Int32.toInt_neg, pq_NuO, pq_NuI, pq_NuJ, qm1, q0, q1, q2] at *; (try simp (disch := omega) only [pq_bm] at *); all_goals omega)]; rfl, by show mn + 1 ≤ hN S ast; have z := nI_toInt (n := hN S ast) (by omega); simp only [vp_in_iff, Int32.lt_iff_toInt_lt, Int32.le_iff_toInt_le, ← Int32.toInt_inj, Int32.toInt_add, Int32.toInt_sub, Int32.toInt_mul, Int32.toInt_neg, pq_NuO, pq_NuI, pq_NuJ, qm1, q0, q1, q2] at *; (try simp (disch := omega) only [pq_bm] at *); all_goals omega, ⟨(by clear hsb; simp only [vp_in_iff, Int32.lt_iff_toInt_lt, Int32.le_iff_toInt_le, ← Int32.toInt_inj, Int32.toInt_add, Int32.toInt_sub, Int32.toInt_mul, Int32.toInt_neg, pq_NuO, pq_NuI, pq_NuJ, qm1, q0, q1, q2] at *; (try simp (disch := omega) only [pq_bm] at *); all_goals omega), (by clear hsb; simp only [vp_in_iff, Int32.lt_iff_toInt_lt, Int32.le_iff_toInt_le, ← Int32.toInt_inj, Int32.toInt_add, Int32.toInt_sub, Int32.toInt_mul, Int32.toInt_neg, pq_NuO, pq_NuI, pq_NuJ, qm1, q0, q1, q2] at *; (try simp (disch := omega) only [pq_bm] at *); all_goals omega)⟩, fun i hi => (by have z := hsb i hi; show (hI S ast i).toInt < _; clear hsb; simp only [vp_in_iff, Int32.lt_iff_toInt_lt, Int32.le_iff_toInt_le, ← Int32.toInt_inj, Int32.toInt_add, Int32.toInt_sub, Int32.toInt_mul, Int32.toInt_neg, pq_NuO, pq_NuI, pq_NuJ, qm1, q0, q1, q2] at *; (try simp (disch := omega) only [pq_bm] at *); all_goals omega)⟩) dX11_begin_58
  · skip
    have hlen : hN S ast < mn + 1 := (by have z := nI_toInt (n := hN S ast) (by omega); simp only [vp_in_iff, Int32.lt_iff_toInt_lt, Int32.le_iff_toInt_le, ← Int32.toInt_inj, Int32.toInt_add, Int32.toInt_sub, Int32.toInt_mul, Int32.toInt_neg, pq_NuO, pq_NuI, pq_NuJ, qm1, q0, q1, q2] at *; (try simp (disch := omega) only [pq_bm] at *); all_goals omega)
    have hm := hmc hlen
    have hz : (2 * y).toInt = 2 * (mn : Int) := (by simp only [vp_in_iff, Int32.lt_iff_toInt_lt, Int32.le_iff_toInt_le, ← Int32.toInt_inj, Int32.toInt_add, Int32.toInt_sub, Int32.toInt_mul, Int32.toInt_neg, pq_NuO, pq_NuI, pq_NuJ, qm1, q0, q1, q2] at *; (try simp (disch := omega) only [pq_bm] at *); all_goals omega)
    have hz0 : (2 * y).toNatClampNeg = 2 * mn := (by have := pq_cl (x := 2 * y) (by omega); omega)
    refine pq_aload_n F dX11_begin_14 rfl rfl ?_
    refine pq_iconst (v := 2) F dX11_begin_15 (by decide) ?_
    refine pq_aload_n F dX11_begin_16 rfl rfl ?_
    refine pq_get F ha (by decide) lk_X11_7 e6 dX11_begin_17 ?_
    refine pq_imul F dX11_begin_20 ?_
    refine pq_newI F (r := 127) (n := 2 * mn) (by decide) (by decide) ac_int rfl (by decide) (by omega) hz0 (by constructor <;> omega) (by omega) (by show 0 + 1 ≤ mc; omega) (by show 0 + 2 * mn ≤ ms; omega) dX11_begin_21 (fun q21 nq21 h21 => ?_)
    have ha_21 := pq_nR (r := 127) (n := 2 * mn) (ds := fun _ => Value.null) nq21 ha
    have hst_21 := pq_nR (r := 127) (n := 2 * mn) (ds := fun _ => Value.null) nq21 hst
    have hsk_21 := pq_nR (r := 127) (n := 2 * mn) (ds := fun _ => Value.null) nq21 hsk
    refine pq_put F ha_21 (by decide) lp_X11_115 rfl rfl (⟨by decide, _, rfl, h21⟩) dX11_begin_23 ?_
    refine pq_aload_n F dX11_begin_26 rfl rfl ?_
    refine pq_iconst (v := 2) F dX11_begin_27 (by decide) ?_
    refine pq_aload_n F dX11_begin_28 rfl rfl ?_
    refine pq_get F ha_21 (by decide) lk_X11_7 (pq_kp (pq_nO nq21 ha e6) (by decide)) dX11_begin_29 ?_
    refine pq_imul F dX11_begin_32 ?_
    refine pq_newI F (r := 128) (n := 2 * mn) (by decide) (by decide) ac_int rfl (by decide) (by omega) hz0 (by constructor <;> omega) (by omega) (by show 0 + 1 + 1 ≤ mc; omega) (by show 0 + 2 * mn + 2 * mn ≤ ms; omega) dX11_begin_33 (fun q33 nq33 h33 => ?_)
    have h21_33 := pq_nR (r := 128) (n := 2 * mn) (ds := fun _ => Value.null) nq33 h21
    have ha_33 := pq_nR (r := 128) (n := 2 * mn) (ds := fun _ => Value.null) nq33 ha_21
    have hsk_33 := pq_nR (r := 128) (n := 2 * mn) (ds := fun _ => Value.null) nq33 hsk_21
    refine pq_put F ha_33 (by decide) lp_X11_121 rfl rfl (⟨by decide, _, rfl, h33⟩) dX11_begin_35 ?_
    have z22 : hI (pq_nw (pq_uO (pq_nw S q21 127 (2 * mn) (fun _ => Value.null)) a 21 (Value.ref q21)) q33 128 (2 * mn) (fun _ => Value.null)) q21 = (fun _ => 0) := (va_up_ne _ _ (show q21 ≠ q33 from fun e => nq33 (by rw [← e]; exact h21.1))).trans (va_up_self _ _ _)
    have z21 : hN (pq_nw (pq_uO (pq_nw S q21 127 (2 * mn) (fun _ => Value.null)) a 21 (Value.ref q21)) q33 128 (2 * mn) (fun _ => Value.null)) q21 = 2 * mn := (pq_nM nq33 h21).trans (pq_nN (S := S) (q := q21) (r := 127) (n := 2 * mn) (ds := fun _ => Value.null))
    refine pq_aload_n F dX11_begin_38 rfl rfl ?_
    refine pq_iconst (v := 0) F dX11_begin_39 (by decide) ?_
    refine pq_putI F ha_33 (by decide) lp_X11_118 rfl (pq_any1 _) (pq_any2 _) dX11_begin_40 ?_
    refine pq_aload_n F dX11_begin_43 rfl rfl ?_
    refine pq_dup F dX11_begin_44 rfl ?_
    refine pq_get F ha_33 (by decide) lk_X11_118 pq_ks dX11_begin_45 ?_
    refine pq_iconst (v := 1) F dX11_begin_48 (by decide) ?_
    refine pq_iadd F dX11_begin_49 ?_
    refine pq_putI F ha_33 (by decide) lp_X11_118 rfl (pq_any1 _) (pq_any2 _) dX11_begin_50 ?_
    refine pq_aload_n F dX11_begin_53 rfl rfl ?_
    refine pq_iconst (v := 0) F dX11_begin_54 (by decide) ?_
    refine pq_putI F ha_33 (by decide) lp_X11_124 rfl (pq_any1 _) (pq_any2 _) dX11_begin_55 ?_
    exact pq_vret F hr hlk hA (by first | exact Nat.zero_le _ | (show 0 + 1 + 1 ≤ mc; omega)) (by first | exact Nat.zero_le _ | (show 0 + 2 * mn + 2 * mn ≤ ms; omega)) (⟨rfl, (((((((pq_Fr.rf.nw nq21).uO ha_21 (by decide)).nw nq33).uO ha_33 (by decide)).uO ha_33 (by decide)).uO ha_33 (by decide)).uO ha_33 (by decide)), q21, q33, _, pq_kp (pq_kp (pq_kp (pq_kp (pq_nO nq33 ha_21 pq_ks) (by decide)) (by decide)) (by decide)) (by decide), h21_33, pq_kp (pq_kp (pq_kp pq_ks (by decide)) (by decide)) (by decide), h33, pq_kp pq_ks (by decide), pq_ks, by simp only [pq_NuO, pq_nN]; exact z21.symm, by rw [if_pos hlen]; simp only [pq_NuO]; exact z21, by simp only [pq_NuO]; rw [z21]; omega, ⟨(by clear hsb; simp only [vp_in_iff, Int32.lt_iff_toInt_lt, Int32.le_iff_toInt_le, ← Int32.toInt_inj, Int32.toInt_add, Int32.toInt_sub, Int32.toInt_mul, Int32.toInt_neg, pq_NuO, pq_NuI, pq_NuJ, qm1, q0, q1, q2] at *; (try simp (disch := omega) only [pq_bm] at *); all_goals omega), (by clear hsb; simp only [vp_in_iff, Int32.lt_iff_toInt_lt, Int32.le_iff_toInt_le, ← Int32.toInt_inj, Int32.toInt_add, Int32.toInt_sub, Int32.toInt_mul, Int32.toInt_neg, pq_NuO, pq_NuI, pq_NuJ, qm1, q0, q1, q2] at *; (try simp (disch := omega) only [pq_bm] at *); all_goals omega)⟩, fun i hi => (by simp only [pq_IuO]; rw [z22]; show (0 : Int32).toInt < (0 + 1 : Int32).toInt; decide)⟩) dX11_begin_58


theorem tk_C.rch {P : tq_P} {m : Nat} {I X : Nat → Prop} {st sk : Nat → Int32} {x : Int32} {pl : Nat} {Rq : Nat → Prop} {bm : Prop} {i : Nat} {iv : Int32} {st2 sk2 : Nat → Int32} {pl2 : Nat} (h : tk_C P m I X st sk x pl Rq bm) (hi : i ≤ m) (hr : ∃ j, I j ∧ tq_rc P tq_J0 0 m j i) (hv : iv.toInt = (i : Int)) (hd : (st i = x ∧ st2 = st ∧ sk2 = sk ∧ pl2 = pl) ∨ (st2 = upd st i x ∧ sk2 = upd sk pl iv ∧ pl2 = pl + 1)) : tk_C P m I X st2 sk2 x pl2 Rq bm ∧ st2 i = x ∧ ∀ k, st2 k = st k ∨ st2 k = x := by
  rcases hd with ⟨a, b, c, d⟩ | ⟨b, c, d⟩
  · subst b; subst c; subst d
    exact ⟨h, a, fun _ => Or.inl rfl⟩
  · subst b; subst c; subst d
    refine ⟨h.push hi hr hv, pk_us, fun k => ?_⟩
    by_cases e : k = i
    · exact Or.inr (by rw [e, pk_us])
    · exact Or.inl (pk_un e)
theorem tk_orx {st st1 st2 : Nat → Int32} {x : Int32} (h : ∀ k, st1 k = st k ∨ st1 k = x) (g : ∀ k, st2 k = st1 k ∨ st2 k = x) (k : Nat) : st2 k = st k ∨ st2 k = x := (g k).elim (fun e => (h k).imp (fun z => e.trans z) (fun z => e.trans z)) Or.inr

set_option maxHeartbeats 4000000 in
set_option maxRecDepth 100000 in
theorem k_X11_reachG (l : Launch) (D : va_G) (cy : Nat → ClassId) (S : HS) (a : Nat) (ha : pq_R S a 14) (iv : Int32) (ast ask mn rd : Nat) (g : Nat → Int32) (x pl : Int32) (e21 : hO S a 21 = .ref ast) (hst : pq_R S ast 127) (e22 : hO S a 22 = .ref ask) (hsk : pq_R S ask 128) (e23 : hO S a 23 = .int x) (e24 : hO S a 24 = .int pl) (hpl : 0 ≤ pl.toInt) (hn1 : mn ≤ hN S ast) (hn2 : mn ≤ hN S ask) (hmn : mn ≤ 32768) (hc : pq_cb g (hI S ast) (hI S ask) x mn pl.toNatClampNeg rd) (hi0 : 0 ≤ iv.toInt) (hi1 : iv.toInt < (mn : Int)) : pq_C l D cy yX11_reach cX11_reach 2 (none) 1 0 0 S [.ref a, .int iv] (fun v S2 => v = none ∧ pq_Fr [(127, 0), (128, 0), (14, 24)] S S2 ∧ (∃ pl2 : Int32, hO S2 a 24 = .int pl2 ∧ 0 ≤ pl2.toInt ∧ pq_cb g (hI S2 ast) (hI S2 ask) x mn pl2.toNatClampNeg rd ∧ pl2.toNatClampNeg + 2 * pq_un (hI S2 ast) x mn ≤ pl.toNatClampNeg + 2 * pq_un (hI S ast) x mn ∧ ((hI S ast iv.toNatClampNeg = x ∧ hI S2 ast = hI S ast ∧ hI S2 ask = hI S ask ∧ pl2.toNatClampNeg = pl.toNatClampNeg) ∨ (hI S2 ast = upd (hI S ast) iv.toNatClampNeg x ∧ hI S2 ask = upd (hI S ask) pl.toNatClampNeg iv ∧ pl2.toNatClampNeg = pl.toNatClampNeg + 1)))) := by
  refine pq_start (by decide) (Nat.le_of_ble_eq_true rfl) ?_
  intro p e s m args below meth c A F hr hlk hnm hA
  have lqm1 : (-1 : Int32).toInt = -1 := rfl
  have lq0 : (0 : Int32).toInt = 0 := rfl
  have lq1 : (1 : Int32).toInt = 1 := rfl
  refine pq_aload_n F dX11_reach_0 rfl rfl ?_
  refine pq_get F ha (by decide) lk_X11_115 e21 dX11_reach_1 ?_
  refine pq_iload_n F dX11_reach_4 rfl rfl ?_
  refine pq_iald F hst (by decide) (by decide) rfl (fun n1_5 n2_5 => (by focus ((try clear hc); (try clear hf); simp only [vp_in_iff, Int32.lt_iff_toInt_lt, Int32.le_iff_toInt_le, ← Int32.toInt_inj, Int32.toInt_add, Int32.toInt_sub, Int32.toInt_mul, Int32.toInt_neg, pq_NuO, pq_NuI, pq_NuJ, pq_NuR, pq_shr6, pq_shr7, pq_shr8, lqm1, lq0, lq1] at *; (try simp (disch := omega) only [pq_bm] at *); all_goals omega))) dX11_reach_5 (fun x5 e5 l5 u5 => ?_)
  refine pq_aload_n F dX11_reach_6 rfl rfl ?_
  refine pq_get F ha (by decide) lk_X11_118 e23 dX11_reach_7 ?_
  refine pq_icmp_ne (tgt := 14) F dX11_reach_10 (by decide) (fun c10 => ?_) (fun c10 => ?_)
  · skip
    have hf : ¬ hI S ast iv.toNatClampNeg = x := fun h => c10 (e5.trans h)
    have ci := pq_cl hi0
    have cp := pq_cl hpl
    have hlt := hc.lt (i := iv.toNatClampNeg) (by omega) hf
    have n1 := pq_nrole hst hsk (by decide)
    have n2 := pq_nrole hsk hst (by decide)
    refine pq_aload_n F dX11_reach_14 rfl rfl ?_
    refine pq_get F ha (by decide) lk_X11_115 e21 dX11_reach_15 ?_
    refine pq_iload_n F dX11_reach_18 rfl rfl ?_
    refine pq_aload_n F dX11_reach_19 rfl rfl ?_
    refine pq_get F ha (by decide) lk_X11_118 e23 dX11_reach_20 ?_
    refine pq_iast F hst (by decide) (by decide) rfl (fun n1_23 n2_23 => (by focus ((try clear hc); (try clear hf); simp only [vp_in_iff, Int32.lt_iff_toInt_lt, Int32.le_iff_toInt_le, ← Int32.toInt_inj, Int32.toInt_add, Int32.toInt_sub, Int32.toInt_mul, Int32.toInt_neg, pq_NuO, pq_NuI, pq_NuJ, pq_NuR, pq_shr6, pq_shr7, pq_shr8, lqm1, lq0, lq1] at *; (try simp (disch := omega) only [pq_bm] at *); all_goals omega))) (⟨pq_any1 _, pq_any2 _⟩) dX11_reach_23 ?_
    refine pq_aload_n F dX11_reach_24 rfl rfl ?_
    refine pq_get F ha (by decide) lk_X11_121 e22 dX11_reach_25 ?_
    refine pq_aload_n F dX11_reach_28 rfl rfl ?_
    refine pq_get F ha (by decide) lk_X11_124 e24 dX11_reach_29 ?_
    refine pq_iload_n F dX11_reach_32 rfl rfl ?_
    refine pq_iast F hsk (by decide) (by decide) rfl (fun n1_33 n2_33 => (by have hz : mn ≤ hN (pq_uI S ast (upd (hI S ast) iv.toNatClampNeg x)) ask := hn2; focus ((try clear hc); (try clear hf); simp only [vp_in_iff, Int32.lt_iff_toInt_lt, Int32.le_iff_toInt_le, ← Int32.toInt_inj, Int32.toInt_add, Int32.toInt_sub, Int32.toInt_mul, Int32.toInt_neg, pq_NuO, pq_NuI, pq_NuJ, pq_NuR, pq_shr6, pq_shr7, pq_shr8, lqm1, lq0, lq1] at *; (try simp (disch := omega) only [pq_bm] at *); all_goals omega))) (⟨pq_any1 _, pq_any2 _⟩) dX11_reach_33 ?_
    refine pq_aload_n F dX11_reach_34 rfl rfl ?_
    refine pq_dup F dX11_reach_35 rfl ?_
    refine pq_get F ha (by decide) lk_X11_124 e24 dX11_reach_36 ?_
    refine pq_iconst (v := 1) F dX11_reach_39 (by decide) ?_
    refine pq_iadd F dX11_reach_40 ?_
    refine pq_putI F ha (by decide) lp_X11_124 rfl (pq_any1 _) (pq_any2 _) dX11_reach_41 ?_
    exact pq_vret F hr hlk hA (Nat.le_refl _) (Nat.le_refl _) ((by have e9 : (pl + 1).toNatClampNeg = pl.toNatClampNeg + 1 := (by have h8 : 0 ≤ (pl + 1).toInt := (by focus ((try clear hc); (try clear hf); simp only [vp_in_iff, Int32.lt_iff_toInt_lt, Int32.le_iff_toInt_le, ← Int32.toInt_inj, Int32.toInt_add, Int32.toInt_sub, Int32.toInt_mul, Int32.toInt_neg, pq_NuO, pq_NuI, pq_NuJ, pq_NuR, pq_shr6, pq_shr7, pq_shr8, lqm1, lq0, lq1] at *; (try simp (disch := omega) only [pq_bm] at *); all_goals omega)); have h7 : (pl + 1).toInt = pl.toInt + 1 := (by focus ((try clear hc); (try clear hf); simp only [vp_in_iff, Int32.lt_iff_toInt_lt, Int32.le_iff_toInt_le, ← Int32.toInt_inj, Int32.toInt_add, Int32.toInt_sub, Int32.toInt_mul, Int32.toInt_neg, pq_NuO, pq_NuI, pq_NuJ, pq_NuR, pq_shr6, pq_shr7, pq_shr8, lqm1, lq0, lq1] at *; (try simp (disch := omega) only [pq_bm] at *); all_goals omega)); have h6 := pq_cl h8; omega); refine ⟨rfl, (((pq_Fr.rf.uI hst (by first | decide | exact List.mem_cons_self)).uI hsk (by first | decide | exact List.mem_cons_self)).uO ha (by decide)), pl + 1, pq_ks, (by focus ((try clear hc); (try clear hf); simp only [vp_in_iff, Int32.lt_iff_toInt_lt, Int32.le_iff_toInt_le, ← Int32.toInt_inj, Int32.toInt_add, Int32.toInt_sub, Int32.toInt_mul, Int32.toInt_neg, pq_NuO, pq_NuI, pq_NuJ, pq_NuR, pq_shr6, pq_shr7, pq_shr8, lqm1, lq0, lq1] at *; (try simp (disch := omega) only [pq_bm] at *); all_goals omega)), ?_, ?_, Or.inr ⟨?_, ?_, e9⟩⟩; (rw [e9]; simp only [pq_IuO, pq_IuJ, pq_Iu, pq_JuO, pq_JuI, pq_Ju, pq_RuO, pq_RuJ, pq_RuI, if_true, if_false, n1, n2]; exact hc.push hi0 hi1 hf); (rw [e9]; simp only [pq_IuO, pq_IuJ, pq_Iu, pq_JuO, pq_JuI, pq_Ju, pq_RuO, pq_RuJ, pq_RuI, if_true, if_false, n1, n2]; have h5 := pq_un_upd hf mn; rw [if_pos (show iv.toNatClampNeg < mn by omega)] at h5; omega); (simp only [pq_IuO, pq_IuJ, pq_Iu, pq_JuO, pq_JuI, pq_Ju, pq_RuO, pq_RuJ, pq_RuI, if_true, if_false, n1, n2]); (simp only [pq_IuO, pq_IuJ, pq_Iu, pq_JuO, pq_JuI, pq_Ju, pq_RuO, pq_RuJ, pq_RuI, if_true, if_false, n1, n2]))) dX11_reach_44
  · skip
    exact pq_vret F hr hlk hA (Nat.le_refl _) (Nat.le_refl _) (⟨rfl, pq_Fr.rf, pl, e24, hpl, hc, Nat.le_refl _, Or.inl ⟨e5.symm.trans c10, rfl, rfl, rfl⟩⟩) dX11_reach_13

set_option maxHeartbeats 4000000 in
set_option maxRecDepth 100000 in
theorem k_X11_closureG (l : Launch) (D : va_G) (cy : Nat → ClassId) (S : HS) (a : Nat) (ha : pq_R S a 14) (ast ask ao aa mn rg mm : Nat) (mk : Int) (sx pl : Int32) (Is : Nat → Prop) (e21 : hO S a 21 = .ref ast) (hst : pq_R S ast 127) (e22 : hO S a 22 = .ref ask) (hsk : pq_R S ask 128) (e23 : hO S a 23 = .int sx) (e4 : hO S a 4 = .ref ao) (hao : pq_R S ao 120) (e5 : hO S a 5 = .ref aa) (haa : pq_R S aa 121) (e25 : hO S a 25 = .ref rg) (hrg : pq_R S rg 129) (hn3 : mn ≤ hN S ao) (hn4 : mn ≤ hN S aa) (e24 : hO S a 24 = .int pl) (hpl : 0 ≤ pl.toInt) (hn1 : mn ≤ hN S ast) (hn2 : mn ≤ hN S ask) (hmn : mn ≤ 32768) (hpw : pq_pw (hI S ao) (hI S aa) mn mk) (hmk : mk ≤ 400) (hc : pq_cb (hI S ao) (hI S ast) (hI S ask) sx mn pl.toNatClampNeg 0) (hmm : mn = mm + 1) (h3 : hI S ao mm = 3) (hnb : hI S aa mm = 0) (h012 : ∀ i, i < mm → hI S ao i = 0 ∨ hI S ao i = 1 ∨ hI S ao i = 2) (hC0 : tk_C (tk_P (hI S ao) (hI S aa)) mm Is (fun _ => False) (hI S ast) (hI S ask) sx pl.toNatClampNeg (fun _ => False) False) : pq_C l D cy yX11_closure cX11_closure 3 (some .int) 2 0 0 S [.ref a] (fun v S2 => pq_Fr [(127, 0), (128, 0), (14, 24), (129, 0), (14, 26)] S S2 ∧ ∃ x : Int32, v = some (.int x) ∧ (∃ rd : Int32, hO S2 a 26 = .int rd ∧ 0 ≤ rd.toInt ∧ rd.toInt ≤ 400 ∧ (∀ k, hI S2 ast k = hI S ast k ∨ hI S2 ast k = sx) ∧ (x = -1 ∨ x = 0) ∧ tk_C (tk_P (hI S ao) (hI S aa)) mm Is (fun _ => False) (hI S2 ast) (hI S2 ask) sx 0 (fun q : Nat => ∃ j : Nat, (j : Int) < rd.toInt ∧ (hI S2 rg j).toInt = (q : Int)) (¬ x = -1))) := by
  refine pq_start (by decide) (Nat.le_of_ble_eq_true rfl) ?_
  intro p e s m args below meth c A F hr hlk hnm hA
  have lqm1 : (-1 : Int32).toInt = -1 := rfl
  have lq0 : (0 : Int32).toInt = 0 := rfl
  have lq1 : (1 : Int32).toInt = 1 := rfl
  have lq3 : (3 : Int32).toInt = 3 := rfl
  have L7 : ∀  (fu : Nat) (S1 : HS) (bs : Int32) (pl1 rd1 : Int32) (hF : pq_Fr [(127, 0), (128, 0), (14, 24), (129, 0), (14, 26)] S S1) (hp : hO S1 a 24 = .int pl1) (hp0 : 0 ≤ pl1.toInt) (hrr : hO S1 a 26 = .int rd1) (hr0 : 0 ≤ rd1.toInt) (hcb : pq_cb (hI S ao) (hI S1 ast) (hI S1 ask) sx mn pl1.toNatClampNeg rd1.toNatClampNeg) (hor : ∀ k, hI S1 ast k = hI S ast k ∨ hI S1 ast k = sx) (hbs : bs = -1 ∨ bs = 0) (hC : tk_C (tk_P (hI S ao) (hI S aa)) mm Is (fun _ => False) (hI S1 ast) (hI S1 ask) sx pl1.toNatClampNeg (fun q : Nat => ∃ j : Nat, (j : Int) < rd1.toInt ∧ (hI S1 rg j).toInt = (q : Int)) (¬ bs = -1)), pl1.toNatClampNeg + 2 * pq_un (hI S1 ast) sx mn < fu → pq_At p l e (pq_rm 2 0 0) s m args below meth c (pq_Z below args s D cy S 0 0 (fun v S2 => pq_Fr [(127, 0), (128, 0), (14, 24), (129, 0), (14, 26)] S S2 ∧ ∃ x : Int32, v = some (.int x) ∧ (∃ rd : Int32, hO S2 a 26 = .int rd ∧ 0 ≤ rd.toInt ∧ rd.toInt ≤ 400 ∧ (∀ k, hI S2 ast k = hI S ast k ∨ hI S2 ast k = sx) ∧ (x = -1 ∨ x = 0) ∧ tk_C (tk_P (hI S ao) (hI S aa)) mm Is (fun _ => False) (hI S2 ast) (hI S2 ask) sx 0 (fun q : Nat => ∃ j : Nat, (j : Int) < rd.toInt ∧ (hI S2 rg j).toInt = (q : Int)) (¬ x = -1)))) D cy A 3 0 0 7 S1 [some (.ref a), some (.int bs), none] [] := by
    intro  fu
    induction fu with
    | zero => intro S1 bs pl1 rd1 hF hp hp0 hrr hr0 hcb hor hbs hC hm; exact absurd hm (Nat.not_lt_zero _)
    | succ fu ih =>
      intro S1 bs pl1 rd1 hF hp hp0 hrr hr0 hcb hor hbs hC hm
      have haL := hF.R ha (by first | decide | omega)
      have hstL := hF.R hst (by decide)
      have hskL := hF.R hsk (by decide)
      have haoL := hF.R hao (by decide)
      have haaL := hF.R haa (by decide)
      have hrgL := hF.R hrg (by decide)
      have e21L := hF.O ha (by decide) (by decide) e21
      have e22L := hF.O ha (by decide) (by decide) e22
      have e23L := hF.O ha (by decide) (by decide) e23
      have e4L := hF.O ha (by decide) (by decide) e4
      have e5L := hF.O ha (by decide) (by decide) e5
      have e25L := hF.O ha (by decide) (by decide) e25
      have n1L : mn ≤ hN S1 ast := (by rw [(hF.1 ast 127 hst (by decide)).2]; exact hn1)
      have n2L : mn ≤ hN S1 ask := (by rw [(hF.1 ask 128 hsk (by decide)).2]; exact hn2)
      have n3L : mn ≤ hN S1 ao := (by rw [(hF.1 ao 120 hao (by decide)).2]; exact hn3)
      have n4L : mn ≤ hN S1 aa := (by rw [(hF.1 aa 121 haa (by decide)).2]; exact hn4)
      have ioL := hF.I hao (by decide) (by decide)
      have iaL := hF.I haa (by decide) (by decide)
      have hrd := hcb.2.2
      have hpd := hcb.2.1
      have cp1 := pq_cl hp0
      refine pq_aload_n F dX11_closure_7 rfl rfl ?_
      refine pq_get F haL (by decide) lk_X11_124 hp dX11_closure_8 ?_
      refine pq_if_le (tgt := 138) F dX11_closure_11 (by decide) (fun c11 => ?_) (fun c11 => ?_)
      · skip
        refine pq_iload_n F dX11_closure_138 rfl rfl ?_
        exact pq_iret F hr hlk hA (Nat.le_refl _) (Nat.le_refl _) (⟨hF, bs, rfl, rd1, hrr, hr0, (by have := pq_cl hr0; omega), hor, hbs, (by have e0 : pl1.toNatClampNeg = 0 := (by focus ((try clear hbs); (try clear hc); (try clear hpw); (try clear h012); (try clear hC0); (try clear hC); (try clear hor); (try clear hcb); (try clear ih); (try clear hcp); (try clear ipw); (try clear ip); (try clear hcy); (try clear hC1); (try clear p115); (try clear p132); (try clear hd2); (try clear hd3); (try clear hC2); (try clear hC3); (try clear hesn); (try clear hrc); (try clear io1); (try clear hcl2); (try clear hcl3); (try clear hmu2); (try clear hmu3); (try clear hor2); (try clear hor3); (try clear h3); (try clear hnb); simp only [vp_in_iff, Int32.lt_iff_toInt_lt, Int32.le_iff_toInt_le, ← Int32.toInt_inj, Int32.toInt_add, Int32.toInt_sub, Int32.toInt_mul, Int32.toInt_neg, pq_NuO, pq_NuI, pq_NuJ, pq_NuR, pq_shr6, pq_shr7, pq_shr8, lqm1, lq0, lq1, lq3] at *; (try simp (disch := omega) only [pq_bm] at *); all_goals omega)); rw [e0] at hC; exact hC)⟩) dX11_closure_139
      · skip
        refine pq_aload_n F dX11_closure_14 rfl rfl ?_
        refine pq_dup F dX11_closure_15 rfl ?_
        refine pq_get F haL (by decide) lk_X11_124 hp dX11_closure_16 ?_
        refine pq_iconst (v := 1) F dX11_closure_19 (by decide) ?_
        refine pq_isub F dX11_closure_20 ?_
        refine pq_putI F haL (by decide) lp_X11_124 rfl (pq_any1 _) (pq_any2 _) dX11_closure_21 ?_
        refine pq_aload_n F dX11_closure_24 rfl rfl ?_
        refine pq_get F haL (by decide) lk_X11_121 (pq_kp e22L (by decide)) dX11_closure_25 ?_
        refine pq_aload_n F dX11_closure_28 rfl rfl ?_
        refine pq_get F haL (by decide) lk_X11_124 pq_ks dX11_closure_29 ?_
        refine pq_iald F hskL (by decide) (by decide) rfl (fun n1_32 n2_32 => (by focus ((try clear hbs); (try clear hc); (try clear hpw); (try clear h012); (try clear hC0); (try clear hC); (try clear hor); (try clear hcb); (try clear ih); (try clear hcp); (try clear ipw); (try clear ip); (try clear hcy); (try clear hC1); (try clear p115); (try clear p132); (try clear hd2); (try clear hd3); (try clear hC2); (try clear hC3); (try clear hesn); (try clear hrc); (try clear io1); (try clear hcl2); (try clear hcl3); (try clear hmu2); (try clear hmu3); (try clear hor2); (try clear hor3); (try clear h3); (try clear hnb); simp only [vp_in_iff, Int32.lt_iff_toInt_lt, Int32.le_iff_toInt_le, ← Int32.toInt_inj, Int32.toInt_add, Int32.toInt_sub, Int32.toInt_mul, Int32.toInt_neg, pq_NuO, pq_NuI, pq_NuJ, pq_NuR, pq_shr6, pq_shr7, pq_shr8, lqm1, lq0, lq1, lq3] at *; (try simp (disch := omega) only [pq_bm] at *); all_goals omega))) dX11_closure_32 (fun x32 e32 l32 u32 => ?_)
        refine pq_istore_n F dX11_closure_33 rfl (by decide) ?_
        have hp1 : 1 ≤ pl1.toInt := (by focus ((try clear hbs); (try clear hc); (try clear hpw); (try clear h012); (try clear hC0); (try clear hC); (try clear hor); (try clear hcb); (try clear ih); (try clear hcp); (try clear ipw); (try clear ip); (try clear hcy); (try clear hC1); (try clear p115); (try clear p132); (try clear hd2); (try clear hd3); (try clear hC2); (try clear hC3); (try clear hesn); (try clear hrc); (try clear io1); (try clear hcl2); (try clear hcl3); (try clear hmu2); (try clear hmu3); (try clear hor2); (try clear hor3); (try clear h3); (try clear hnb); simp only [vp_in_iff, Int32.lt_iff_toInt_lt, Int32.le_iff_toInt_le, ← Int32.toInt_inj, Int32.toInt_add, Int32.toInt_sub, Int32.toInt_mul, Int32.toInt_neg, pq_NuO, pq_NuI, pq_NuJ, pq_NuR, pq_shr6, pq_shr7, pq_shr8, lqm1, lq0, lq1, lq3] at *; (try simp (disch := omega) only [pq_bm] at *); all_goals omega))
        have hp8 : (pl1 - 1).toInt = pl1.toInt - 1 := (by focus ((try clear hbs); (try clear hc); (try clear hpw); (try clear h012); (try clear hC0); (try clear hC); (try clear hor); (try clear hcb); (try clear ih); (try clear hcp); (try clear ipw); (try clear ip); (try clear hcy); (try clear hC1); (try clear p115); (try clear p132); (try clear hd2); (try clear hd3); (try clear hC2); (try clear hC3); (try clear hesn); (try clear hrc); (try clear io1); (try clear hcl2); (try clear hcl3); (try clear hmu2); (try clear hmu3); (try clear hor2); (try clear hor3); (try clear h3); (try clear hnb); simp only [vp_in_iff, Int32.lt_iff_toInt_lt, Int32.le_iff_toInt_le, ← Int32.toInt_inj, Int32.toInt_add, Int32.toInt_sub, Int32.toInt_mul, Int32.toInt_neg, pq_NuO, pq_NuI, pq_NuJ, pq_NuR, pq_shr6, pq_shr7, pq_shr8, lqm1, lq0, lq1, lq3] at *; (try simp (disch := omega) only [pq_bm] at *); all_goals omega))
        have hp7 : 0 ≤ (pl1 - 1).toInt := (by omega)
        have ep : pl1.toNatClampNeg = (pl1 - 1).toNatClampNeg + 1 := (by have h6 := pq_cl hp7; have h5 := pq_cl hp0; omega)
        have hcp := (ep ▸ hcb).pop
        have e32b : x32 = hI S1 ask (pl1 - 1).toNatClampNeg := e32
        rw [← e32b] at hcp
        have hx0 := hcp.2.1
        have hx1 := hcp.2.2
        have cx := pq_cl hx0
        have crd := pq_cl hr0
        have ipw := hpw x32.toNatClampNeg (by omega)
        rw [ep] at hC
        obtain ⟨k0, hk0, hk0m, hst0, hC1⟩ := hC.pop
        rw [← e32b] at hk0
        have cxk : x32.toNatClampNeg = k0 := (by omega)
        have hesn : hI S ao k0 = 0 → ∀ k', ¬ tq_es (tk_P (hI S ao) (hI S aa)) k0 k' := (fun z k' he => (by have w : (tk_P (hI S ao) (hI S aa) k0).1 = 0 := (by show (hI S ao k0).toInt.toNat = 0; rw [z]; rfl); rcases he with ⟨y, _⟩ | ⟨y | y, _⟩ <;> rw [w] at y <;> exact absurd y (by decide)))
        refine pq_aload_n F dX11_closure_34 rfl rfl ?_
        refine pq_get F haL (by decide) lk_X11_10 (pq_kp e4L (by decide)) dX11_closure_35 ?_
        refine pq_iload_n F dX11_closure_38 rfl rfl ?_
        refine pq_iald F haoL (by decide) (by decide) rfl (fun n1_39 n2_39 => (by focus ((try clear hbs); (try clear hc); (try clear hpw); (try clear h012); (try clear hC0); (try clear hC); (try clear hor); (try clear hcb); (try clear ih); (try clear hcp); (try clear ipw); (try clear ip); (try clear hcy); (try clear hC1); (try clear p115); (try clear p132); (try clear hd2); (try clear hd3); (try clear hC2); (try clear hC3); (try clear hesn); (try clear hrc); (try clear io1); (try clear hcl2); (try clear hcl3); (try clear hmu2); (try clear hmu3); (try clear hor2); (try clear hor3); (try clear h3); (try clear hnb); simp only [vp_in_iff, Int32.lt_iff_toInt_lt, Int32.le_iff_toInt_le, ← Int32.toInt_inj, Int32.toInt_add, Int32.toInt_sub, Int32.toInt_mul, Int32.toInt_neg, pq_NuO, pq_NuI, pq_NuJ, pq_NuR, pq_shr6, pq_shr7, pq_shr8, lqm1, lq0, lq1, lq3] at *; (try simp (disch := omega) only [pq_bm] at *); all_goals omega))) dX11_closure_39 (fun x39 e39 l39 u39 => ?_)
        refine pq_if_ne (tgt := 71) F dX11_closure_40 (by decide) (fun c40 => ?_) (fun c40 => ?_)
        · skip
          refine pq_aload_n F dX11_closure_71 rfl rfl ?_
          refine pq_get F haL (by decide) lk_X11_10 (pq_kp e4L (by decide)) dX11_closure_72 ?_
          refine pq_iload_n F dX11_closure_75 rfl rfl ?_
          refine pq_iald F haoL (by decide) (by decide) rfl (fun n1_76 n2_76 => (by focus ((try clear hbs); (try clear hc); (try clear hpw); (try clear h012); (try clear hC0); (try clear hC); (try clear hor); (try clear hcb); (try clear ih); (try clear hcp); (try clear ipw); (try clear ip); (try clear hcy); (try clear hC1); (try clear p115); (try clear p132); (try clear hd2); (try clear hd3); (try clear hC2); (try clear hC3); (try clear hesn); (try clear hrc); (try clear io1); (try clear hcl2); (try clear hcl3); (try clear hmu2); (try clear hmu3); (try clear hor2); (try clear hor3); (try clear h3); (try clear hnb); simp only [vp_in_iff, Int32.lt_iff_toInt_lt, Int32.le_iff_toInt_le, ← Int32.toInt_inj, Int32.toInt_add, Int32.toInt_sub, Int32.toInt_mul, Int32.toInt_neg, pq_NuO, pq_NuI, pq_NuJ, pq_NuR, pq_shr6, pq_shr7, pq_shr8, lqm1, lq0, lq1, lq3] at *; (try simp (disch := omega) only [pq_bm] at *); all_goals omega))) dX11_closure_76 (fun x76 e76 l76 u76 => ?_)
          refine pq_iconst (v := 3) F dX11_closure_77 (by decide) ?_
          refine pq_icmp_ne (tgt := 106) F dX11_closure_78 (by decide) (fun c78 => ?_) (fun c78 => ?_)
          · skip
            have g0 : ¬ hI S ao x32.toNatClampNeg = 0 := (by rw [← ioL]; exact fun h => c40 (e39.trans h))
            have g3 : ¬ hI S ao x32.toNatClampNeg = 3 := (by rw [← ioL]; exact fun h => c78 (e76.trans h))
            have ip := ipw.2 g0 g3
            have g0n : ¬ hI S ao k0 = 0 := (by rw [← cxk]; exact g0)
            have k0lt : k0 < mm := (by have z : k0 ≠ mm := (fun z => g3 (by rw [cxk, z]; exact h3)); omega)
            refine pq_aload_n F dX11_closure_106 rfl rfl ?_
            refine pq_iload_n F dX11_closure_107 rfl rfl ?_
            refine pq_aload_n F dX11_closure_108 rfl rfl ?_
            refine pq_get F haL (by decide) lk_X11_20 (pq_kp e5L (by decide)) dX11_closure_109 ?_
            refine pq_iload_n F dX11_closure_112 rfl rfl ?_
            refine pq_iald F haaL (by decide) (by decide) rfl (fun n1_113 n2_113 => (by focus ((try clear hbs); (try clear hc); (try clear hpw); (try clear h012); (try clear hC0); (try clear hC); (try clear hor); (try clear hcb); (try clear ih); (try clear hcp); (try clear ipw); (try clear ip); (try clear hcy); (try clear hC1); (try clear p115); (try clear p132); (try clear hd2); (try clear hd3); (try clear hC2); (try clear hC3); (try clear hesn); (try clear hrc); (try clear io1); (try clear hcl2); (try clear hcl3); (try clear hmu2); (try clear hmu3); (try clear hor2); (try clear hor3); (try clear h3); (try clear hnb); simp only [vp_in_iff, Int32.lt_iff_toInt_lt, Int32.le_iff_toInt_le, ← Int32.toInt_inj, Int32.toInt_add, Int32.toInt_sub, Int32.toInt_mul, Int32.toInt_neg, pq_NuO, pq_NuI, pq_NuJ, pq_NuR, pq_shr6, pq_shr7, pq_shr8, lqm1, lq0, lq1, lq3] at *; (try simp (disch := omega) only [pq_bm] at *); all_goals omega))) dX11_closure_113 (fun x113 e113 l113 u113 => ?_)
            refine pq_iadd F dX11_closure_114 ?_
            have ea : x113 = hI S aa x32.toNatClampNeg := (by rw [← iaL]; exact e113)
            rw [← ea] at ip
            have ipa := ip.1
            have ipb := ip.2.1
            obtain ⟨i5, hi5e⟩ : ∃ i5 : Nat, (x32 + x113).toInt = (i5 : Int) := ⟨(x32 + x113).toInt.toNat, (by focus ((try clear hbs); (try clear hc); (try clear hpw); (try clear h012); (try clear hC0); (try clear hC); (try clear hor); (try clear hcb); (try clear ih); (try clear hcp); (try clear ipw); (try clear ip); (try clear hcy); (try clear hC1); (try clear p115); (try clear p132); (try clear hd2); (try clear hd3); (try clear hC2); (try clear hC3); (try clear hesn); (try clear hrc); (try clear io1); (try clear hcl2); (try clear hcl3); (try clear hmu2); (try clear hmu3); (try clear hor2); (try clear hor3); (try clear h3); (try clear hnb); simp only [vp_in_iff, Int32.lt_iff_toInt_lt, Int32.le_iff_toInt_le, ← Int32.toInt_inj, Int32.toInt_add, Int32.toInt_sub, Int32.toInt_mul, Int32.toInt_neg, pq_NuO, pq_NuI, pq_NuJ, pq_NuR, pq_shr6, pq_shr7, pq_shr8, lqm1, lq0, lq1, lq3] at *; (try simp (disch := omega) only [pq_bm] at *); all_goals omega))⟩
            have ci5 : (x32 + x113).toNatClampNeg = i5 := tk_ix hi5e
            have hi5k : (i5 : Int) = (k0 : Int) + x113.toInt := (by focus ((try clear hbs); (try clear hc); (try clear hpw); (try clear h012); (try clear hC0); (try clear hC); (try clear hor); (try clear hcb); (try clear ih); (try clear hcp); (try clear ipw); (try clear ip); (try clear hcy); (try clear hC1); (try clear p115); (try clear p132); (try clear hd2); (try clear hd3); (try clear hC2); (try clear hC3); (try clear hesn); (try clear hrc); (try clear io1); (try clear hcl2); (try clear hcl3); (try clear hmu2); (try clear hmu3); (try clear hor2); (try clear hor3); (try clear h3); (try clear hnb); simp only [vp_in_iff, Int32.lt_iff_toInt_lt, Int32.le_iff_toInt_le, ← Int32.toInt_inj, Int32.toInt_add, Int32.toInt_sub, Int32.toInt_mul, Int32.toInt_neg, pq_NuO, pq_NuI, pq_NuJ, pq_NuR, pq_shr6, pq_shr7, pq_shr8, lqm1, lq0, lq1, lq3] at *; (try simp (disch := omega) only [pq_bm] at *); all_goals omega))
            have hi5 : i5 ≤ mm := (by focus ((try clear hbs); (try clear hc); (try clear hpw); (try clear h012); (try clear hC0); (try clear hC); (try clear hor); (try clear hcb); (try clear ih); (try clear hcp); (try clear ipw); (try clear ip); (try clear hcy); (try clear hC1); (try clear p115); (try clear p132); (try clear hd2); (try clear hd3); (try clear hC2); (try clear hC3); (try clear hesn); (try clear hrc); (try clear io1); (try clear hcl2); (try clear hcl3); (try clear hmu2); (try clear hmu3); (try clear hor2); (try clear hor3); (try clear h3); (try clear hnb); simp only [vp_in_iff, Int32.lt_iff_toInt_lt, Int32.le_iff_toInt_le, ← Int32.toInt_inj, Int32.toInt_add, Int32.toInt_sub, Int32.toInt_mul, Int32.toInt_neg, pq_NuO, pq_NuI, pq_NuJ, pq_NuR, pq_shr6, pq_shr7, pq_shr8, lqm1, lq0, lq1, lq3] at *; (try simp (disch := omega) only [pq_bm] at *); all_goals omega))
            have ea0 : (hI S aa k0).toInt = x113.toInt := (by rw [← cxk, ← ea])
            have hrc : ∀ k9, tq_es (tk_P (hI S ao) (hI S aa)) k0 k9 → ∃ j, Is j ∧ tq_rc (tk_P (hI S ao) (hI S aa)) tq_J0 0 mm j k9 := (fun k9 he => (by obtain ⟨j, j1, j2⟩ := hC1.1 k0 hk0m hst0; exact ⟨j, j1, j2.st (Nat.zero_le _) k0lt (fun z => z) he⟩))
            have hes5 : tq_es (tk_P (hI S ao) (hI S aa)) k0 i5 := Or.inr ⟨(by have z := h012 k0 k0lt; rcases z with z | z | z; exact absurd z g0n; exact Or.inl (by show (hI S ao k0).toInt.toNat = 1; rw [z]; rfl); exact Or.inr (by show (hI S ao k0).toInt.toNat = 2; rw [z]; rfl)), (by show (i5 : Int) = (k0 : Int) + (hI S aa k0).toInt; omega)⟩
            refine pq_callV (As := [_]) F (k_X11_reachG l D cy _ _ ?_ _ ast ask mn rd1.toNatClampNeg (hI S ao) sx (pl1 - 1) (pq_kp e21L (by decide)) hstL (pq_kp e22L (by decide)) hskL (pq_kp e23L (by decide)) pq_ks hp7 n1L n2L hmn (hcp.1.less (Nat.le_add_right _ _)) ?_ ?_) ml_X11_133 haL (by decide) rfl (Nat.le_of_ble_eq_true rfl) ⟨Nat.le_of_ble_eq_true rfl, Nat.le_of_ble_eq_true rfl⟩ ⟨by decide, by decide⟩ dX11_closure_115 (fun v115 S115 w115 => ?_)
            · exact haL
            · focus ((try clear hbs); (try clear hc); (try clear hpw); (try clear h012); (try clear hC0); (try clear hC); (try clear hor); (try clear hcb); (try clear ih); (try clear hcp); (try clear ipw); (try clear ip); (try clear hcy); (try clear hC1); (try clear p115); (try clear p132); (try clear hd2); (try clear hd3); (try clear hC2); (try clear hC3); (try clear hesn); (try clear hrc); (try clear io1); (try clear hcl2); (try clear hcl3); (try clear hmu2); (try clear hmu3); (try clear hor2); (try clear hor3); (try clear h3); (try clear hnb); simp only [vp_in_iff, Int32.lt_iff_toInt_lt, Int32.le_iff_toInt_le, ← Int32.toInt_inj, Int32.toInt_add, Int32.toInt_sub, Int32.toInt_mul, Int32.toInt_neg, pq_NuO, pq_NuI, pq_NuJ, pq_NuR, pq_shr6, pq_shr7, pq_shr8, lqm1, lq0, lq1, lq3] at *; (try simp (disch := omega) only [pq_bm] at *); all_goals omega)
            · focus ((try clear hbs); (try clear hc); (try clear hpw); (try clear h012); (try clear hC0); (try clear hC); (try clear hor); (try clear hcb); (try clear ih); (try clear hcp); (try clear ipw); (try clear ip); (try clear hcy); (try clear hC1); (try clear p115); (try clear p132); (try clear hd2); (try clear hd3); (try clear hC2); (try clear hC3); (try clear hesn); (try clear hrc); (try clear io1); (try clear hcl2); (try clear hcl3); (try clear hmu2); (try clear hmu3); (try clear hor2); (try clear hor3); (try clear h3); (try clear hnb); simp only [vp_in_iff, Int32.lt_iff_toInt_lt, Int32.le_iff_toInt_le, ← Int32.toInt_inj, Int32.toInt_add, Int32.toInt_sub, Int32.toInt_mul, Int32.toInt_neg, pq_NuO, pq_NuI, pq_NuJ, pq_NuR, pq_shr6, pq_shr7, pq_shr8, lqm1, lq0, lq1, lq3] at *; (try simp (disch := omega) only [pq_bm] at *); all_goals omega)
            obtain ⟨rfl, hF115, p115⟩ := w115
            have haL_115 := (hF115.1 _ _ haL (by decide)).1
            have hstL_115 := (hF115.1 _ _ hstL (by decide)).1
            have ec115_21_haL_115 := hF115.O haL (by decide) (by decide) (pq_kp e21L (by decide))
            have hskL_115 := (hF115.1 _ _ hskL (by decide)).1
            have ec115_22_haL_115 := hF115.O haL (by decide) (by decide) (pq_kp e22L (by decide))
            have ec115_23_haL_115 := hF115.O haL (by decide) (by decide) (pq_kp e23L (by decide))
            have haoL_115 := (hF115.1 _ _ haoL (by decide)).1
            have ec115_4_haL_115 := hF115.O haL (by decide) (by decide) (pq_kp e4L (by decide))
            have haaL_115 := (hF115.1 _ _ haaL (by decide)).1
            have ec115_5_haL_115 := hF115.O haL (by decide) (by decide) (pq_kp e5L (by decide))
            have hrgL_115 := (hF115.1 _ _ hrgL (by decide)).1
            have ec115_25_haL_115 := hF115.O haL (by decide) (by decide) (pq_kp e25L (by decide))
            have ec115_26_haL_115 := hF115.O haL (by decide) (by decide) (pq_kp hrr (by decide))
            obtain ⟨pl2, hp2, hp20, hcl2, hmu2, hd2⟩ := p115
            rw [ci5] at hd2
            obtain ⟨hC2, hst2, hor2⟩ := hC1.rch hi5 (hrc i5 hes5) hi5e hd2
            have hFX : pq_Fr [(127, 0), (128, 0), (14, 24), (129, 0), (14, 26)] S S115 := (hF.uO haL (by decide)).cm hF115 (by decide)
            have hstX := hFX.R hst (by decide)
            have hskX := hFX.R hsk (by decide)
            have haoX := hFX.R hao (by decide)
            have haaX := hFX.R haa (by decide)
            have hrgX := hFX.R hrg (by decide)
            have e21X := hFX.O ha (by decide) (by decide) e21
            have e22X := hFX.O ha (by decide) (by decide) e22
            have e23X := hFX.O ha (by decide) (by decide) e23
            have e4X := hFX.O ha (by decide) (by decide) e4
            have e5X := hFX.O ha (by decide) (by decide) e5
            have e25X := hFX.O ha (by decide) (by decide) e25
            have n1X : mn ≤ hN S115 ast := (by rw [(hFX.1 ast 127 hst (by decide)).2]; exact hn1)
            have n2X : mn ≤ hN S115 ask := (by rw [(hFX.1 ask 128 hsk (by decide)).2]; exact hn2)
            have n3X : mn ≤ hN S115 ao := (by rw [(hFX.1 ao 120 hao (by decide)).2]; exact hn3)
            have n4X : mn ≤ hN S115 aa := (by rw [(hFX.1 aa 121 haa (by decide)).2]; exact hn4)
            have ioX := hFX.I hao (by decide) (by decide)
            have iaX := hFX.I haa (by decide) (by decide)
            refine pq_aload_n F dX11_closure_118 rfl rfl ?_
            refine pq_get F haL_115 (by decide) lk_X11_10 e4X dX11_closure_119 ?_
            refine pq_iload_n F dX11_closure_122 rfl rfl ?_
            refine pq_iald F haoX (by decide) (by decide) rfl (fun n1_123 n2_123 => (by focus ((try clear hbs); (try clear hc); (try clear hpw); (try clear h012); (try clear hC0); (try clear hC); (try clear hor); (try clear hcb); (try clear ih); (try clear hcp); (try clear ipw); (try clear ip); (try clear hcy); (try clear hC1); (try clear p115); (try clear p132); (try clear hd2); (try clear hd3); (try clear hC2); (try clear hC3); (try clear hesn); (try clear hrc); (try clear io1); (try clear hcl2); (try clear hcl3); (try clear hmu2); (try clear hmu3); (try clear hor2); (try clear hor3); (try clear h3); (try clear hnb); simp only [vp_in_iff, Int32.lt_iff_toInt_lt, Int32.le_iff_toInt_le, ← Int32.toInt_inj, Int32.toInt_add, Int32.toInt_sub, Int32.toInt_mul, Int32.toInt_neg, pq_NuO, pq_NuI, pq_NuJ, pq_NuR, pq_shr6, pq_shr7, pq_shr8, lqm1, lq0, lq1, lq3] at *; (try simp (disch := omega) only [pq_bm] at *); all_goals omega))) dX11_closure_123 (fun x123 e123 l123 u123 => ?_)
            refine pq_iconst (v := 1) F dX11_closure_124 (by decide) ?_
            refine pq_icmp_ne (tgt := 135) F dX11_closure_125 (by decide) (fun c125 => ?_) (fun c125 => ?_)
            · skip
              have g1n : ¬ hI S ao k0 = 1 := (fun z => c125 (by rw [e123, ioX, cxk]; exact z))
              refine pq_goto (tgt := 7) F dX11_closure_135 (by decide) ?_
              exact pq_fgm [true, true, false] (ih _ bs pl2 rd1 hFX hp2 hp20 (hF115.O haL (by decide) (by decide) (pq_kp hrr (by decide))) hr0 hcl2 (tk_orx hor hor2) hbs (by rw [hF115.I hrgL (by decide) (by decide)]; exact hC2.done (fun z k9 he => (by rcases he with ⟨w, _⟩ | ⟨_, w⟩; exact absurd (show (hI S ao k0).toInt.toNat = 1 from w) (fun w => g1n (by have z1 := h012 k0 k0lt; rcases z1 with z1 | z1 | z1 <;> rw [z1] at w <;> first | exact z1 | exact absurd w (by decide))); have e7 : k9 = i5 := (by have w2 : (k9 : Int) = (k0 : Int) + (hI S aa k0).toInt := w; omega); rw [e7]; exact ⟨hi5, hst2⟩)) (fun q _ hq => absurd (congrArg Prod.fst hq) (fun w => g0n (by have w2 : (hI S ao k0).toInt.toNat = 0 := w; have z1 := h012 k0 k0lt; rcases z1 with z1 | z1 | z1 <;> rw [z1] at w2 <;> first | exact z1 | exact absurd w2 (by decide)))) (fun z => absurd z (Nat.ne_of_lt k0lt)) (fun _ z => z) (fun z => z) (fun _ z => Or.inl z) (fun z => Or.inl z)) (by have w : pl2.toNatClampNeg + 2 * pq_un (hI S115 ast) sx mn ≤ (pl1 - 1).toNatClampNeg + 2 * pq_un (hI S1 ast) sx mn := hmu2; omega))
            · skip
              have g1 : hI S ao x32.toNatClampNeg = 1 := (by rw [← ioX]; exact e123.symm.trans c125)
              have ip1 := ip.2.2 g1
              have g1k : hI S ao k0 = 1 := (by rw [← cxk]; exact g1)
              refine pq_aload_n F dX11_closure_128 rfl rfl ?_
              refine pq_iload_n F dX11_closure_129 rfl rfl ?_
              refine pq_iconst (v := 1) F dX11_closure_130 (by decide) ?_
              refine pq_iadd F dX11_closure_131 ?_
              refine pq_callV (As := [_]) F (k_X11_reachG l D cy _ _ ?_ _ ast ask mn rd1.toNatClampNeg (hI S ao) sx pl2 e21X hstX e22X hskX e23X hp2 hp20 n1X n2X hmn hcl2 ?_ ?_) ml_X11_133 haL_115 (by decide) rfl (Nat.le_of_ble_eq_true rfl) ⟨Nat.le_of_ble_eq_true rfl, Nat.le_of_ble_eq_true rfl⟩ ⟨by decide, by decide⟩ dX11_closure_132 (fun v132 S132 w132 => ?_)
              · exact haL_115
              · focus ((try clear hbs); (try clear hc); (try clear hpw); (try clear h012); (try clear hC0); (try clear hC); (try clear hor); (try clear hcb); (try clear ih); (try clear hcp); (try clear ipw); (try clear ip); (try clear hcy); (try clear hC1); (try clear p115); (try clear p132); (try clear hd2); (try clear hd3); (try clear hC2); (try clear hC3); (try clear hesn); (try clear hrc); (try clear io1); (try clear hcl2); (try clear hcl3); (try clear hmu2); (try clear hmu3); (try clear hor2); (try clear hor3); (try clear h3); (try clear hnb); simp only [vp_in_iff, Int32.lt_iff_toInt_lt, Int32.le_iff_toInt_le, ← Int32.toInt_inj, Int32.toInt_add, Int32.toInt_sub, Int32.toInt_mul, Int32.toInt_neg, pq_NuO, pq_NuI, pq_NuJ, pq_NuR, pq_shr6, pq_shr7, pq_shr8, lqm1, lq0, lq1, lq3] at *; (try simp (disch := omega) only [pq_bm] at *); all_goals omega)
              · focus ((try clear hbs); (try clear hc); (try clear hpw); (try clear h012); (try clear hC0); (try clear hC); (try clear hor); (try clear hcb); (try clear ih); (try clear hcp); (try clear ipw); (try clear ip); (try clear hcy); (try clear hC1); (try clear p115); (try clear p132); (try clear hd2); (try clear hd3); (try clear hC2); (try clear hC3); (try clear hesn); (try clear hrc); (try clear io1); (try clear hcl2); (try clear hcl3); (try clear hmu2); (try clear hmu3); (try clear hor2); (try clear hor3); (try clear h3); (try clear hnb); simp only [vp_in_iff, Int32.lt_iff_toInt_lt, Int32.le_iff_toInt_le, ← Int32.toInt_inj, Int32.toInt_add, Int32.toInt_sub, Int32.toInt_mul, Int32.toInt_neg, pq_NuO, pq_NuI, pq_NuJ, pq_NuR, pq_shr6, pq_shr7, pq_shr8, lqm1, lq0, lq1, lq3] at *; (try simp (disch := omega) only [pq_bm] at *); all_goals omega)
              obtain ⟨rfl, hF132, p132⟩ := w132
              have haL_132 := (hF132.1 _ _ haL_115 (by decide)).1
              have hstL_132 := (hF132.1 _ _ hstL_115 (by decide)).1
              have ec132_21_haL_132 := hF132.O haL_115 (by decide) (by decide) ec115_21_haL_115
              have hskL_132 := (hF132.1 _ _ hskL_115 (by decide)).1
              have ec132_22_haL_132 := hF132.O haL_115 (by decide) (by decide) ec115_22_haL_115
              have ec132_23_haL_132 := hF132.O haL_115 (by decide) (by decide) ec115_23_haL_115
              have haoX_132 := (hF132.1 _ _ haoX (by decide)).1
              have ec132_4_haL_132 := hF132.O haL_115 (by decide) (by decide) e4X
              have haaL_132 := (hF132.1 _ _ haaL_115 (by decide)).1
              have ec132_5_haL_132 := hF132.O haL_115 (by decide) (by decide) ec115_5_haL_115
              have hrgL_132 := (hF132.1 _ _ hrgL_115 (by decide)).1
              have ec132_25_haL_132 := hF132.O haL_115 (by decide) (by decide) ec115_25_haL_115
              have ec132_26_haL_132 := hF132.O haL_115 (by decide) (by decide) ec115_26_haL_115
              obtain ⟨pl3, hp3, hp30, hcl3, hmu3, hd3⟩ := p132
              have ck1 : (x32 + 1).toInt = ((k0 + 1 : Nat) : Int) := (by focus ((try clear hbs); (try clear hc); (try clear hpw); (try clear h012); (try clear hC0); (try clear hC); (try clear hor); (try clear hcb); (try clear ih); (try clear hcp); (try clear ipw); (try clear ip); (try clear hcy); (try clear hC1); (try clear p115); (try clear p132); (try clear hd2); (try clear hd3); (try clear hC2); (try clear hC3); (try clear hesn); (try clear hrc); (try clear io1); (try clear hcl2); (try clear hcl3); (try clear hmu2); (try clear hmu3); (try clear hor2); (try clear hor3); (try clear h3); (try clear hnb); simp only [vp_in_iff, Int32.lt_iff_toInt_lt, Int32.le_iff_toInt_le, ← Int32.toInt_inj, Int32.toInt_add, Int32.toInt_sub, Int32.toInt_mul, Int32.toInt_neg, pq_NuO, pq_NuI, pq_NuJ, pq_NuR, pq_shr6, pq_shr7, pq_shr8, lqm1, lq0, lq1, lq3] at *; (try simp (disch := omega) only [pq_bm] at *); all_goals omega))
              rw [tk_ix ck1] at hd3
              obtain ⟨hC3, hst3, hor3⟩ := hC2.rch (i := k0 + 1) k0lt (hrc (k0 + 1) (Or.inl ⟨(by show (hI S ao k0).toInt.toNat = 1; rw [g1k]; rfl), rfl⟩)) ck1 hd3
              refine pq_goto (tgt := 7) F dX11_closure_135 (by decide) ?_
              exact pq_fgm [true, true, false] (ih _ bs pl3 rd1 (hFX.cm hF132 (by decide)) hp3 hp30 (hF132.O haL_115 (by decide) (by decide) (hF115.O haL (by decide) (by decide) (pq_kp hrr (by decide)))) hr0 hcl3 (tk_orx (tk_orx hor hor2) hor3) hbs (by rw [hF132.I (hF115.R hrgL (by decide)) (by decide) (by decide), hF115.I hrgL (by decide) (by decide)]; exact hC3.done (fun z k9 he => (by rcases he with ⟨_, w⟩ | ⟨_, w⟩; (have e7 : k9 = k0 + 1 := w; rw [e7]; exact ⟨k0lt, hst3⟩); (have e7 : k9 = i5 := (by have w2 : (k9 : Int) = (k0 : Int) + (hI S aa k0).toInt := w; omega); rw [e7]; exact ⟨hi5, (hor3 i5).elim (fun z9 => z9.trans hst2) id⟩))) (fun q _ hq => absurd (congrArg Prod.fst hq) (fun w => g0n (by have w2 : (hI S ao k0).toInt.toNat = 0 := w; have z1 := h012 k0 k0lt; rcases z1 with z1 | z1 | z1 <;> rw [z1] at w2 <;> first | exact z1 | exact absurd w2 (by decide)))) (fun z => absurd z (Nat.ne_of_lt k0lt)) (fun _ z => z) (fun z => z) (fun _ z => Or.inl z) (fun z => Or.inl z)) (by have w : pl2.toNatClampNeg + 2 * pq_un (hI S115 ast) sx mn ≤ (pl1 - 1).toNatClampNeg + 2 * pq_un (hI S1 ast) sx mn := hmu2; have w2 := hmu3; omega))
          · skip
            have k0m : k0 = mm := (by have g3 : hI S ao k0 = 3 := (by rw [← cxk, ← ioL]; exact e76.symm.trans c78); have z : ¬ k0 < mm := (fun z => (by rcases h012 k0 z with w | w | w <;> rw [w] at g3 <;> exact absurd g3 (by decide))); omega)
            refine pq_iload_n F dX11_closure_81 rfl rfl ?_
            refine pq_iconst (v := -1) F dX11_closure_82 (by decide) ?_
            refine pq_icmp_eq (tgt := 96) F dX11_closure_83 (by decide) (fun c83 => ?_) (fun c83 => ?_)
            · skip
              refine pq_aload_n F dX11_closure_96 rfl rfl ?_
              refine pq_get F haL (by decide) lk_X11_20 (pq_kp e5L (by decide)) dX11_closure_97 ?_
              refine pq_iload_n F dX11_closure_100 rfl rfl ?_
              refine pq_iald F haaL (by decide) (by decide) rfl (fun n1_101 n2_101 => (by focus ((try clear hbs); (try clear hc); (try clear hpw); (try clear h012); (try clear hC0); (try clear hC); (try clear hor); (try clear hcb); (try clear ih); (try clear hcp); (try clear ipw); (try clear ip); (try clear hcy); (try clear hC1); (try clear p115); (try clear p132); (try clear hd2); (try clear hd3); (try clear hC2); (try clear hC3); (try clear hesn); (try clear hrc); (try clear io1); (try clear hcl2); (try clear hcl3); (try clear hmu2); (try clear hmu3); (try clear hor2); (try clear hor3); (try clear h3); (try clear hnb); simp only [vp_in_iff, Int32.lt_iff_toInt_lt, Int32.le_iff_toInt_le, ← Int32.toInt_inj, Int32.toInt_add, Int32.toInt_sub, Int32.toInt_mul, Int32.toInt_neg, pq_NuO, pq_NuI, pq_NuJ, pq_NuR, pq_shr6, pq_shr7, pq_shr8, lqm1, lq0, lq1, lq3] at *; (try simp (disch := omega) only [pq_bm] at *); all_goals omega))) dX11_closure_101 (fun x101 e101 l101 u101 => ?_)
              refine pq_istore_n F dX11_closure_102 rfl (by decide) ?_
              refine pq_goto (tgt := 135) F dX11_closure_103 (by decide) ?_
              refine pq_goto (tgt := 7) F dX11_closure_135 (by decide) ?_
              have hb101 : x101 = 0 := (e101.trans (by show hI S1 aa x32.toNatClampNeg = 0; rw [iaL, cxk, k0m]; exact hnb))
              exact pq_fgm [true, true, false] (ih _ x101 (pl1 - 1) rd1 (hF.uO haL (by decide)) pq_ks hp7 (pq_kp hrr (by decide)) hr0 (hcp.1.less (Nat.le_add_right _ _)) hor (Or.inr hb101) (hC1.done (fun z => absurd z (by omega)) (fun q z => absurd z (by omega)) (fun _ => (fun z => (by rw [z] at hb101; revert hb101; decide))) (fun _ z => z) (fun _ => (fun z => (by rw [z] at hb101; revert hb101; decide))) (fun _ z => Or.inl z) (fun _ => Or.inr (by rw [← k0m]; exact hst0))) (by show (pl1 - 1).toNatClampNeg + 2 * pq_un (hI S1 ast) sx mn < fu; omega))
            · skip
              refine pq_aload_n F dX11_closure_86 rfl rfl ?_
              refine pq_get F haL (by decide) lk_X11_20 (pq_kp e5L (by decide)) dX11_closure_87 ?_
              refine pq_iload_n F dX11_closure_90 rfl rfl ?_
              refine pq_iald F haaL (by decide) (by decide) rfl (fun n1_91 n2_91 => (by focus ((try clear hbs); (try clear hc); (try clear hpw); (try clear h012); (try clear hC0); (try clear hC); (try clear hor); (try clear hcb); (try clear ih); (try clear hcp); (try clear ipw); (try clear ip); (try clear hcy); (try clear hC1); (try clear p115); (try clear p132); (try clear hd2); (try clear hd3); (try clear hC2); (try clear hC3); (try clear hesn); (try clear hrc); (try clear io1); (try clear hcl2); (try clear hcl3); (try clear hmu2); (try clear hmu3); (try clear hor2); (try clear hor3); (try clear h3); (try clear hnb); simp only [vp_in_iff, Int32.lt_iff_toInt_lt, Int32.le_iff_toInt_le, ← Int32.toInt_inj, Int32.toInt_add, Int32.toInt_sub, Int32.toInt_mul, Int32.toInt_neg, pq_NuO, pq_NuI, pq_NuJ, pq_NuR, pq_shr6, pq_shr7, pq_shr8, lqm1, lq0, lq1, lq3] at *; (try simp (disch := omega) only [pq_bm] at *); all_goals omega))) dX11_closure_91 (fun x91 e91 l91 u91 => ?_)
              refine pq_iload_n F dX11_closure_92 rfl rfl ?_
              refine pq_icmp_ge (tgt := 135) F dX11_closure_93 (by decide) (fun c93 => ?_) (fun c93 => ?_)
              · skip
                refine pq_goto (tgt := 7) F dX11_closure_135 (by decide) ?_
                exact pq_fgm [true, true, false] (ih _ bs (pl1 - 1) rd1 (hF.uO haL (by decide)) pq_ks hp7 (pq_kp hrr (by decide)) hr0 (hcp.1.less (Nat.le_add_right _ _)) hor hbs (hC1.done (fun z => absurd z (by omega)) (fun q z => absurd z (by omega)) (fun _ => c83) (fun _ z => z) (fun _ => c83) (fun _ z => Or.inl z) (fun _ => Or.inr (by rw [← k0m]; exact hst0))) (by show (pl1 - 1).toNatClampNeg + 2 * pq_un (hI S1 ast) sx mn < fu; omega))
              · skip
                refine pq_aload_n F dX11_closure_96 rfl rfl ?_
                refine pq_get F haL (by decide) lk_X11_20 (pq_kp e5L (by decide)) dX11_closure_97 ?_
                refine pq_iload_n F dX11_closure_100 rfl rfl ?_
                refine pq_iald F haaL (by decide) (by decide) rfl (fun n1_101 n2_101 => (by focus ((try clear hbs); (try clear hc); (try clear hpw); (try clear h012); (try clear hC0); (try clear hC); (try clear hor); (try clear hcb); (try clear ih); (try clear hcp); (try clear ipw); (try clear ip); (try clear hcy); (try clear hC1); (try clear p115); (try clear p132); (try clear hd2); (try clear hd3); (try clear hC2); (try clear hC3); (try clear hesn); (try clear hrc); (try clear io1); (try clear hcl2); (try clear hcl3); (try clear hmu2); (try clear hmu3); (try clear hor2); (try clear hor3); (try clear h3); (try clear hnb); simp only [vp_in_iff, Int32.lt_iff_toInt_lt, Int32.le_iff_toInt_le, ← Int32.toInt_inj, Int32.toInt_add, Int32.toInt_sub, Int32.toInt_mul, Int32.toInt_neg, pq_NuO, pq_NuI, pq_NuJ, pq_NuR, pq_shr6, pq_shr7, pq_shr8, lqm1, lq0, lq1, lq3] at *; (try simp (disch := omega) only [pq_bm] at *); all_goals omega))) dX11_closure_101 (fun x101 e101 l101 u101 => ?_)
                refine pq_istore_n F dX11_closure_102 rfl (by decide) ?_
                refine pq_goto (tgt := 135) F dX11_closure_103 (by decide) ?_
                refine pq_goto (tgt := 7) F dX11_closure_135 (by decide) ?_
                have hb101 : x101 = 0 := (e101.trans (by show hI S1 aa x32.toNatClampNeg = 0; rw [iaL, cxk, k0m]; exact hnb))
                exact pq_fgm [true, true, false] (ih _ x101 (pl1 - 1) rd1 (hF.uO haL (by decide)) pq_ks hp7 (pq_kp hrr (by decide)) hr0 (hcp.1.less (Nat.le_add_right _ _)) hor (Or.inr hb101) (hC1.done (fun z => absurd z (by omega)) (fun q z => absurd z (by omega)) (fun _ => (fun z => (by rw [z] at hb101; revert hb101; decide))) (fun _ z => z) (fun _ => (fun z => (by rw [z] at hb101; revert hb101; decide))) (fun _ z => Or.inl z) (fun _ => Or.inr (by rw [← k0m]; exact hst0))) (by show (pl1 - 1).toNatClampNeg + 2 * pq_un (hI S1 ast) sx mn < fu; omega))
        · skip
          have g0 : hI S ao x32.toNatClampNeg = 0 := (by rw [← ioL]; exact e39.symm.trans c40)
          have g0' : hI S ao k0 = 0 := (by rw [← cxk]; exact g0)
          have hcy := hcp.1
          rw [if_pos g0] at hcy
          have hle := hcy.2.2
          have ip := ipw.1 g0
          have k0lt : k0 < mm := (by have z : k0 ≠ mm := (fun z => absurd (g0'.symm.trans ((congrArg (hI S ao) z).trans h3)) (by decide)); omega)
          refine pq_aload_n F dX11_closure_43 rfl rfl ?_
          refine pq_get F haL (by decide) lk_X11_130 (pq_kp e25L (by decide)) dX11_closure_44 ?_
          refine pq_aload_n F dX11_closure_47 rfl rfl ?_
          refine pq_get F haL (by decide) lk_X11_127 (pq_kp hrr (by decide)) dX11_closure_48 ?_
          refine pq_aload_n F dX11_closure_51 rfl rfl ?_
          refine pq_get F haL (by decide) lk_X11_20 (pq_kp e5L (by decide)) dX11_closure_52 ?_
          refine pq_iload_n F dX11_closure_55 rfl rfl ?_
          refine pq_iald F haaL (by decide) (by decide) rfl (fun n1_56 n2_56 => (by focus ((try clear hbs); (try clear hc); (try clear hpw); (try clear h012); (try clear hC0); (try clear hC); (try clear hor); (try clear hcb); (try clear ih); (try clear hcp); (try clear ipw); (try clear ip); (try clear hcy); (try clear hC1); (try clear p115); (try clear p132); (try clear hd2); (try clear hd3); (try clear hC2); (try clear hC3); (try clear hesn); (try clear hrc); (try clear io1); (try clear hcl2); (try clear hcl3); (try clear hmu2); (try clear hmu3); (try clear hor2); (try clear hor3); (try clear h3); (try clear hnb); simp only [vp_in_iff, Int32.lt_iff_toInt_lt, Int32.le_iff_toInt_le, ← Int32.toInt_inj, Int32.toInt_add, Int32.toInt_sub, Int32.toInt_mul, Int32.toInt_neg, pq_NuO, pq_NuI, pq_NuJ, pq_NuR, pq_shr6, pq_shr7, pq_shr8, lqm1, lq0, lq1, lq3] at *; (try simp (disch := omega) only [pq_bm] at *); all_goals omega))) dX11_closure_56 (fun x56 e56 l56 u56 => ?_)
          have ea : x56 = hI S aa x32.toNatClampNeg := (by rw [← iaL]; exact e56)
          rw [← ea] at ip
          have ipa := ip.1
          have ipb := ip.2
          refine pq_iast F hrgL (by decide) (by decide) rfl (fun n1_57 n2_57 => (by focus ((try clear hbs); (try clear hc); (try clear hpw); (try clear h012); (try clear hC0); (try clear hC); (try clear hor); (try clear hcb); (try clear ih); (try clear hcp); (try clear ipw); (try clear ip); (try clear hcy); (try clear hC1); (try clear p115); (try clear p132); (try clear hd2); (try clear hd3); (try clear hC2); (try clear hC3); (try clear hesn); (try clear hrc); (try clear io1); (try clear hcl2); (try clear hcl3); (try clear hmu2); (try clear hmu3); (try clear hor2); (try clear hor3); (try clear h3); (try clear hnb); simp only [vp_in_iff, Int32.lt_iff_toInt_lt, Int32.le_iff_toInt_le, ← Int32.toInt_inj, Int32.toInt_add, Int32.toInt_sub, Int32.toInt_mul, Int32.toInt_neg, pq_NuO, pq_NuI, pq_NuJ, pq_NuR, pq_shr6, pq_shr7, pq_shr8, lqm1, lq0, lq1, lq3] at *; (try simp (disch := omega) only [pq_bm] at *); all_goals omega))) (⟨(by focus ((try clear hbs); (try clear hc); (try clear hpw); (try clear h012); (try clear hC0); (try clear hC); (try clear hor); (try clear hcb); (try clear ih); (try clear hcp); (try clear ipw); (try clear ip); (try clear hcy); (try clear hC1); (try clear p115); (try clear p132); (try clear hd2); (try clear hd3); (try clear hC2); (try clear hC3); (try clear hesn); (try clear hrc); (try clear io1); (try clear hcl2); (try clear hcl3); (try clear hmu2); (try clear hmu3); (try clear hor2); (try clear hor3); (try clear h3); (try clear hnb); simp only [vp_in_iff, Int32.lt_iff_toInt_lt, Int32.le_iff_toInt_le, ← Int32.toInt_inj, Int32.toInt_add, Int32.toInt_sub, Int32.toInt_mul, Int32.toInt_neg, pq_NuO, pq_NuI, pq_NuJ, pq_NuR, pq_shr6, pq_shr7, pq_shr8, lqm1, lq0, lq1, lq3] at *; (try simp (disch := omega) only [pq_bm] at *); all_goals omega)), (by focus ((try clear hbs); (try clear hc); (try clear hpw); (try clear h012); (try clear hC0); (try clear hC); (try clear hor); (try clear hcb); (try clear ih); (try clear hcp); (try clear ipw); (try clear ip); (try clear hcy); (try clear hC1); (try clear p115); (try clear p132); (try clear hd2); (try clear hd3); (try clear hC2); (try clear hC3); (try clear hesn); (try clear hrc); (try clear io1); (try clear hcl2); (try clear hcl3); (try clear hmu2); (try clear hmu3); (try clear hor2); (try clear hor3); (try clear h3); (try clear hnb); simp only [vp_in_iff, Int32.lt_iff_toInt_lt, Int32.le_iff_toInt_le, ← Int32.toInt_inj, Int32.toInt_add, Int32.toInt_sub, Int32.toInt_mul, Int32.toInt_neg, pq_NuO, pq_NuI, pq_NuJ, pq_NuR, pq_shr6, pq_shr7, pq_shr8, lqm1, lq0, lq1, lq3] at *; (try simp (disch := omega) only [pq_bm] at *); all_goals omega))⟩) dX11_closure_57 ?_
          refine pq_aload_n F dX11_closure_58 rfl rfl ?_
          refine pq_dup F dX11_closure_59 rfl ?_
          refine pq_get F haL (by decide) lk_X11_127 (pq_kp hrr (by decide)) dX11_closure_60 ?_
          refine pq_iconst (v := 1) F dX11_closure_63 (by decide) ?_
          refine pq_iadd F dX11_closure_64 ?_
          refine pq_putI F haL (by decide) lp_X11_127 rfl (by focus ((try clear hbs); (try clear hc); (try clear hpw); (try clear h012); (try clear hC0); (try clear hC); (try clear hor); (try clear hcb); (try clear ih); (try clear hcp); (try clear ipw); (try clear ip); (try clear hcy); (try clear hC1); (try clear p115); (try clear p132); (try clear hd2); (try clear hd3); (try clear hC2); (try clear hC3); (try clear hesn); (try clear hrc); (try clear io1); (try clear hcl2); (try clear hcl3); (try clear hmu2); (try clear hmu3); (try clear hor2); (try clear hor3); (try clear h3); (try clear hnb); simp only [vp_in_iff, Int32.lt_iff_toInt_lt, Int32.le_iff_toInt_le, ← Int32.toInt_inj, Int32.toInt_add, Int32.toInt_sub, Int32.toInt_mul, Int32.toInt_neg, pq_NuO, pq_NuI, pq_NuJ, pq_NuR, pq_shr6, pq_shr7, pq_shr8, lqm1, lq0, lq1, lq3] at *; (try simp (disch := omega) only [pq_bm] at *); all_goals omega)) (by focus ((try clear hbs); (try clear hc); (try clear hpw); (try clear h012); (try clear hC0); (try clear hC); (try clear hor); (try clear hcb); (try clear ih); (try clear hcp); (try clear ipw); (try clear ip); (try clear hcy); (try clear hC1); (try clear p115); (try clear p132); (try clear hd2); (try clear hd3); (try clear hC2); (try clear hC3); (try clear hesn); (try clear hrc); (try clear io1); (try clear hcl2); (try clear hcl3); (try clear hmu2); (try clear hmu3); (try clear hor2); (try clear hor3); (try clear h3); (try clear hnb); simp only [vp_in_iff, Int32.lt_iff_toInt_lt, Int32.le_iff_toInt_le, ← Int32.toInt_inj, Int32.toInt_add, Int32.toInt_sub, Int32.toInt_mul, Int32.toInt_neg, pq_NuO, pq_NuI, pq_NuJ, pq_NuR, pq_shr6, pq_shr7, pq_shr8, lqm1, lq0, lq1, lq3] at *; (try simp (disch := omega) only [pq_bm] at *); all_goals omega)) dX11_closure_65 ?_
          refine pq_goto (tgt := 135) F dX11_closure_68 (by decide) ?_
          refine pq_goto (tgt := 7) F dX11_closure_135 (by decide) ?_
          have e9 : (rd1 + 1).toNatClampNeg = rd1.toNatClampNeg + 1 := (by have h8 : 0 ≤ (rd1 + 1).toInt := (by focus ((try clear hbs); (try clear hc); (try clear hpw); (try clear h012); (try clear hC0); (try clear hC); (try clear hor); (try clear hcb); (try clear ih); (try clear hcp); (try clear ipw); (try clear ip); (try clear hcy); (try clear hC1); (try clear p115); (try clear p132); (try clear hd2); (try clear hd3); (try clear hC2); (try clear hC3); (try clear hesn); (try clear hrc); (try clear io1); (try clear hcl2); (try clear hcl3); (try clear hmu2); (try clear hmu3); (try clear hor2); (try clear hor3); (try clear h3); (try clear hnb); simp only [vp_in_iff, Int32.lt_iff_toInt_lt, Int32.le_iff_toInt_le, ← Int32.toInt_inj, Int32.toInt_add, Int32.toInt_sub, Int32.toInt_mul, Int32.toInt_neg, pq_NuO, pq_NuI, pq_NuJ, pq_NuR, pq_shr6, pq_shr7, pq_shr8, lqm1, lq0, lq1, lq3] at *; (try simp (disch := omega) only [pq_bm] at *); all_goals omega)); have h7 : (rd1 + 1).toInt = rd1.toInt + 1 := (by focus ((try clear hbs); (try clear hc); (try clear hpw); (try clear h012); (try clear hC0); (try clear hC); (try clear hor); (try clear hcb); (try clear ih); (try clear hcp); (try clear ipw); (try clear ip); (try clear hcy); (try clear hC1); (try clear p115); (try clear p132); (try clear hd2); (try clear hd3); (try clear hC2); (try clear hC3); (try clear hesn); (try clear hrc); (try clear io1); (try clear hcl2); (try clear hcl3); (try clear hmu2); (try clear hmu3); (try clear hor2); (try clear hor3); (try clear h3); (try clear hnb); simp only [vp_in_iff, Int32.lt_iff_toInt_lt, Int32.le_iff_toInt_le, ← Int32.toInt_inj, Int32.toInt_add, Int32.toInt_sub, Int32.toInt_mul, Int32.toInt_neg, pq_NuO, pq_NuI, pq_NuJ, pq_NuR, pq_shr6, pq_shr7, pq_shr8, lqm1, lq0, lq1, lq3] at *; (try simp (disch := omega) only [pq_bm] at *); all_goals omega)); have h6 := pq_cl h8; omega)
          have nt := pq_nrole hstL hrgL (by decide)
          have nk := pq_nrole hskL hrgL (by decide)
          refine pq_fgm [true, true, false] (ih _ bs (pl1 - 1) (rd1 + 1) (((hF.uO haL (by decide)).uI hrgL (by first | decide | exact List.mem_cons_self)).uO haL (by decide)) (pq_kp pq_ks (by decide)) hp7 pq_ks (by focus ((try clear hbs); (try clear hc); (try clear hpw); (try clear h012); (try clear hC0); (try clear hC); (try clear hor); (try clear hcb); (try clear ih); (try clear hcp); (try clear ipw); (try clear ip); (try clear hcy); (try clear hC1); (try clear p115); (try clear p132); (try clear hd2); (try clear hd3); (try clear hC2); (try clear hC3); (try clear hesn); (try clear hrc); (try clear io1); (try clear hcl2); (try clear hcl3); (try clear hmu2); (try clear hmu3); (try clear hor2); (try clear hor3); (try clear h3); (try clear hnb); simp only [vp_in_iff, Int32.lt_iff_toInt_lt, Int32.le_iff_toInt_le, ← Int32.toInt_inj, Int32.toInt_add, Int32.toInt_sub, Int32.toInt_mul, Int32.toInt_neg, pq_NuO, pq_NuI, pq_NuJ, pq_NuR, pq_shr6, pq_shr7, pq_shr8, lqm1, lq0, lq1, lq3] at *; (try simp (disch := omega) only [pq_bm] at *); all_goals omega)) (by rw [e9]; simp only [pq_IuO, pq_IuJ, pq_Iu, pq_JuO, pq_JuI, pq_Ju, pq_RuO, pq_RuJ, pq_RuI, if_true, if_false, nt, nk]; exact hcy) (by simp only [pq_IuO, pq_IuJ, pq_Iu, pq_JuO, pq_JuI, pq_Ju, pq_RuO, pq_RuJ, pq_RuI, if_true, if_false, nt]; exact hor) hbs ?_ (by simp only [pq_IuO, pq_IuJ, pq_Iu, pq_JuO, pq_JuI, pq_Ju, pq_RuO, pq_RuJ, pq_RuI, if_true, if_false, nt]; omega))
          simp only [pq_IuO, pq_IuJ, pq_Iu, pq_JuO, pq_JuI, pq_Ju, pq_RuO, pq_RuJ, pq_RuI, if_true, if_false, nt, nk]
          have e8 : (rd1 + 1).toInt = rd1.toInt + 1 := (by focus ((try clear hbs); (try clear hc); (try clear hpw); (try clear h012); (try clear hC0); (try clear hC); (try clear hor); (try clear hcb); (try clear ih); (try clear hcp); (try clear ipw); (try clear ip); (try clear hcy); (try clear hC1); (try clear p115); (try clear p132); (try clear hd2); (try clear hd3); (try clear hC2); (try clear hC3); (try clear hesn); (try clear hrc); (try clear io1); (try clear hcl2); (try clear hcl3); (try clear hmu2); (try clear hmu3); (try clear hor2); (try clear hor3); (try clear h3); (try clear hnb); simp only [vp_in_iff, Int32.lt_iff_toInt_lt, Int32.le_iff_toInt_le, ← Int32.toInt_inj, Int32.toInt_add, Int32.toInt_sub, Int32.toInt_mul, Int32.toInt_neg, pq_NuO, pq_NuI, pq_NuJ, pq_NuR, pq_shr6, pq_shr7, pq_shr8, lqm1, lq0, lq1, lq3] at *; (try simp (disch := omega) only [pq_bm] at *); all_goals omega))
          rw [e8]
          refine hC1.done (fun z k' he => ?_) (fun q z hq => ?_) (fun z => ?_) (fun q ⟨j, j1, j2⟩ => ⟨j, by omega, by rw [pk_un (by omega)]; exact j2⟩) (fun z => z) (fun q ⟨j, j1, j2⟩ => ?_) (fun z => Or.inl z)
          · exact absurd he (hesn g0' k')
          · refine ⟨rd1.toNatClampNeg, by omega, ?_⟩
            rw [pk_us, ea, cxk]
            exact congrArg Prod.snd hq
          · exact absurd (g0'.symm.trans ((congrArg (hI S ao) z).trans h3)) (by decide)
          · by_cases z : j = rd1.toNatClampNeg
            · rw [z, pk_us] at j2
              exact Or.inr ⟨k0, k0lt, hst0, Prod.ext (by show (hI S ao k0).toInt.toNat = 0; rw [g0']; rfl) (by show (hI S aa k0).toInt = (q : Int); rw [← cxk, ← ea]; exact j2)⟩
            · rw [pk_un z] at j2
              exact Or.inl ⟨j, by omega, j2⟩
  refine pq_iconst (v := -1) F dX11_closure_0 (by decide) ?_
  refine pq_istore_n F dX11_closure_1 rfl (by decide) ?_
  refine pq_aload_n F dX11_closure_2 rfl rfl ?_
  refine pq_iconst (v := 0) F dX11_closure_3 (by decide) ?_
  refine pq_putI F ha (by decide) lp_X11_127 rfl (by focus ((try clear hbs); (try clear hc); (try clear hpw); (try clear h012); (try clear hC0); (try clear hC); (try clear hor); (try clear hcb); (try clear ih); (try clear hcp); (try clear ipw); (try clear ip); (try clear hcy); (try clear hC1); (try clear p115); (try clear p132); (try clear hd2); (try clear hd3); (try clear hC2); (try clear hC3); (try clear hesn); (try clear hrc); (try clear io1); (try clear hcl2); (try clear hcl3); (try clear hmu2); (try clear hmu3); (try clear hor2); (try clear hor3); (try clear h3); (try clear hnb); simp only [vp_in_iff, Int32.lt_iff_toInt_lt, Int32.le_iff_toInt_le, ← Int32.toInt_inj, Int32.toInt_add, Int32.toInt_sub, Int32.toInt_mul, Int32.toInt_neg, pq_NuO, pq_NuI, pq_NuJ, pq_NuR, pq_shr6, pq_shr7, pq_shr8, lqm1, lq0, lq1, lq3] at *; (try simp (disch := omega) only [pq_bm] at *); all_goals omega)) (by focus ((try clear hbs); (try clear hc); (try clear hpw); (try clear h012); (try clear hC0); (try clear hC); (try clear hor); (try clear hcb); (try clear ih); (try clear hcp); (try clear ipw); (try clear ip); (try clear hcy); (try clear hC1); (try clear p115); (try clear p132); (try clear hd2); (try clear hd3); (try clear hC2); (try clear hC3); (try clear hesn); (try clear hrc); (try clear io1); (try clear hcl2); (try clear hcl3); (try clear hmu2); (try clear hmu3); (try clear hor2); (try clear hor3); (try clear h3); (try clear hnb); simp only [vp_in_iff, Int32.lt_iff_toInt_lt, Int32.le_iff_toInt_le, ← Int32.toInt_inj, Int32.toInt_add, Int32.toInt_sub, Int32.toInt_mul, Int32.toInt_neg, pq_NuO, pq_NuI, pq_NuJ, pq_NuR, pq_shr6, pq_shr7, pq_shr8, lqm1, lq0, lq1, lq3] at *; (try simp (disch := omega) only [pq_bm] at *); all_goals omega)) dX11_closure_4 ?_
  exact pq_fgm [true, true, false] (L7 _ _ (-1) pl 0 (pq_Fr.rf.uO ha (by decide)) (pq_kp e24 (by decide)) hpl pq_ks (by focus ((try clear hbs); (try clear hc); (try clear hpw); (try clear h012); (try clear hC0); (try clear hC); (try clear hor); (try clear hcb); (try clear ih); (try clear hcp); (try clear ipw); (try clear ip); (try clear hcy); (try clear hC1); (try clear p115); (try clear p132); (try clear hd2); (try clear hd3); (try clear hC2); (try clear hC3); (try clear hesn); (try clear hrc); (try clear io1); (try clear hcl2); (try clear hcl3); (try clear hmu2); (try clear hmu3); (try clear hor2); (try clear hor3); (try clear h3); (try clear hnb); simp only [vp_in_iff, Int32.lt_iff_toInt_lt, Int32.le_iff_toInt_le, ← Int32.toInt_inj, Int32.toInt_add, Int32.toInt_sub, Int32.toInt_mul, Int32.toInt_neg, pq_NuO, pq_NuI, pq_NuJ, pq_NuR, pq_shr6, pq_shr7, pq_shr8, lqm1, lq0, lq1, lq3] at *; (try simp (disch := omega) only [pq_bm] at *); all_goals omega)) hc (fun _ => Or.inl rfl) (Or.inl rfl) (by have e8 : (fun q : Nat => ∃ j : Nat, (j : Int) < (0 : Int32).toInt ∧ (hI S rg j).toInt = (q : Int)) = (fun _ => False) := (funext fun q => propext ⟨fun ⟨j, j1, _⟩ => (by have : (0 : Int32).toInt = 0 := rfl; omega), False.elim⟩); have e7 : (¬ (-1 : Int32) = -1) = False := (propext ⟨fun z => z rfl, False.elim⟩); show tk_C _ mm Is _ (hI S ast) (hI S ask) sx _ (fun q : Nat => ∃ j : Nat, (j : Int) < (0 : Int32).toInt ∧ (hI S rg j).toInt = (q : Int)) _; rw [e8, e7]; exact hC0) (Nat.lt_succ_self _))

