set_option maxHeartbeats 4000000 in
set_option maxRecDepth 100000 in
theorem k_X7_initG (l : Launch) (D : va_G) (cy : Nat → ClassId) (S : HS) (a : Nat) (ha : pq_R S a 70) (d1 : hO S a 1 = .int 0) (d5 : hO S a 5 = .int 0) (d7 : hO S a 7 = .int 0) : pq_C l D cy yX7_init cX7_init 1 (none) 1 5 128 S [.ref a] (fun v S2 => v = none ∧ pq_G a S S2 ∧ pq_R S2 a 10 ∧ (pq_Is S2 a 0 0 ∧ ∃ tx : Nat, hO S2 a 7 = .int 0 ∧ hO S2 a 6 = .ref tx ∧ pq_R S2 tx 103)) := by
  refine pq_start (by decide) (Nat.le_of_ble_eq_true rfl) ?_
  intro p e s m args below meth c A F hr hlk hnm hA
  have lqm1 : (-1 : Int32).toInt = -1 := rfl
  have lq0 : (0 : Int32).toInt = 0 := rfl
  have lq1 : (1 : Int32).toInt = 1 := rfl
  have lq128 : (128 : Int32).toInt = 128 := rfl
  refine pq_aload_n F dX7_init_0 rfl rfl ?_
  refine pq_objI F ow_X7_3 ⟨Nat.le_of_ble_eq_true rfl, Nat.le_of_ble_eq_true rfl⟩ dX7_init_1 ?_
  refine pq_aload_n F dX7_init_4 rfl rfl ?_
  refine pq_sipush (v := 128) F dX7_init_5 (by decide) ?_
  refine pq_newI F (r := 163) (n := 128) (by decide) (by decide) ac_int rfl (by decide) (by focus (simp only [vp_in_iff, Int32.lt_iff_toInt_lt, Int32.le_iff_toInt_le, ← Int32.toInt_inj, Int32.toInt_add, Int32.toInt_sub, Int32.toInt_mul, Int32.toInt_neg, pq_NuO, pq_NuI, pq_NuJ, pq_NuR, pq_shr6, pq_shr7, pq_shr8, lqm1, lq0, lq1, lq128] at *; (try simp (disch := omega) only [pq_bm] at *); all_goals omega)) rfl (by decide) (Nat.le_of_ble_eq_true rfl) (Nat.le_of_ble_eq_true rfl) (Nat.le_of_ble_eq_true rfl) dX7_init_8 (fun q8 nq8 h8 => ?_)
  have ha_8 := pq_nR (r := 163) (n := 128) (ds := (fun _ => Value.null)) nq8 ha
  refine pq_putF F hnm ha_8 (by decide) lf_X7_9 rfl rfl (show pq_ok (pq_ft 70 0) _ _ from trivial) dX7_init_10 ?_
  refine pq_aload_n F dX7_init_13 rfl rfl ?_
  refine pq_iconst (v := 0) F dX7_init_14 (by decide) ?_
  refine pq_newI F (r := 164) (n := 0) (by decide) (by decide) ac_int rfl (by decide) (by focus (simp only [vp_in_iff, Int32.lt_iff_toInt_lt, Int32.le_iff_toInt_le, ← Int32.toInt_inj, Int32.toInt_add, Int32.toInt_sub, Int32.toInt_mul, Int32.toInt_neg, pq_NuO, pq_NuI, pq_NuJ, pq_NuR, pq_shr6, pq_shr7, pq_shr8, lqm1, lq0, lq1, lq128] at *; (try simp (disch := omega) only [pq_bm] at *); all_goals omega)) rfl (by decide) (Nat.le_of_ble_eq_true rfl) (Nat.le_of_ble_eq_true rfl) (Nat.le_of_ble_eq_true rfl) dX7_init_15 (fun q15 nq15 h15 => ?_)
  have ha_15 := pq_nR (r := 164) (n := 0) (ds := (fun _ => Value.null)) nq15 ha_8
  have h8_15 := pq_nR (r := 164) (n := 0) (ds := (fun _ => Value.null)) nq15 h8
  refine pq_put F ha_15 (by decide) lp_X7_15 rfl rfl (show pq_ok (pq_ft 70 2) _ _ from trivial) dX7_init_17 ?_
  refine pq_aload_n F dX7_init_20 rfl rfl ?_
  refine pq_iconst (v := 0) F dX7_init_21 (by decide) ?_
  refine pq_newI F (r := 165) (n := 0) (by decide) (by decide) ac_int rfl (by decide) (by focus (simp only [vp_in_iff, Int32.lt_iff_toInt_lt, Int32.le_iff_toInt_le, ← Int32.toInt_inj, Int32.toInt_add, Int32.toInt_sub, Int32.toInt_mul, Int32.toInt_neg, pq_NuO, pq_NuI, pq_NuJ, pq_NuR, pq_shr6, pq_shr7, pq_shr8, lqm1, lq0, lq1, lq128] at *; (try simp (disch := omega) only [pq_bm] at *); all_goals omega)) rfl (by decide) (Nat.le_of_ble_eq_true rfl) (Nat.le_of_ble_eq_true rfl) (Nat.le_of_ble_eq_true rfl) dX7_init_22 (fun q22 nq22 h22 => ?_)
  have ha_22 := pq_nR (r := 165) (n := 0) (ds := (fun _ => Value.null)) nq22 ha_15
  have h8_22 := pq_nR (r := 165) (n := 0) (ds := (fun _ => Value.null)) nq22 h8_15
  have h15_22 := pq_nR (r := 165) (n := 0) (ds := (fun _ => Value.null)) nq22 h15
  refine pq_put F ha_22 (by decide) lp_X7_18 rfl rfl (show pq_ok (pq_ft 70 3) _ _ from trivial) dX7_init_24 ?_
  refine pq_aload_n F dX7_init_27 rfl rfl ?_
  refine pq_iconst (v := 0) F dX7_init_28 (by decide) ?_
  refine pq_newJ F (r := 196) (n := 0) (by decide) (by decide) ac_long rfl (by decide) (by focus (simp only [vp_in_iff, Int32.lt_iff_toInt_lt, Int32.le_iff_toInt_le, ← Int32.toInt_inj, Int32.toInt_add, Int32.toInt_sub, Int32.toInt_mul, Int32.toInt_neg, pq_NuO, pq_NuI, pq_NuJ, pq_NuR, pq_shr6, pq_shr7, pq_shr8, lqm1, lq0, lq1, lq128] at *; (try simp (disch := omega) only [pq_bm] at *); all_goals omega)) rfl (by decide) (Nat.le_of_ble_eq_true rfl) (Nat.le_of_ble_eq_true rfl) (Nat.le_of_ble_eq_true rfl) dX7_init_29 (fun q29 nq29 h29 => ?_)
  have ha_29 := pq_nR (r := 196) (n := 0) (ds := (fun _ => Value.null)) nq29 ha_22
  have h8_29 := pq_nR (r := 196) (n := 0) (ds := (fun _ => Value.null)) nq29 h8_22
  have h15_29 := pq_nR (r := 196) (n := 0) (ds := (fun _ => Value.null)) nq29 h15_22
  have h22_29 := pq_nR (r := 196) (n := 0) (ds := (fun _ => Value.null)) nq29 h22
  refine pq_put F ha_29 (by decide) lp_X7_21 rfl rfl (show pq_ok (pq_ft 70 4) _ _ from trivial) dX7_init_31 ?_
  refine pq_aload_n F dX7_init_34 rfl rfl ?_
  refine pq_iconst (v := 0) F dX7_init_35 (by decide) ?_
  refine pq_newB F (r := 103) (n := 0) (by decide) (by decide) ac_byte rfl (by decide) (by focus (simp only [vp_in_iff, Int32.lt_iff_toInt_lt, Int32.le_iff_toInt_le, ← Int32.toInt_inj, Int32.toInt_add, Int32.toInt_sub, Int32.toInt_mul, Int32.toInt_neg, pq_NuO, pq_NuI, pq_NuJ, pq_NuR, pq_shr6, pq_shr7, pq_shr8, lqm1, lq0, lq1, lq128] at *; (try simp (disch := omega) only [pq_bm] at *); all_goals omega)) rfl (by decide) (Nat.le_of_ble_eq_true rfl) (Nat.le_of_ble_eq_true rfl) (Nat.le_of_ble_eq_true rfl) dX7_init_36 (fun q36 nq36 h36 => ?_)
  have ha_36 := pq_nR (r := 103) (n := 0) (ds := (fun _ => Value.null)) nq36 ha_29
  have h8_36 := pq_nR (r := 103) (n := 0) (ds := (fun _ => Value.null)) nq36 h8_29
  have h15_36 := pq_nR (r := 103) (n := 0) (ds := (fun _ => Value.null)) nq36 h15_29
  have h22_36 := pq_nR (r := 103) (n := 0) (ds := (fun _ => Value.null)) nq36 h22_29
  have h29_36 := pq_nR (r := 103) (n := 0) (ds := (fun _ => Value.null)) nq36 h29
  refine pq_put F ha_36 (by decide) lp_X7_25 rfl rfl (show pq_ok (pq_ft 70 6) _ _ from trivial) dX7_init_38 ?_
  refine pq_prom (r := 10) ha_36 (by decide) (by decide) (by decide) rfl (fun k => match k with | 0 => (show pq_ok (pq_ft 10 0) _ _ from ⟨by decide, _, (pq_kp (pq_nO nq36 ha_29 (pq_kp (pq_nO nq29 ha_22 (pq_kp (pq_nO nq22 ha_15 (pq_kp (pq_nO nq15 ha_8 pq_ks) (by decide))) (by decide))) (by decide))) (by decide)), h8_36⟩) | 1 => (show pq_ok (1, 0, 128) _ _ from ⟨_, (pq_kp (pq_nO nq36 ha_29 (pq_kp (pq_nO nq29 ha_22 (pq_kp (pq_nO nq22 ha_15 (pq_kp (pq_nO nq15 ha_8 (pq_kp (pq_nO nq8 ha d1) (by decide))) (by decide))) (by decide))) (by decide))) (by decide)), (by focus (simp only [vp_in_iff, Int32.lt_iff_toInt_lt, Int32.le_iff_toInt_le, ← Int32.toInt_inj, Int32.toInt_add, Int32.toInt_sub, Int32.toInt_mul, Int32.toInt_neg, pq_NuO, pq_NuI, pq_NuJ, pq_NuR, pq_shr6, pq_shr7, pq_shr8, lqm1, lq0, lq1, lq128] at *; (try simp (disch := omega) only [pq_bm] at *); all_goals omega)), (by focus (simp only [vp_in_iff, Int32.lt_iff_toInt_lt, Int32.le_iff_toInt_le, ← Int32.toInt_inj, Int32.toInt_add, Int32.toInt_sub, Int32.toInt_mul, Int32.toInt_neg, pq_NuO, pq_NuI, pq_NuJ, pq_NuR, pq_shr6, pq_shr7, pq_shr8, lqm1, lq0, lq1, lq128] at *; (try simp (disch := omega) only [pq_bm] at *); all_goals omega))⟩) | 2 => (show pq_ok (pq_ft 10 2) _ _ from ⟨by decide, _, (pq_kp (pq_nO nq36 ha_29 (pq_kp (pq_nO nq29 ha_22 (pq_kp (pq_nO nq22 ha_15 pq_ks) (by decide))) (by decide))) (by decide)), h15_36⟩) | 3 => (show pq_ok (pq_ft 10 3) _ _ from ⟨by decide, _, (pq_kp (pq_nO nq36 ha_29 (pq_kp (pq_nO nq29 ha_22 pq_ks) (by decide))) (by decide)), h22_36⟩) | 4 => (show pq_ok (pq_ft 10 4) _ _ from ⟨by decide, _, (pq_kp (pq_nO nq36 ha_29 pq_ks) (by decide)), h29_36⟩) | 5 => (show pq_ok (1, 0, 80804) _ _ from ⟨_, (pq_kp (pq_nO nq36 ha_29 (pq_kp (pq_nO nq29 ha_22 (pq_kp (pq_nO nq22 ha_15 (pq_kp (pq_nO nq15 ha_8 (pq_kp (pq_nO nq8 ha d5) (by decide))) (by decide))) (by decide))) (by decide))) (by decide)), (by focus (simp only [vp_in_iff, Int32.lt_iff_toInt_lt, Int32.le_iff_toInt_le, ← Int32.toInt_inj, Int32.toInt_add, Int32.toInt_sub, Int32.toInt_mul, Int32.toInt_neg, pq_NuO, pq_NuI, pq_NuJ, pq_NuR, pq_shr6, pq_shr7, pq_shr8, lqm1, lq0, lq1, lq128] at *; (try simp (disch := omega) only [pq_bm] at *); all_goals omega)), (by focus (simp only [vp_in_iff, Int32.lt_iff_toInt_lt, Int32.le_iff_toInt_le, ← Int32.toInt_inj, Int32.toInt_add, Int32.toInt_sub, Int32.toInt_mul, Int32.toInt_neg, pq_NuO, pq_NuI, pq_NuJ, pq_NuR, pq_shr6, pq_shr7, pq_shr8, lqm1, lq0, lq1, lq128] at *; (try simp (disch := omega) only [pq_bm] at *); all_goals omega))⟩) | 6 => (show pq_ok (pq_ft 10 6) _ _ from ⟨by decide, _, pq_ks, h36⟩) | 7 => (show pq_ok (1, 0, 80804) _ _ from ⟨_, (pq_kp (pq_nO nq36 ha_29 (pq_kp (pq_nO nq29 ha_22 (pq_kp (pq_nO nq22 ha_15 (pq_kp (pq_nO nq15 ha_8 (pq_kp (pq_nO nq8 ha d7) (by decide))) (by decide))) (by decide))) (by decide))) (by decide)), (by focus (simp only [vp_in_iff, Int32.lt_iff_toInt_lt, Int32.le_iff_toInt_le, ← Int32.toInt_inj, Int32.toInt_add, Int32.toInt_sub, Int32.toInt_mul, Int32.toInt_neg, pq_NuO, pq_NuI, pq_NuJ, pq_NuR, pq_shr6, pq_shr7, pq_shr8, lqm1, lq0, lq1, lq128] at *; (try simp (disch := omega) only [pq_bm] at *); all_goals omega)), (by focus (simp only [vp_in_iff, Int32.lt_iff_toInt_lt, Int32.le_iff_toInt_le, ← Int32.toInt_inj, Int32.toInt_add, Int32.toInt_sub, Int32.toInt_mul, Int32.toInt_neg, pq_NuO, pq_NuI, pq_NuJ, pq_NuR, pq_shr6, pq_shr7, pq_shr8, lqm1, lq0, lq1, lq128] at *; (try simp (disch := omega) only [pq_bm] at *); all_goals omega))⟩) | _ + 8 => trivial) ?_
  have hpr := pq_rrR (r := 10) ha_36
  exact pq_vret F hr hlk hA (Nat.le_of_ble_eq_true rfl) (Nat.le_of_ble_eq_true rfl) (⟨rfl, (((((pq_G.rf.nw nq8).uO.nw nq15).uO.nw nq22).uO.nw nq29).uO.nw nq36).uO.rr, hpr, ⟨q15, q22, q29, q36, 0, ⟨(pq_kp (pq_nO nq36 ha_29 (pq_kp (pq_nO nq29 ha_22 (pq_kp (pq_nO nq22 ha_15 pq_ks) (by decide))) (by decide))) (by decide)), (pq_rrO (a := a) (r := 10) h15_36 (pq_nrole h15_36 ha_36 (by decide))), (pq_kp (pq_nO nq36 ha_29 (pq_kp (pq_nO nq29 ha_22 pq_ks) (by decide))) (by decide)), (pq_rrO (a := a) (r := 10) h22_36 (pq_nrole h22_36 ha_36 (by decide))), (pq_kp (pq_nO nq36 ha_29 pq_ks) (by decide)), (pq_rrO (a := a) (r := 10) h29_36 (pq_nrole h29_36 ha_36 (by decide))), pq_ks, (pq_rrO (a := a) (r := 10) h36 (pq_nrole h36 ha_36 (by decide)))⟩, (pq_kp (pq_nO nq36 ha_29 (pq_kp (pq_nO nq29 ha_22 (pq_kp (pq_nO nq22 ha_15 (pq_kp (pq_nO nq15 ha_8 (pq_kp (pq_nO nq8 ha d7) (by decide))) (by decide))) (by decide))) (by decide))) (by decide)), ⟨by decide, Int.natCast_nonneg _⟩, (by have n1 := pq_nrole (pq_rrO (a := a) (r := 10) h15_36 (pq_nrole h15_36 ha_36 (by decide))) (pq_rrO (a := a) (r := 10) h22_36 (pq_nrole h22_36 ha_36 (by decide))) (by decide); have n2 := pq_nrole (pq_rrO (a := a) (r := 10) h15_36 (pq_nrole h15_36 ha_36 (by decide))) (pq_rrO (a := a) (r := 10) h29_36 (pq_nrole h29_36 ha_36 (by decide))) (by decide); have n3 := pq_nrole (pq_rrO (a := a) (r := 10) h15_36 (pq_nrole h15_36 ha_36 (by decide))) (pq_rrO (a := a) (r := 10) h36 (pq_nrole h36 ha_36 (by decide))) (by decide); simp only [pq_Nrr, pq_NuO, pq_Nnw, n1, n2, n3, if_true, if_false]), (by have n1 := pq_nrole (pq_rrO (a := a) (r := 10) h22_36 (pq_nrole h22_36 ha_36 (by decide))) (pq_rrO (a := a) (r := 10) h29_36 (pq_nrole h29_36 ha_36 (by decide))) (by decide); have n2 := pq_nrole (pq_rrO (a := a) (r := 10) h22_36 (pq_nrole h22_36 ha_36 (by decide))) (pq_rrO (a := a) (r := 10) h36 (pq_nrole h36 ha_36 (by decide))) (by decide); simp only [pq_Nrr, pq_NuO, pq_Nnw, n1, n2, if_true, if_false]), (by have n1 := pq_nrole (pq_rrO (a := a) (r := 10) h29_36 (pq_nrole h29_36 ha_36 (by decide))) (pq_rrO (a := a) (r := 10) h36 (pq_nrole h36 ha_36 (by decide))) (by decide); simp only [pq_Nrr, pq_NuO, pq_Nnw, n1, if_true, if_false])⟩, q36, (pq_kp (pq_nO nq36 ha_29 (pq_kp (pq_nO nq29 ha_22 (pq_kp (pq_nO nq22 ha_15 (pq_kp (pq_nO nq15 ha_8 (pq_kp (pq_nO nq8 ha d7) (by decide))) (by decide))) (by decide))) (by decide))) (by decide)), pq_ks, (pq_rrO (a := a) (r := 10) h36 (pq_nrole h36 ha_36 (by decide)))⟩) dX7_init_41

set_option maxHeartbeats 4000000 in
set_option maxRecDepth 100000 in
theorem k_X10_initL (l : Launch) (D : va_G) (cy : Nat → ClassId) (S : HS) (a : Nat) (ha : pq_R S a 73) : pq_C l D cy yX10_init cX10_init 1 (none) 3 51 13622 S [.ref a] (fun v S2 => v = none ∧ pq_G a S S2 ∧ pq_R S2 a 13 ∧ (pq_Ix S2 a 0 0 0 ∧ (∃ tb : Nat, tk_Cw S2 a tb ∧ hI S2 tb = (fun _ => 0)) ∧ tk_As S2 a tk_L0 tk_L0 ∧ tk_Z0 S2 a ∧ tk_Tq S2 a [])) := by
  refine pq_start (by decide) (Nat.le_of_ble_eq_true rfl) ?_
  intro p e s m args below meth c A F hr hlk hnm hA
  have lqm1 : (-1 : Int32).toInt = -1 := rfl
  have lq0 : (0 : Int32).toInt = 0 := rfl
  have lq1 : (1 : Int32).toInt = 1 := rfl
  have lq2 : (2 : Int32).toInt = 2 := rfl
  refine pq_aload_n F dX10_init_0 rfl rfl ?_
  refine pq_objI F ow_X10_1 ⟨Nat.le_of_ble_eq_true rfl, Nat.le_of_ble_eq_true rfl⟩ dX10_init_1 ?_
  refine pq_aload_n F dX10_init_4 rfl rfl ?_
  refine pq_newO F nw_X10_7 (by decide) (fun _ => rfl) (Nat.le_of_ble_eq_true rfl) (Nat.le_of_ble_eq_true rfl) dX10_init_5 (fun q5 nq5 h5 => ?_)
  have ha_5 := pq_nR (r := 72) (n := 0) (ds := (fun k => defaultValue (tyX9 k))) nq5 ha
  refine pq_dup F dX10_init_8 rfl ?_
  refine pq_callI (As := []) F (k_X9_initG l D cy _ _ ?_ (pq_nwO.trans rfl)) ml_X10_9 (Nat.le_of_ble_eq_true rfl) ⟨Nat.le_of_ble_eq_true rfl, Nat.le_of_ble_eq_true rfl⟩ ⟨Nat.le_of_ble_eq_true rfl, Nat.le_of_ble_eq_true rfl⟩ dX10_init_9 (fun v9 S9 w9 => ?_)
  · exact h5
  obtain ⟨rfl, hG9, hy9, p9⟩ := w9
  have ha_9 := (hG9 _ _ ha_5 (pq_nrole ha_5 h5 (by decide))).1
  obtain ⟨p9a, tb, g9, hg9, hz9⟩ := p9
  refine pq_putF F hnm ha_9 (by decide) lf_X10_10 rfl rfl (show pq_ok (pq_ft 73 0) _ _ from trivial) dX10_init_12 ?_
  refine pq_aload_n F dX10_init_15 rfl rfl ?_
  refine pq_newO F nw_X10_16 (by decide) (fun _ => rfl) (Nat.le_of_ble_eq_true rfl) (Nat.le_of_ble_eq_true rfl) dX10_init_16 (fun q16 nq16 h16 => ?_)
  have ha_16 := pq_nR (r := 68) (n := 0) (ds := (fun k => defaultValue (tyX5 k))) nq16 ha_9
  have hy9_16 := pq_nR (r := 68) (n := 0) (ds := (fun k => defaultValue (tyX5 k))) nq16 hy9
  refine pq_dup F dX10_init_19 rfl ?_
  refine pq_callI (As := []) F (k_X5_initG l D cy _ _ ?_ (pq_nwO.trans rfl)) ml_X10_18 (Nat.le_of_ble_eq_true rfl) ⟨Nat.le_of_ble_eq_true rfl, Nat.le_of_ble_eq_true rfl⟩ ⟨Nat.le_of_ble_eq_true rfl, Nat.le_of_ble_eq_true rfl⟩ dX10_init_20 (fun v20 S20 w20 => ?_)
  · exact h16
  obtain ⟨rfl, hG20, hy20, p20⟩ := w20
  have ha_20 := (hG20 _ _ ha_16 (pq_nrole ha_16 h16 (by decide))).1
  have hy9_20 := (hG20 _ _ hy9_16 (pq_nrole hy9_16 h16 (by decide))).1
  have ec20_1_hy9_20 := hG20.e hy9_16 (pq_nrole hy9_16 h16 (by decide)) (pq_nO nq16 hy9 (pq_ko p9a hy9 ha_9 (by decide)))
  have ec20_0_ha_20 := hG20.e ha_16 (pq_nrole ha_16 h16 (by decide)) (pq_nO nq16 ha_9 pq_ks)
  obtain ⟨wh, hw9, tw9, ew9, hEw⟩ := p20
  refine pq_putF F hnm ha_20 (by decide) lf_X10_19 rfl rfl (show pq_ok (pq_ft 73 1) _ _ from trivial) dX10_init_23 ?_
  refine pq_aload_n F dX10_init_26 rfl rfl ?_
  refine pq_newO F nw_X10_23 (by decide) (fun _ => rfl) (Nat.le_of_ble_eq_true rfl) (Nat.le_of_ble_eq_true rfl) dX10_init_27 (fun q27 nq27 h27 => ?_)
  have ha_27 := pq_nR (r := 69) (n := 0) (ds := (fun k => defaultValue (tyX6 k))) nq27 ha_20
  have hy9_27 := pq_nR (r := 69) (n := 0) (ds := (fun k => defaultValue (tyX6 k))) nq27 hy9_20
  have hy20_27 := pq_nR (r := 69) (n := 0) (ds := (fun k => defaultValue (tyX6 k))) nq27 hy20
  refine pq_dup F dX10_init_30 rfl ?_
  refine pq_aload_n F dX10_init_31 rfl rfl ?_
  refine pq_get F ha_27 (by decide) lk_X10_10 (pq_nO nq27 ha_20 (pq_kp ec20_0_ha_20 (by decide))) dX10_init_32 ?_
  refine pq_aload_n F dX10_init_35 rfl rfl ?_
  refine pq_get F ha_27 (by decide) lk_X10_19 (pq_nO nq27 ha_20 pq_ks) dX10_init_36 ?_
  have hGx : pq_G a S20 (pq_nw (pq_uO S20 a 1 (Value.ref q16)) q27 (60 + 9) 0 (fun k => defaultValue (tyX6 k))) := (((pq_G.rf (a := a) (S := S20)).uO.nw nq27))
  refine pq_callI (As := [_, _]) F (k_X6_initG l D cy _ _ ?_ _ ?_ _ ?_ (pq_nwO.trans rfl) (pq_nwO.trans rfl) (pq_nwO.trans rfl) (pq_nwO.trans rfl) (pq_nwO.trans rfl)) ml_X10_25 (Nat.le_of_ble_eq_true rfl) ⟨Nat.le_of_ble_eq_true rfl, Nat.le_of_ble_eq_true rfl⟩ ⟨Nat.le_of_ble_eq_true rfl, Nat.le_of_ble_eq_true rfl⟩ dX10_init_39 (fun v39 S39 w39 => ?_)
  · exact h27
  · exact hy9_27
  · exact hy20_27
  obtain ⟨rfl, hG39, hy39, p39⟩ := w39
  have ha_39 := (hG39 _ _ ha_27 (pq_nrole ha_27 h27 (by decide))).1
  have hy9_39 := (hG39 _ _ hy9_27 (pq_nrole hy9_27 h27 (by decide))).1
  have ec39_1_hy9_39 := hG39.e hy9_27 (pq_nrole hy9_27 h27 (by decide)) (pq_nO nq27 hy9_20 (pq_ko ec20_1_hy9_20 hy9_20 ha_20 (by decide)))
  have ec39_0_ha_39 := hG39.e ha_27 (pq_nrole ha_27 h27 (by decide)) (pq_nO nq27 ha_20 (pq_kp ec20_0_ha_20 (by decide)))
  have hy20_39 := (hG39 _ _ hy20_27 (pq_nrole hy20_27 h27 (by decide))).1
  have ec39_1_ha_39 := hG39.e ha_27 (pq_nrole ha_27 h27 (by decide)) (pq_nO nq27 ha_20 pq_ks)
  obtain ⟨p39a, p39b, ch, sq, am, h9, t9, k1, k2, k3, k4, k5, hEa, hch, hsq, na, nh, nt⟩ := p39
  have hT9 := (((((pq_G.rf (a := a) (S := S9)).uO.gn nq16 hG20).uO.gn nq27 hG39)) _ _ hy9 (pq_nrole hy9 ha_9 (by decide)))
  have hT8 := (((((pq_G.rf (a := a) (S := S9)).uO.gn nq16 hG20).uO.gn nq27 hG39)) _ _ hg9 (pq_nrole hg9 ha_9 (by decide)))
  have hP9 := ((((pq_G.rf (a := a) (S := S20)).uO.gn nq27 hG39)) _ _ hy20 (pq_nrole hy20 ha_20 (by decide)))
  have h39 : tk_C39 S39 tb q5 q27 q16 ch sq am wh _ _ := ⟨⟨hT9.1, (congrFun hT9.2.2.1 0).trans g9, hT8.1, hT8.2.2.2.1.trans hz9⟩, ⟨hy39, hP9.1, k1, k2, k3, k4, k5, (congrFun hP9.2.2.1 2).trans ew9⟩, tk_Co.beg hch hsq hEa (hEw.G (((pq_G.rf (a := a) (S := S20)).uO.gn nq27 hG39)) ha_20 (by decide)) (fun e => na (by rw [e]; exact (hGx _ _ hEw.r (pq_nrole hEw.r ha_20 (by decide))).1.1)) (fun e => nh (by rw [e]; exact (hGx _ _ hEw.r0 (pq_nrole hEw.r0 ha_20 (by decide))).1.1)) (fun e => nt (by rw [e]; exact (hGx _ _ hEw.r1 (pq_nrole hEw.r1 ha_20 (by decide))).1.1))⟩
  refine pq_putF F hnm ha_39 (by decide) lf_X10_28 rfl rfl (show pq_ok (pq_ft 73 2) _ _ from trivial) dX10_init_42 ?_
  refine pq_aload_n F dX10_init_45 rfl rfl ?_
  refine pq_newO F nw_X10_32 (by decide) (fun _ => rfl) (Nat.le_of_ble_eq_true rfl) (Nat.le_of_ble_eq_true rfl) dX10_init_46 (fun q46 nq46 h46 => ?_)
  have ha_46 := pq_nR (r := 71) (n := 0) (ds := (fun k => defaultValue (tyX8 k))) nq46 ha_39
  have hy9_46 := pq_nR (r := 71) (n := 0) (ds := (fun k => defaultValue (tyX8 k))) nq46 hy9_39
  have hy20_46 := pq_nR (r := 71) (n := 0) (ds := (fun k => defaultValue (tyX8 k))) nq46 hy20_39
  have hy39_46 := pq_nR (r := 71) (n := 0) (ds := (fun k => defaultValue (tyX8 k))) nq46 hy39
  refine pq_dup F dX10_init_49 rfl ?_
  refine pq_aload_n F dX10_init_50 rfl rfl ?_
  refine pq_get F ha_46 (by decide) lk_X10_19 (pq_nO nq46 ha_39 (pq_kp ec39_1_ha_39 (by decide))) dX10_init_51 ?_
  refine pq_callI (As := [_]) F (k_X8_initJ l D cy _ _ ?_ _ ?_ (pq_nwO.trans rfl) (pq_nwO.trans rfl) (pq_nwO.trans rfl)) ml_X10_34 (Nat.le_of_ble_eq_true rfl) ⟨Nat.le_of_ble_eq_true rfl, Nat.le_of_ble_eq_true rfl⟩ ⟨Nat.le_of_ble_eq_true rfl, Nat.le_of_ble_eq_true rfl⟩ dX10_init_54 (fun v54 S54 w54 => ?_)
  · exact h46
  · exact hy20_46
  obtain ⟨rfl, hG54, hy54, p54⟩ := w54
  have ha_54 := (hG54 _ _ ha_46 (pq_nrole ha_46 h46 (by decide))).1
  have hy9_54 := (hG54 _ _ hy9_46 (pq_nrole hy9_46 h46 (by decide))).1
  have ec54_1_hy9_54 := hG54.e hy9_46 (pq_nrole hy9_46 h46 (by decide)) (pq_nO nq46 hy9_39 (pq_ko ec39_1_hy9_39 hy9_39 ha_39 (by decide)))
  have ec54_0_ha_54 := hG54.e ha_46 (pq_nrole ha_46 h46 (by decide)) (pq_nO nq46 ha_39 (pq_kp ec39_0_ha_39 (by decide)))
  have hy20_54 := (hG54 _ _ hy20_46 (pq_nrole hy20_46 h46 (by decide))).1
  have ec54_1_ha_54 := hG54.e ha_46 (pq_nrole ha_46 h46 (by decide)) (pq_nO nq46 ha_39 (pq_kp ec39_1_ha_39 (by decide)))
  have hy39_54 := (hG54 _ _ hy39_46 (pq_nrole hy39_46 h46 (by decide))).1
  have ec54_0_hy39_54 := hG54.e hy39_46 (pq_nrole hy39_46 h46 (by decide)) (pq_nO nq46 hy39 (pq_ko p39a hy39 ha_39 (by decide)))
  have ec54_1_hy39_54 := hG54.e hy39_46 (pq_nrole hy39_46 h46 (by decide)) (pq_nO nq46 hy39 (pq_ko p39b hy39 ha_39 (by decide)))
  have ec54_2_ha_54 := hG54.e ha_46 (pq_nrole ha_46 h46 (by decide)) (pq_nO nq46 ha_39 pq_ks)
  obtain ⟨p54a, se54, ese54, hse54, hz54⟩ := p54
  refine pq_putF F hnm ha_54 (by decide) lf_X10_37 rfl rfl (show pq_ok (pq_ft 73 3) _ _ from trivial) dX10_init_57 ?_
  refine pq_aload_n F dX10_init_60 rfl rfl ?_
  refine pq_newO F nw_X10_41 (by decide) (fun _ => rfl) (Nat.le_of_ble_eq_true rfl) (Nat.le_of_ble_eq_true rfl) dX10_init_61 (fun q61 nq61 h61 => ?_)
  have ha_61 := pq_nR (r := 67) (n := 0) (ds := (fun k => defaultValue (tyX4 k))) nq61 ha_54
  have hy9_61 := pq_nR (r := 67) (n := 0) (ds := (fun k => defaultValue (tyX4 k))) nq61 hy9_54
  have hy20_61 := pq_nR (r := 67) (n := 0) (ds := (fun k => defaultValue (tyX4 k))) nq61 hy20_54
  have hy39_61 := pq_nR (r := 67) (n := 0) (ds := (fun k => defaultValue (tyX4 k))) nq61 hy39_54
  have hy54_61 := pq_nR (r := 67) (n := 0) (ds := (fun k => defaultValue (tyX4 k))) nq61 hy54
  refine pq_dup F dX10_init_64 rfl ?_
  refine pq_aload_n F dX10_init_65 rfl rfl ?_
  refine pq_get F ha_61 (by decide) lk_X10_37 (pq_nO nq61 ha_54 pq_ks) dX10_init_66 ?_
  refine pq_callI (As := [_]) F (k_X4_init l D cy _ _ ?_ _ ?_ (pq_nwO.trans rfl)) ml_X10_43 (Nat.le_of_ble_eq_true rfl) ⟨Nat.le_of_ble_eq_true rfl, Nat.le_of_ble_eq_true rfl⟩ ⟨Nat.le_of_ble_eq_true rfl, Nat.le_of_ble_eq_true rfl⟩ dX10_init_69 (fun v69 S69 w69 => ?_)
  · exact h61
  · exact hy54_61
  obtain ⟨rfl, hG69, hy69, p69⟩ := w69
  have ha_69 := (hG69 _ _ ha_61 (pq_nrole ha_61 h61 (by decide))).1
  have hy9_69 := (hG69 _ _ hy9_61 (pq_nrole hy9_61 h61 (by decide))).1
  have ec69_1_hy9_69 := hG69.e hy9_61 (pq_nrole hy9_61 h61 (by decide)) (pq_nO nq61 hy9_54 (pq_ko ec54_1_hy9_54 hy9_54 ha_54 (by decide)))
  have ec69_0_ha_69 := hG69.e ha_61 (pq_nrole ha_61 h61 (by decide)) (pq_nO nq61 ha_54 (pq_kp ec54_0_ha_54 (by decide)))
  have hy20_69 := (hG69 _ _ hy20_61 (pq_nrole hy20_61 h61 (by decide))).1
  have ec69_1_ha_69 := hG69.e ha_61 (pq_nrole ha_61 h61 (by decide)) (pq_nO nq61 ha_54 (pq_kp ec54_1_ha_54 (by decide)))
  have hy39_69 := (hG69 _ _ hy39_61 (pq_nrole hy39_61 h61 (by decide))).1
  have ec69_0_hy39_69 := hG69.e hy39_61 (pq_nrole hy39_61 h61 (by decide)) (pq_nO nq61 hy39_54 (pq_ko ec54_0_hy39_54 hy39_54 ha_54 (by decide)))
  have ec69_1_hy39_69 := hG69.e hy39_61 (pq_nrole hy39_61 h61 (by decide)) (pq_nO nq61 hy39_54 (pq_ko ec54_1_hy39_54 hy39_54 ha_54 (by decide)))
  have ec69_2_ha_69 := hG69.e ha_61 (pq_nrole ha_61 h61 (by decide)) (pq_nO nq61 ha_54 (pq_kp ec54_2_ha_54 (by decide)))
  have hy54_69 := (hG69 _ _ hy54_61 (pq_nrole hy54_61 h61 (by decide))).1
  have ec69_0_hy54_69 := hG69.e hy54_61 (pq_nrole hy54_61 h61 (by decide)) (pq_nO nq61 hy54 (pq_ko p54a hy54 ha_54 (by decide)))
  have ec69_3_ha_69 := hG69.e ha_61 (pq_nrole ha_61 h61 (by decide)) (pq_nO nq61 ha_54 pq_ks)
  refine pq_putF F hnm ha_69 (by decide) lf_X10_46 rfl rfl (show pq_ok (pq_ft 73 4) _ _ from trivial) dX10_init_72 ?_
  refine pq_aload_n F dX10_init_75 rfl rfl ?_
  refine pq_iconst (v := 2) F dX10_init_76 (by decide) ?_
  refine pq_newR F (r := 220) (n := 2) (by decide) cl_X10_50 (by focus (simp only [vp_in_iff, Int32.lt_iff_toInt_lt, Int32.le_iff_toInt_le, ← Int32.toInt_inj, Int32.toInt_add, Int32.toInt_sub, Int32.toInt_mul, Int32.toInt_neg, pq_NuO, pq_NuI, pq_NuJ, pq_NuR, pq_shr6, pq_shr7, pq_shr8, lqm1, lq0, lq1, lq2] at *; (try simp (disch := omega) only [pq_bm] at *); all_goals omega)) rfl (by decide) (by decide) (Nat.le_of_ble_eq_true rfl) (Nat.le_of_ble_eq_true rfl) (Nat.le_of_ble_eq_true rfl) dX10_init_77 (fun q77 nq77 h77 => ?_)
  have ha_77 := pq_nR (r := 220) (n := 2) (ds := (fun _ => Value.null)) nq77 ha_69
  have hy9_77 := pq_nR (r := 220) (n := 2) (ds := (fun _ => Value.null)) nq77 hy9_69
  have hy20_77 := pq_nR (r := 220) (n := 2) (ds := (fun _ => Value.null)) nq77 hy20_69
  have hy39_77 := pq_nR (r := 220) (n := 2) (ds := (fun _ => Value.null)) nq77 hy39_69
  have hy54_77 := pq_nR (r := 220) (n := 2) (ds := (fun _ => Value.null)) nq77 hy54_69
  have hy69_77 := pq_nR (r := 220) (n := 2) (ds := (fun _ => Value.null)) nq77 hy69
  refine pq_dup F dX10_init_80 rfl ?_
  refine pq_iconst (v := 0) F dX10_init_81 (by decide) ?_
  refine pq_newO F nw_X10_50 (by decide) (fun _ => rfl) (Nat.le_of_ble_eq_true rfl) (Nat.le_of_ble_eq_true rfl) dX10_init_82 (fun q82 nq82 h82 => ?_)
  have ha_82 := pq_nR (r := 63) (n := 0) (ds := (fun k => defaultValue (tyX0 k))) nq82 ha_77
  have h77_82 := pq_nR (r := 63) (n := 0) (ds := (fun k => defaultValue (tyX0 k))) nq82 h77
  have hy9_82 := pq_nR (r := 63) (n := 0) (ds := (fun k => defaultValue (tyX0 k))) nq82 hy9_77
  have hy20_82 := pq_nR (r := 63) (n := 0) (ds := (fun k => defaultValue (tyX0 k))) nq82 hy20_77
  have hy39_82 := pq_nR (r := 63) (n := 0) (ds := (fun k => defaultValue (tyX0 k))) nq82 hy39_77
  have hy54_82 := pq_nR (r := 63) (n := 0) (ds := (fun k => defaultValue (tyX0 k))) nq82 hy54_77
  have hy69_82 := pq_nR (r := 63) (n := 0) (ds := (fun k => defaultValue (tyX0 k))) nq82 hy69_77
  refine pq_dup F dX10_init_85 rfl ?_
  refine pq_callI (As := []) F (k_X0_initJA l D cy _ _ ?_) ml_X10_52 (Nat.le_of_ble_eq_true rfl) ⟨Nat.le_of_ble_eq_true rfl, Nat.le_of_ble_eq_true rfl⟩ ⟨Nat.le_of_ble_eq_true rfl, Nat.le_of_ble_eq_true rfl⟩ dX10_init_86 (fun v86 S86 w86 => ?_)
  · exact h82
  obtain ⟨rfl, hG86, hy86, p86⟩ := w86
  have ha_86 := (hG86 _ _ ha_82 (pq_nrole ha_82 h82 (by decide))).1
  have h77_86 := (hG86 _ _ h77_82 (pq_nrole h77_82 h82 (by decide))).1
  have hy9_86 := (hG86 _ _ hy9_82 (pq_nrole hy9_82 h82 (by decide))).1
  have ec86_1_hy9_86 := hG86.e hy9_82 (pq_nrole hy9_82 h82 (by decide)) (pq_nO nq82 hy9_77 (pq_nO nq77 hy9_69 (pq_ko ec69_1_hy9_69 hy9_69 ha_69 (by decide))))
  have ec86_0_ha_86 := hG86.e ha_82 (pq_nrole ha_82 h82 (by decide)) (pq_nO nq82 ha_77 (pq_nO nq77 ha_69 (pq_kp ec69_0_ha_69 (by decide))))
  have hy20_86 := (hG86 _ _ hy20_82 (pq_nrole hy20_82 h82 (by decide))).1
  have ec86_1_ha_86 := hG86.e ha_82 (pq_nrole ha_82 h82 (by decide)) (pq_nO nq82 ha_77 (pq_nO nq77 ha_69 (pq_kp ec69_1_ha_69 (by decide))))
  have hy39_86 := (hG86 _ _ hy39_82 (pq_nrole hy39_82 h82 (by decide))).1
  have ec86_0_hy39_86 := hG86.e hy39_82 (pq_nrole hy39_82 h82 (by decide)) (pq_nO nq82 hy39_77 (pq_nO nq77 hy39_69 (pq_ko ec69_0_hy39_69 hy39_69 ha_69 (by decide))))
  have ec86_1_hy39_86 := hG86.e hy39_82 (pq_nrole hy39_82 h82 (by decide)) (pq_nO nq82 hy39_77 (pq_nO nq77 hy39_69 (pq_ko ec69_1_hy39_69 hy39_69 ha_69 (by decide))))
  have ec86_2_ha_86 := hG86.e ha_82 (pq_nrole ha_82 h82 (by decide)) (pq_nO nq82 ha_77 (pq_nO nq77 ha_69 (pq_kp ec69_2_ha_69 (by decide))))
  have hy54_86 := (hG86 _ _ hy54_82 (pq_nrole hy54_82 h82 (by decide))).1
  have ec86_0_hy54_86 := hG86.e hy54_82 (pq_nrole hy54_82 h82 (by decide)) (pq_nO nq82 hy54_77 (pq_nO nq77 hy54_69 (pq_ko ec69_0_hy54_69 hy54_69 ha_69 (by decide))))
  have ec86_3_ha_86 := hG86.e ha_82 (pq_nrole ha_82 h82 (by decide)) (pq_nO nq82 ha_77 (pq_nO nq77 ha_69 (pq_kp ec69_3_ha_69 (by decide))))
  have hy69_86 := (hG86 _ _ hy69_82 (pq_nrole hy69_82 h82 (by decide))).1
  have ec86_0_hy69_86 := hG86.e hy69_82 (pq_nrole hy69_82 h82 (by decide)) (pq_nO nq82 hy69_77 (pq_nO nq77 hy69 (pq_ko p69 hy69 ha_69 (by decide))))
  have ec86_4_ha_86 := hG86.e ha_82 (pq_nrole ha_82 h82 (by decide)) (pq_nO nq82 ha_77 (pq_nO nq77 ha_69 pq_ks))
  refine pq_aast F h77_86 (by decide) hy86 (by decide) rfl (fun n1_89 n2_89 => (by change _ ≤ 2 at n2_89; change 2 ≤ _ at n1_89; focus (simp only [vp_in_iff, Int32.lt_iff_toInt_lt, Int32.le_iff_toInt_le, ← Int32.toInt_inj, Int32.toInt_add, Int32.toInt_sub, Int32.toInt_mul, Int32.toInt_neg, pq_NuO, pq_NuI, pq_NuJ, pq_NuR, pq_shr6, pq_shr7, pq_shr8, lqm1, lq0, lq1, lq2] at *; (try simp (disch := omega) only [pq_bm] at *); all_goals omega))) (⟨fun _ b hb => (by cases hb; exact ⟨fun _ => hy86, fun z => absurd z (by decide)⟩), fun z => absurd z (by decide)⟩) dX10_init_89 ?_
  refine pq_dup F dX10_init_90 rfl ?_
  refine pq_iconst (v := 1) F dX10_init_91 (by decide) ?_
  refine pq_newO F nw_X10_50 (by decide) (fun _ => rfl) (Nat.le_of_ble_eq_true rfl) (Nat.le_of_ble_eq_true rfl) dX10_init_92 (fun q92 nq92 h92 => ?_)
  have ha_92 := pq_nR (r := 63) (n := 0) (ds := (fun k => defaultValue (tyX0 k))) nq92 ha_86
  have h77_92 := pq_nR (r := 63) (n := 0) (ds := (fun k => defaultValue (tyX0 k))) nq92 h77_86
  have hy9_92 := pq_nR (r := 63) (n := 0) (ds := (fun k => defaultValue (tyX0 k))) nq92 hy9_86
  have hy20_92 := pq_nR (r := 63) (n := 0) (ds := (fun k => defaultValue (tyX0 k))) nq92 hy20_86
  have hy39_92 := pq_nR (r := 63) (n := 0) (ds := (fun k => defaultValue (tyX0 k))) nq92 hy39_86
  have hy54_92 := pq_nR (r := 63) (n := 0) (ds := (fun k => defaultValue (tyX0 k))) nq92 hy54_86
  have hy69_92 := pq_nR (r := 63) (n := 0) (ds := (fun k => defaultValue (tyX0 k))) nq92 hy69_86
  refine pq_dup F dX10_init_95 rfl ?_
  refine pq_callI (As := []) F (k_X0_initJB l D cy _ _ ?_) ml_X10_52 (Nat.le_of_ble_eq_true rfl) ⟨Nat.le_of_ble_eq_true rfl, Nat.le_of_ble_eq_true rfl⟩ ⟨Nat.le_of_ble_eq_true rfl, Nat.le_of_ble_eq_true rfl⟩ dX10_init_96 (fun v96 S96 w96 => ?_)
  · exact h92
  obtain ⟨rfl, hG96, hy96, p96⟩ := w96
  have ha_96 := (hG96 _ _ ha_92 (pq_nrole ha_92 h92 (by decide))).1
  have h77_96 := (hG96 _ _ h77_92 (pq_nrole h77_92 h92 (by decide))).1
  have hy9_96 := (hG96 _ _ hy9_92 (pq_nrole hy9_92 h92 (by decide))).1
  have ec96_1_hy9_96 := hG96.e hy9_92 (pq_nrole hy9_92 h92 (by decide)) (pq_nO nq92 hy9_86 ec86_1_hy9_86)
  have ec96_0_ha_96 := hG96.e ha_92 (pq_nrole ha_92 h92 (by decide)) (pq_nO nq92 ha_86 ec86_0_ha_86)
  have hy20_96 := (hG96 _ _ hy20_92 (pq_nrole hy20_92 h92 (by decide))).1
  have ec96_1_ha_96 := hG96.e ha_92 (pq_nrole ha_92 h92 (by decide)) (pq_nO nq92 ha_86 ec86_1_ha_86)
  have hy39_96 := (hG96 _ _ hy39_92 (pq_nrole hy39_92 h92 (by decide))).1
  have ec96_0_hy39_96 := hG96.e hy39_92 (pq_nrole hy39_92 h92 (by decide)) (pq_nO nq92 hy39_86 ec86_0_hy39_86)
  have ec96_1_hy39_96 := hG96.e hy39_92 (pq_nrole hy39_92 h92 (by decide)) (pq_nO nq92 hy39_86 ec86_1_hy39_86)
  have ec96_2_ha_96 := hG96.e ha_92 (pq_nrole ha_92 h92 (by decide)) (pq_nO nq92 ha_86 ec86_2_ha_86)
  have hy54_96 := (hG96 _ _ hy54_92 (pq_nrole hy54_92 h92 (by decide))).1
  have ec96_0_hy54_96 := hG96.e hy54_92 (pq_nrole hy54_92 h92 (by decide)) (pq_nO nq92 hy54_86 ec86_0_hy54_86)
  have ec96_3_ha_96 := hG96.e ha_92 (pq_nrole ha_92 h92 (by decide)) (pq_nO nq92 ha_86 ec86_3_ha_86)
  have hy69_96 := (hG96 _ _ hy69_92 (pq_nrole hy69_92 h92 (by decide))).1
  have ec96_0_hy69_96 := hG96.e hy69_92 (pq_nrole hy69_92 h92 (by decide)) (pq_nO nq92 hy69_86 ec86_0_hy69_86)
  have ec96_4_ha_96 := hG96.e ha_92 (pq_nrole ha_92 h92 (by decide)) (pq_nO nq92 ha_86 ec86_4_ha_86)
  have z2 : pq_Fr [(220, 0)] S86 S96 := ((pq_Fr.rf (M := [(220, 0)]) (S := S86)).uR h77_86 (by decide)).gn nq92 hG96
  have hr96 : hR S96 q77 (0 : Int32).toNatClampNeg = some q82 := (congrFun (hG96 _ _ h77_92 (pq_nrole h77_92 h92 (by decide))).2.2.2.2.2 _).trans (by show va_up (pq_uR S86 q77 _).2.2.2.2.2.2 q92 _ q77 _ = _; rw [va_up_ne _ _ (pq_nrole h77_92 h92 (by decide))]; show va_up S86.2.2.2.2.2.2 q77 _ q77 _ = _; rw [va_up_self, va_up_self])
  refine pq_aast F h77_96 (by decide) hy96 (by decide) rfl (fun n1_99 n2_99 => (by change _ ≤ 2 at n2_99; change 2 ≤ _ at n1_99; focus (simp only [vp_in_iff, Int32.lt_iff_toInt_lt, Int32.le_iff_toInt_le, ← Int32.toInt_inj, Int32.toInt_add, Int32.toInt_sub, Int32.toInt_mul, Int32.toInt_neg, pq_NuO, pq_NuI, pq_NuJ, pq_NuR, pq_shr6, pq_shr7, pq_shr8, lqm1, lq0, lq1, lq2] at *; (try simp (disch := omega) only [pq_bm] at *); all_goals omega))) (⟨fun _ b hb => (by cases hb; exact ⟨fun z => absurd z (by decide), fun _ => hy96⟩), fun z => absurd z (by decide)⟩) dX10_init_99 ?_
  refine pq_putF F hnm ha_96 (by decide) lf_X10_53 rfl rfl (show pq_ok (pq_ft 73 5) _ _ from trivial) dX10_init_100 ?_
  refine pq_aload_n F dX10_init_103 rfl rfl ?_
  refine pq_newO F nw_X10_57 (by decide) (fun _ => rfl) (Nat.le_of_ble_eq_true rfl) (Nat.le_of_ble_eq_true rfl) dX10_init_104 (fun q104 nq104 h104 => ?_)
  have ha_104 := pq_nR (r := 64) (n := 0) (ds := (fun k => defaultValue (tyX1 k))) nq104 ha_96
  have hy9_104 := pq_nR (r := 64) (n := 0) (ds := (fun k => defaultValue (tyX1 k))) nq104 hy9_96
  have hy20_104 := pq_nR (r := 64) (n := 0) (ds := (fun k => defaultValue (tyX1 k))) nq104 hy20_96
  have hy39_104 := pq_nR (r := 64) (n := 0) (ds := (fun k => defaultValue (tyX1 k))) nq104 hy39_96
  have hy54_104 := pq_nR (r := 64) (n := 0) (ds := (fun k => defaultValue (tyX1 k))) nq104 hy54_96
  have hy69_104 := pq_nR (r := 64) (n := 0) (ds := (fun k => defaultValue (tyX1 k))) nq104 hy69_96
  have h77_104 := pq_nR (r := 64) (n := 0) (ds := (fun k => defaultValue (tyX1 k))) nq104 h77_96
  refine pq_dup F dX10_init_107 rfl ?_
  refine pq_callI (As := []) F (k_X1_init l D cy _ _ ?_) ml_X10_59 (Nat.le_of_ble_eq_true rfl) ⟨Nat.le_of_ble_eq_true rfl, Nat.le_of_ble_eq_true rfl⟩ ⟨Nat.le_of_ble_eq_true rfl, Nat.le_of_ble_eq_true rfl⟩ dX10_init_108 (fun v108 S108 w108 => ?_)
  · exact h104
  obtain ⟨rfl, hG108, hy108⟩ := w108
  have ha_108 := (hG108 _ _ ha_104 (pq_nrole ha_104 h104 (by decide))).1
  have hy9_108 := (hG108 _ _ hy9_104 (pq_nrole hy9_104 h104 (by decide))).1
  have ec108_1_hy9_108 := hG108.e hy9_104 (pq_nrole hy9_104 h104 (by decide)) (pq_nO nq104 hy9_96 (pq_ko ec96_1_hy9_96 hy9_96 ha_96 (by decide)))
  have ec108_0_ha_108 := hG108.e ha_104 (pq_nrole ha_104 h104 (by decide)) (pq_nO nq104 ha_96 (pq_kp ec96_0_ha_96 (by decide)))
  have hy20_108 := (hG108 _ _ hy20_104 (pq_nrole hy20_104 h104 (by decide))).1
  have ec108_1_ha_108 := hG108.e ha_104 (pq_nrole ha_104 h104 (by decide)) (pq_nO nq104 ha_96 (pq_kp ec96_1_ha_96 (by decide)))
  have hy39_108 := (hG108 _ _ hy39_104 (pq_nrole hy39_104 h104 (by decide))).1
  have ec108_0_hy39_108 := hG108.e hy39_104 (pq_nrole hy39_104 h104 (by decide)) (pq_nO nq104 hy39_96 (pq_ko ec96_0_hy39_96 hy39_96 ha_96 (by decide)))
  have ec108_1_hy39_108 := hG108.e hy39_104 (pq_nrole hy39_104 h104 (by decide)) (pq_nO nq104 hy39_96 (pq_ko ec96_1_hy39_96 hy39_96 ha_96 (by decide)))
  have ec108_2_ha_108 := hG108.e ha_104 (pq_nrole ha_104 h104 (by decide)) (pq_nO nq104 ha_96 (pq_kp ec96_2_ha_96 (by decide)))
  have hy54_108 := (hG108 _ _ hy54_104 (pq_nrole hy54_104 h104 (by decide))).1
  have ec108_0_hy54_108 := hG108.e hy54_104 (pq_nrole hy54_104 h104 (by decide)) (pq_nO nq104 hy54_96 (pq_ko ec96_0_hy54_96 hy54_96 ha_96 (by decide)))
  have ec108_3_ha_108 := hG108.e ha_104 (pq_nrole ha_104 h104 (by decide)) (pq_nO nq104 ha_96 (pq_kp ec96_3_ha_96 (by decide)))
  have hy69_108 := (hG108 _ _ hy69_104 (pq_nrole hy69_104 h104 (by decide))).1
  have ec108_0_hy69_108 := hG108.e hy69_104 (pq_nrole hy69_104 h104 (by decide)) (pq_nO nq104 hy69_96 (pq_ko ec96_0_hy69_96 hy69_96 ha_96 (by decide)))
  have ec108_4_ha_108 := hG108.e ha_104 (pq_nrole ha_104 h104 (by decide)) (pq_nO nq104 ha_96 (pq_kp ec96_4_ha_96 (by decide)))
  have h77_108 := (hG108 _ _ h77_104 (pq_nrole h77_104 h104 (by decide))).1
  have ec108_5_ha_108 := hG108.e ha_104 (pq_nrole ha_104 h104 (by decide)) (pq_nO nq104 ha_96 pq_ks)
  have u1 := ((pq_Fr.rf (M := []) (S := (pq_uR S96 q77 (va_up (hR S96 q77) (1 : Int32).toNatClampNeg (some q92))))).uOr (k := 5) (v := .ref q77) (show pq_R _ a 73 from ha_96) (by decide)).gn nq104 hG108
  refine pq_putF F hnm ha_108 (by decide) lf_X10_60 rfl rfl (show pq_ok (pq_ft 73 6) _ _ from trivial) dX10_init_111 ?_
  refine pq_aload_n F dX10_init_114 rfl rfl ?_
  refine pq_newO F nw_X10_64 (by decide) (fun _ => rfl) (Nat.le_of_ble_eq_true rfl) (Nat.le_of_ble_eq_true rfl) dX10_init_115 (fun q115 nq115 h115 => ?_)
  have ha_115 := pq_nR (r := 70) (n := 0) (ds := (fun k => defaultValue (tyX7 k))) nq115 ha_108
  have hy9_115 := pq_nR (r := 70) (n := 0) (ds := (fun k => defaultValue (tyX7 k))) nq115 hy9_108
  have hy20_115 := pq_nR (r := 70) (n := 0) (ds := (fun k => defaultValue (tyX7 k))) nq115 hy20_108
  have hy39_115 := pq_nR (r := 70) (n := 0) (ds := (fun k => defaultValue (tyX7 k))) nq115 hy39_108
  have hy54_115 := pq_nR (r := 70) (n := 0) (ds := (fun k => defaultValue (tyX7 k))) nq115 hy54_108
  have hy69_115 := pq_nR (r := 70) (n := 0) (ds := (fun k => defaultValue (tyX7 k))) nq115 hy69_108
  have h77_115 := pq_nR (r := 70) (n := 0) (ds := (fun k => defaultValue (tyX7 k))) nq115 h77_108
  have hy108_115 := pq_nR (r := 70) (n := 0) (ds := (fun k => defaultValue (tyX7 k))) nq115 hy108
  refine pq_dup F dX10_init_118 rfl ?_
  refine pq_callI (As := []) F (k_X7_initG l D cy _ _ ?_ (pq_nwO.trans rfl) (pq_nwO.trans rfl) (pq_nwO.trans rfl)) ml_X10_66 (Nat.le_of_ble_eq_true rfl) ⟨Nat.le_of_ble_eq_true rfl, Nat.le_of_ble_eq_true rfl⟩ ⟨Nat.le_of_ble_eq_true rfl, Nat.le_of_ble_eq_true rfl⟩ dX10_init_119 (fun v119 S119 w119 => ?_)
  · exact h115
  obtain ⟨rfl, hG119, hy119, p119⟩ := w119
  have ha_119 := (hG119 _ _ ha_115 (pq_nrole ha_115 h115 (by decide))).1
  have hy9_119 := (hG119 _ _ hy9_115 (pq_nrole hy9_115 h115 (by decide))).1
  have ec119_1_hy9_119 := hG119.e hy9_115 (pq_nrole hy9_115 h115 (by decide)) (pq_nO nq115 hy9_108 (pq_ko ec108_1_hy9_108 hy9_108 ha_108 (by decide)))
  have ec119_0_ha_119 := hG119.e ha_115 (pq_nrole ha_115 h115 (by decide)) (pq_nO nq115 ha_108 (pq_kp ec108_0_ha_108 (by decide)))
  have hy20_119 := (hG119 _ _ hy20_115 (pq_nrole hy20_115 h115 (by decide))).1
  have ec119_1_ha_119 := hG119.e ha_115 (pq_nrole ha_115 h115 (by decide)) (pq_nO nq115 ha_108 (pq_kp ec108_1_ha_108 (by decide)))
  have hy39_119 := (hG119 _ _ hy39_115 (pq_nrole hy39_115 h115 (by decide))).1
  have ec119_0_hy39_119 := hG119.e hy39_115 (pq_nrole hy39_115 h115 (by decide)) (pq_nO nq115 hy39_108 (pq_ko ec108_0_hy39_108 hy39_108 ha_108 (by decide)))
  have ec119_1_hy39_119 := hG119.e hy39_115 (pq_nrole hy39_115 h115 (by decide)) (pq_nO nq115 hy39_108 (pq_ko ec108_1_hy39_108 hy39_108 ha_108 (by decide)))
  have ec119_2_ha_119 := hG119.e ha_115 (pq_nrole ha_115 h115 (by decide)) (pq_nO nq115 ha_108 (pq_kp ec108_2_ha_108 (by decide)))
  have hy54_119 := (hG119 _ _ hy54_115 (pq_nrole hy54_115 h115 (by decide))).1
  have ec119_0_hy54_119 := hG119.e hy54_115 (pq_nrole hy54_115 h115 (by decide)) (pq_nO nq115 hy54_108 (pq_ko ec108_0_hy54_108 hy54_108 ha_108 (by decide)))
  have ec119_3_ha_119 := hG119.e ha_115 (pq_nrole ha_115 h115 (by decide)) (pq_nO nq115 ha_108 (pq_kp ec108_3_ha_108 (by decide)))
  have hy69_119 := (hG119 _ _ hy69_115 (pq_nrole hy69_115 h115 (by decide))).1
  have ec119_0_hy69_119 := hG119.e hy69_115 (pq_nrole hy69_115 h115 (by decide)) (pq_nO nq115 hy69_108 (pq_ko ec108_0_hy69_108 hy69_108 ha_108 (by decide)))
  have ec119_4_ha_119 := hG119.e ha_115 (pq_nrole ha_115 h115 (by decide)) (pq_nO nq115 ha_108 (pq_kp ec108_4_ha_108 (by decide)))
  have h77_119 := (hG119 _ _ h77_115 (pq_nrole h77_115 h115 (by decide))).1
  have ec119_5_ha_119 := hG119.e ha_115 (pq_nrole ha_115 h115 (by decide)) (pq_nO nq115 ha_108 (pq_kp ec108_5_ha_108 (by decide)))
  have hy108_119 := (hG119 _ _ hy108_115 (pq_nrole hy108_115 h115 (by decide))).1
  have ec119_6_ha_119 := hG119.e ha_115 (pq_nrole ha_115 h115 (by decide)) (pq_nO nq115 ha_108 pq_ks)
  have u2 := (u1.uOr (k := 6) (v := .ref q104) ha_108 (by decide)).gn nq115 hG119
  refine pq_putF F hnm ha_119 (by decide) lf_X10_67 rfl rfl (show pq_ok (pq_ft 73 7) _ _ from trivial) dX10_init_122 ?_
  refine pq_aload_n F dX10_init_125 rfl rfl ?_
  refine pq_iconst (v := -1) F dX10_init_126 (by decide) ?_
  refine pq_put F ha_119 (by decide) lp_X10_71 rfl rfl (show pq_ok (pq_ft 73 8) _ _ from trivial) dX10_init_127 ?_
  refine pq_prom (r := 13) ha_119 (by decide) (by decide) (by decide) rfl (fun k => match k with | 0 => (show pq_ok (pq_ft 13 0) _ _ from ⟨by decide, _, (pq_kp (pq_kp ec119_0_ha_119 (by decide)) (by decide)), hy9_119⟩) | 1 => (show pq_ok (pq_ft 13 1) _ _ from ⟨by decide, _, (pq_kp (pq_kp ec119_1_ha_119 (by decide)) (by decide)), hy20_119⟩) | 2 => (show pq_ok (pq_ft 13 2) _ _ from ⟨by decide, _, (pq_kp (pq_kp ec119_2_ha_119 (by decide)) (by decide)), hy39_119⟩) | 3 => (show pq_ok (pq_ft 13 3) _ _ from ⟨by decide, _, (pq_kp (pq_kp ec119_3_ha_119 (by decide)) (by decide)), hy54_119⟩) | 4 => (show pq_ok (pq_ft 13 4) _ _ from ⟨by decide, _, (pq_kp (pq_kp ec119_4_ha_119 (by decide)) (by decide)), hy69_119⟩) | 5 => (show pq_ok (pq_ft 13 5) _ _ from ⟨by decide, _, (pq_kp (pq_kp ec119_5_ha_119 (by decide)) (by decide)), h77_119⟩) | 6 => (show pq_ok (pq_ft 13 6) _ _ from ⟨by decide, _, (pq_kp (pq_kp ec119_6_ha_119 (by decide)) (by decide)), hy108_119⟩) | 7 => (show pq_ok (pq_ft 13 7) _ _ from ⟨by decide, _, (pq_kp pq_ks (by decide)), hy119⟩) | 8 => (show pq_ok (1, -2147483648, 2147483647) _ _ from ⟨_, pq_ks, (by focus (simp only [vp_in_iff, Int32.lt_iff_toInt_lt, Int32.le_iff_toInt_le, ← Int32.toInt_inj, Int32.toInt_add, Int32.toInt_sub, Int32.toInt_mul, Int32.toInt_neg, pq_NuO, pq_NuI, pq_NuJ, pq_NuR, pq_shr6, pq_shr7, pq_shr8, lqm1, lq0, lq1, lq2] at *; (try simp (disch := omega) only [pq_bm] at *); all_goals omega)), (by focus (simp only [vp_in_iff, Int32.lt_iff_toInt_lt, Int32.le_iff_toInt_le, ← Int32.toInt_inj, Int32.toInt_add, Int32.toInt_sub, Int32.toInt_mul, Int32.toInt_neg, pq_NuO, pq_NuI, pq_NuJ, pq_NuR, pq_shr6, pq_shr7, pq_shr8, lqm1, lq0, lq1, lq2] at *; (try simp (disch := omega) only [pq_bm] at *); all_goals omega))⟩) | _ + 9 => trivial) ?_
  have hpr := pq_rrR (r := 13) ha_119
  exact pq_vret F hr hlk hA (Nat.le_of_ble_eq_true rfl) (Nat.le_of_ble_eq_true rfl) ((by have u3 := ((u2.uOr (k := 7) (v := .ref q115) ha_119 (by decide)).uOr (k := 8) (v := .int (-1)) (show pq_R _ a 73 from ha_119) (by decide)).rrr (r := 13) (show pq_R _ a 73 from ha_119) (by decide); have z4 := (z2.uR (f := va_up (hR S96 q77) (1 : Int32).toNatClampNeg (some q92)) h77_96 (by decide)).cm u3 (by decide); have w4 := ((pq_Fr.rf (M := [(220, 0)]) (S := S96)).uR (f := va_up (hR S96 q77) (1 : Int32).toNatClampNeg (some q92)) h77_96 (by decide)).cm u3 (by decide); have y3 := (((pq_Fr.rf (M := []) (S := S119)).uOr (k := 7) (v := .ref q115) ha_119 (by decide)).uOr (k := 8) (v := .int (-1)) (show pq_R _ a 73 from ha_119) (by decide)).rrr (r := 13) (show pq_R _ a 73 from ha_119) (by decide); have hrr := (u3.2.2 q77 220 (show pq_R _ q77 220 from h77_96) (by decide) (by decide)).2.2; exact ⟨rfl, ((((((((((((pq_G.rf.gn nq5 hG9).uO.gn nq16 hG20).uO.gn nq27 hG39).uO.gn nq46 hG54).uO.gn nq61 hG69).uO.nw nq77).gn nq82 hG86).uRn (((((pq_G.rf.gn nq5 hG9).uO.gn nq16 hG20).uO.gn nq27 hG39).uO.gn nq46 hG54).uO.gn nq61 hG69).uO nq77).gn nq92 hG96).uRn (((((pq_G.rf.gn nq5 hG9).uO.gn nq16 hG20).uO.gn nq27 hG39).uO.gn nq46 hG54).uO.gn nq61 hG69).uO nq77).uO.gn nq104 hG108).uO.gn nq115 hG119).uO.uO.rr, hpr, ⟨q5, q16, q27, q46, q61, q77, q104, q115, q82, q92, ⟨⟨(pq_kp (pq_kp ec119_0_ha_119 (by decide)) (by decide)), (pq_kp (pq_kp ec119_1_ha_119 (by decide)) (by decide)), (pq_kp (pq_kp ec119_2_ha_119 (by decide)) (by decide)), (pq_kp (pq_kp ec119_3_ha_119 (by decide)) (by decide)), (pq_kp (pq_kp ec119_4_ha_119 (by decide)) (by decide)), (pq_kp (pq_kp ec119_5_ha_119 (by decide)) (by decide)), (pq_kp (pq_kp ec119_6_ha_119 (by decide)) (by decide)), (pq_kp pq_ks (by decide))⟩, ⟨hpr, (pq_rrO (a := a) (r := 13) hy9_119 (pq_nrole hy9_119 ha_119 (by decide))), (pq_rrO (a := a) (r := 13) hy20_119 (pq_nrole hy20_119 ha_119 (by decide))), (pq_rrO (a := a) (r := 13) hy39_119 (pq_nrole hy39_119 ha_119 (by decide))), (pq_rrO (a := a) (r := 13) hy54_119 (pq_nrole hy54_119 ha_119 (by decide))), (pq_rrO (a := a) (r := 13) hy69_119 (pq_nrole hy69_119 ha_119 (by decide))), (pq_rrO (a := a) (r := 13) h77_119 (pq_nrole h77_119 ha_119 (by decide))), (pq_rrO (a := a) (r := 13) hy108_119 (pq_nrole hy108_119 ha_119 (by decide))), (pq_rrO (a := a) (r := 13) hy119 (pq_nrole hy119 ha_119 (by decide)))⟩, ⟨(pq_ko (pq_ko ec119_0_hy39_119 hy39_119 ha_119 (by decide)) hy39_119 ha_119 (by decide)), (pq_ko (pq_ko ec119_1_hy39_119 hy39_119 ha_119 (by decide)) hy39_119 ha_119 (by decide)), (pq_ko (pq_ko ec119_0_hy54_119 hy54_119 ha_119 (by decide)) hy54_119 ha_119 (by decide)), (pq_ko (pq_ko ec119_0_hy69_119 hy69_119 ha_119 (by decide)) hy69_119 ha_119 (by decide))⟩, ⟨(congrFun hrr 0).trans (by show va_up S96.2.2.2.2.2.2 q77 _ q77 0 = _; rw [va_up_self, va_up_ne _ _ (by decide)]; exact hr96), (congrFun hrr 1).trans (by show va_up S96.2.2.2.2.2.2 q77 _ q77 1 = _; rw [va_up_self]; exact va_up_self _ _ _), z4.R hy86 (by decide), w4.R hy96 (by decide)⟩⟩, (pq_ko (pq_ko ec119_1_hy9_119 hy9_119 ha_119 (by decide)) hy9_119 ha_119 (by decide)), by decide, p86.1.fr hy86 (by decide) (by decide) (by decide) z4 (by decide), p96.1.fr hy96 (by decide) (by decide) (by decide) w4 (by decide), p119.1.fr hy119 y3 (by decide)⟩, ⟨_, (h39.G (((((((((((pq_G.rf (a := a) (S := S39)).uO.gn nq46 hG54).uO.gn nq61 hG69).uO.nw nq77).gn nq82 hG86).uRn (((pq_G.rf (a := a) (S := S39)).uO.gn nq46 hG54).uO.gn nq61 hG69).uO nq77).gn nq92 hG96).uRn (((pq_G.rf (a := a) (S := S39)).uO.gn nq46 hG54).uO.gn nq61 hG69).uO nq77).uO.gn nq104 hG108).uO.gn nq115 hG119).uO.uO.rr) ha_39 (by decide)).w hpr (pq_kp (pq_kp ec119_0_ha_119 (by decide)) (by decide)) (pq_kp (pq_kp ec119_2_ha_119 (by decide)) (by decide)) (pq_kp (pq_kp ec119_1_ha_119 (by decide)) (by decide))⟩, ⟨q77, q82, q92, ⟨(pq_kp (pq_kp ec119_5_ha_119 (by decide)) (by decide)), (pq_rrO (a := a) (r := 13) h77_119 (pq_nrole h77_119 ha_119 (by decide))), (congrFun hrr 0).trans (by show va_up S96.2.2.2.2.2.2 q77 _ q77 0 = _; rw [va_up_self, va_up_ne _ _ (by decide)]; exact hr96), (congrFun hrr 1).trans (by show va_up S96.2.2.2.2.2.2 q77 _ q77 1 = _; rw [va_up_self]; exact va_up_self _ _ _), z4.R hy86 (by decide), w4.R hy96 (by decide)⟩, p86.2.fr hy86 (by decide) (by decide) z4 (by decide), p96.2.fr hy96 (by decide) (by decide) w4 (by decide)⟩, ⟨q46, se54, (pq_kp (pq_kp ec119_3_ha_119 (by decide)) (by decide)), (pq_rrO (a := a) (r := 13) hy54_119 (pq_nrole hy54_119 ha_119 (by decide))), (congrFun (((((((((((pq_G.rf (a := a) (S := S54)).uO.gn nq61 hG69).uO.nw nq77).gn nq82 hG86).uRn ((pq_G.rf (a := a) (S := S54)).uO.gn nq61 hG69).uO nq77).gn nq92 hG96).uRn ((pq_G.rf (a := a) (S := S54)).uO.gn nq61 hG69).uO nq77).uO.gn nq104 hG108).uO.gn nq115 hG119).uO.uO.rr) _ _ hy54 (pq_nrole hy54 ha_54 (by decide))).2.2.1 2).trans ese54, (((((((((((pq_G.rf (a := a) (S := S54)).uO.gn nq61 hG69).uO.nw nq77).gn nq82 hG86).uRn ((pq_G.rf (a := a) (S := S54)).uO.gn nq61 hG69).uO nq77).gn nq92 hG96).uRn ((pq_G.rf (a := a) (S := S54)).uO.gn nq61 hG69).uO nq77).uO.gn nq104 hG108).uO.gn nq115 hG119).uO.uO.rr) _ _ hse54 (pq_nrole hse54 ha_54 (by decide))).1, (fun i hi => (congrFun (((((((((((pq_G.rf (a := a) (S := S54)).uO.gn nq61 hG69).uO.nw nq77).gn nq82 hG86).uRn ((pq_G.rf (a := a) (S := S54)).uO.gn nq61 hG69).uO nq77).gn nq92 hG96).uRn ((pq_G.rf (a := a) (S := S54)).uO.gn nq61 hG69).uO nq77).uO.gn nq104 hG108).uO.gn nq115 hG119).uO.uO.rr) _ _ hse54 (pq_nrole hse54 ha_54 (by decide))).2.2.2.2.1 i).trans (hz54 i hi))⟩, (by obtain ⟨tx9, x1, x2, x3⟩ := p119.2; exact ⟨q115, tx9, 0, (pq_kp pq_ks (by decide)), (pq_rrO (a := a) (r := 13) hy119 (pq_nrole hy119 ha_119 (by decide))), y3.O hy119 (by decide) (by decide) x1, y3.O hy119 (by decide) (by decide) x2, y3.R x3 (by decide), rfl, tk_Tx.nil⟩)⟩)) dX10_init_130

