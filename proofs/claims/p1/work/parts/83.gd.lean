set_option maxHeartbeats 4000000 in
set_option maxRecDepth 100000 in
theorem k_X7_beginY (l : Launch) (D : va_G) (cy : Nat → ClassId) (S : HS) (a : Nat) (ha : pq_R S a 10) (ta : Nat) (hta : pq_R S ta 3) (tb : Nat) (htb : pq_R S tb 33) (pr og sn : Nat) (fe2 : hO S a 2 = .ref pr) (hpr : pq_R S pr 164) (fe3 : hO S a 3 = .ref og) (hog : pq_R S og 165) (fe4 : hO S a 4 = .ref sn) (hsn : pq_R S sn 196) (l0 : hN S pr = 0) (l1 : hN S og = 0) (l2 : hN S sn = 0) (sa5 : hO S ta 5 = .int 1) (sb5 : hO S tb 5 = .int 1) (sa6 : hO S ta 6 = .int 0) (sb6 : hO S tb 6 = .int 0) : pq_C l D cy yX7_begin cX7_begin 5 (none) 2 3 8 S [.ref a, .ref ta, .ref tb] (fun v S2 => v = none ∧ pq_Fr [(10, 2), (10, 3), (10, 4), (10, 5), (164, 0), (165, 0), (196, 0)] S S2 ∧ (∃ pr2 og2 sn2 : Nat, ((hO S2 a 2 = .ref pr2 ∧ pq_R S2 pr2 164) ∧ (hO S2 a 3 = .ref og2 ∧ pq_R S2 og2 165) ∧ hO S2 a 4 = .ref sn2 ∧ pq_R S2 sn2 196) ∧ hO S2 a 5 = .int 1 ∧ (hN S2 pr2 = 2 ∧ hN S2 og2 = 2 ∧ 4 ≤ hN S2 sn2) ∧ hI S2 pr2 0 = 0 ∧ hI S2 og2 0 = 0 ∧ hJ S2 sn2 0 = 0)) := by
  refine pq_start (by decide) (Nat.le_of_ble_eq_true rfl) ?_
  intro p e s m args below meth c A F hr hlk hnm hA
  have lqm1 : (-1 : Int32).toInt = -1 := rfl
  have lq0 : (0 : Int32).toInt = 0 := rfl
  have lq1 : (1 : Int32).toInt = 1 := rfl
  have lq2 : (2 : Int32).toInt = 2 := rfl
  have lq4 : (4 : Int32).toInt = 4 := rfl
  have lq6 : (6 : Int32).toInt = 6 := rfl
  have lq8 : (8 : Int32).toInt = 8 := rfl
  refine pq_aload_n F dX7_begin_0 rfl rfl ?_
  refine pq_get F hta (by decide) lk_X7_67 sa5 dX7_begin_1 ?_
  refine pq_aload_n F dX7_begin_4 rfl rfl ?_
  refine pq_get F htb (by decide) lk_X7_67 sb5 dX7_begin_5 ?_
  refine pq_imul F dX7_begin_8 ?_
  refine pq_iconst (v := 1) F dX7_begin_9 (by decide) ?_
  refine pq_iadd F dX7_begin_10 ?_
  refine pq_istore_n F dX7_begin_11 rfl (by decide) ?_
  refine pq_aload_n F dX7_begin_12 rfl rfl ?_
  refine pq_iload_n F dX7_begin_13 rfl rfl ?_
  refine pq_aload_n F dX7_begin_14 rfl rfl ?_
  refine pq_get F ha (by decide) lk_X7_15 fe2 dX7_begin_15 ?_
  refine pq_callS (As := [_, _]) F (k_X10_row164 l D cy _ _ ?_ ?_ _ ?_ 2 ?_) ml_X7_70 (Nat.le_of_ble_eq_true rfl) ⟨Nat.le_of_ble_eq_true rfl, Nat.le_of_ble_eq_true rfl⟩ ⟨Nat.le_of_ble_eq_true rfl, Nat.le_of_ble_eq_true rfl⟩ dX7_begin_18 (fun v18 S18 w18 => ?_)
  · focus ((try clear p18); (try clear p30); (try clear g81); simp only [vp_in_iff, Int32.lt_iff_toInt_lt, Int32.le_iff_toInt_le, ← Int32.toInt_inj, Int32.toInt_add, Int32.toInt_sub, Int32.toInt_mul, Int32.toInt_neg, pq_NuO, pq_NuI, pq_NuJ, pq_NuR, pq_shr6, pq_shr7, pq_shr8, lqm1, lq0, lq1, lq2, lq4, lq6, lq8] at *; (try simp (disch := omega) only [pq_bm] at *); all_goals omega)
  · focus ((try clear p18); (try clear p30); (try clear g81); simp only [vp_in_iff, Int32.lt_iff_toInt_lt, Int32.le_iff_toInt_le, ← Int32.toInt_inj, Int32.toInt_add, Int32.toInt_sub, Int32.toInt_mul, Int32.toInt_neg, pq_NuO, pq_NuI, pq_NuJ, pq_NuR, pq_shr6, pq_shr7, pq_shr8, lqm1, lq0, lq1, lq2, lq4, lq6, lq8] at *; (try simp (disch := omega) only [pq_bm] at *); all_goals omega)
  · exact hpr
  · right; focus ((try clear p18); (try clear p30); (try clear g81); simp only [vp_in_iff, Int32.lt_iff_toInt_lt, Int32.le_iff_toInt_le, ← Int32.toInt_inj, Int32.toInt_add, Int32.toInt_sub, Int32.toInt_mul, Int32.toInt_neg, pq_NuO, pq_NuI, pq_NuJ, pq_NuR, pq_shr6, pq_shr7, pq_shr8, lqm1, lq0, lq1, lq2, lq4, lq6, lq8] at *; (try simp (disch := omega) only [pq_bm] at *); all_goals omega)
  obtain ⟨hF18, y18, rfl, hy18, p18⟩ := w18
  have ha_18 := (hF18.1 _ _ ha (by decide)).1
  have hta_18 := (hF18.1 _ _ hta (by decide)).1
  have htb_18 := (hF18.1 _ _ htb (by decide)).1
  have hpr_18 := (hF18.1 _ _ hpr (by decide)).1
  have ec18_2_ha_18 := hF18.O ha (by decide) (by decide) fe2
  have hog_18 := (hF18.1 _ _ hog (by decide)).1
  have ec18_3_ha_18 := hF18.O ha (by decide) (by decide) fe3
  have hsn_18 := (hF18.1 _ _ hsn (by decide)).1
  have ec18_4_ha_18 := hF18.O ha (by decide) (by decide) fe4
  have ec18_5_hta_18 := hF18.O hta (by decide) (by decide) sa5
  have ec18_5_htb_18 := hF18.O htb (by decide) (by decide) sb5
  have ec18_6_hta_18 := hF18.O hta (by decide) (by decide) sa6
  have ec18_6_htb_18 := hF18.O htb (by decide) (by decide) sb6
  have n18 : hN S18 y18 = 2 := (by rcases p18 with ⟨z1, z2, z3⟩ | ⟨z1, z2, z3, z4, -⟩; (exact False.elim (by focus ((try clear p18); (try clear p30); (try clear g81); simp only [vp_in_iff, Int32.lt_iff_toInt_lt, Int32.le_iff_toInt_le, ← Int32.toInt_inj, Int32.toInt_add, Int32.toInt_sub, Int32.toInt_mul, Int32.toInt_neg, pq_NuO, pq_NuI, pq_NuJ, pq_NuR, pq_shr6, pq_shr7, pq_shr8, lqm1, lq0, lq1, lq2, lq4, lq6, lq8] at *; (try simp (disch := omega) only [pq_bm] at *); all_goals omega))); (rcases z4 with z4 | z4 <;> focus ((try clear p18); (try clear p30); (try clear g81); simp only [vp_in_iff, Int32.lt_iff_toInt_lt, Int32.le_iff_toInt_le, ← Int32.toInt_inj, Int32.toInt_add, Int32.toInt_sub, Int32.toInt_mul, Int32.toInt_neg, pq_NuO, pq_NuI, pq_NuJ, pq_NuR, pq_shr6, pq_shr7, pq_shr8, lqm1, lq0, lq1, lq2, lq4, lq6, lq8] at *; (try simp (disch := omega) only [pq_bm] at *); all_goals omega)))
  refine pq_put F ha_18 (by decide) lp_X7_15 rfl rfl (⟨by decide, _, rfl, hy18⟩) dX7_begin_21 ?_
  refine pq_aload_n F dX7_begin_24 rfl rfl ?_
  refine pq_iload_n F dX7_begin_25 rfl rfl ?_
  refine pq_aload_n F dX7_begin_26 rfl rfl ?_
  refine pq_get F ha_18 (by decide) lk_X7_18 (pq_kp ec18_3_ha_18 (by decide)) dX7_begin_27 ?_
  refine pq_callS (As := [_, _]) F (k_X10_row165 l D cy _ _ ?_ ?_ _ ?_ 2 ?_) ml_X7_70 (Nat.le_of_ble_eq_true rfl) ⟨Nat.le_of_ble_eq_true rfl, Nat.le_of_ble_eq_true rfl⟩ ⟨Nat.le_of_ble_eq_true rfl, Nat.le_of_ble_eq_true rfl⟩ dX7_begin_30 (fun v30 S30 w30 => ?_)
  · focus ((try clear p18); (try clear p30); (try clear g81); simp only [vp_in_iff, Int32.lt_iff_toInt_lt, Int32.le_iff_toInt_le, ← Int32.toInt_inj, Int32.toInt_add, Int32.toInt_sub, Int32.toInt_mul, Int32.toInt_neg, pq_NuO, pq_NuI, pq_NuJ, pq_NuR, pq_shr6, pq_shr7, pq_shr8, lqm1, lq0, lq1, lq2, lq4, lq6, lq8] at *; (try simp (disch := omega) only [pq_bm] at *); all_goals omega)
  · focus ((try clear p18); (try clear p30); (try clear g81); simp only [vp_in_iff, Int32.lt_iff_toInt_lt, Int32.le_iff_toInt_le, ← Int32.toInt_inj, Int32.toInt_add, Int32.toInt_sub, Int32.toInt_mul, Int32.toInt_neg, pq_NuO, pq_NuI, pq_NuJ, pq_NuR, pq_shr6, pq_shr7, pq_shr8, lqm1, lq0, lq1, lq2, lq4, lq6, lq8] at *; (try simp (disch := omega) only [pq_bm] at *); all_goals omega)
  · exact hog_18
  · have z0 : hN S18 og = hN S og := (hF18.1 og 165 hog (by decide)).2; right; focus ((try clear p18); (try clear p30); (try clear g81); simp only [vp_in_iff, Int32.lt_iff_toInt_lt, Int32.le_iff_toInt_le, ← Int32.toInt_inj, Int32.toInt_add, Int32.toInt_sub, Int32.toInt_mul, Int32.toInt_neg, pq_NuO, pq_NuI, pq_NuJ, pq_NuR, pq_shr6, pq_shr7, pq_shr8, lqm1, lq0, lq1, lq2, lq4, lq6, lq8] at *; (try simp (disch := omega) only [pq_bm] at *); all_goals omega)
  obtain ⟨hF30, y30, rfl, hy30, p30⟩ := w30
  have ha_30 := (hF30.1 _ _ ha_18 (by decide)).1
  have hta_30 := (hF30.1 _ _ hta_18 (by decide)).1
  have htb_30 := (hF30.1 _ _ htb_18 (by decide)).1
  have hog_30 := (hF30.1 _ _ hog_18 (by decide)).1
  have ec30_3_ha_30 := hF30.O ha_18 (by decide) (by decide) (pq_kp ec18_3_ha_18 (by decide))
  have hsn_30 := (hF30.1 _ _ hsn_18 (by decide)).1
  have ec30_4_ha_30 := hF30.O ha_18 (by decide) (by decide) (pq_kp ec18_4_ha_18 (by decide))
  have ec30_5_hta_30 := hF30.O hta_18 (by decide) (by decide) (pq_ko ec18_5_hta_18 hta_18 ha_18 (by decide))
  have ec30_5_htb_30 := hF30.O htb_18 (by decide) (by decide) (pq_ko ec18_5_htb_18 htb_18 ha_18 (by decide))
  have ec30_6_hta_30 := hF30.O hta_18 (by decide) (by decide) (pq_ko ec18_6_hta_18 hta_18 ha_18 (by decide))
  have ec30_6_htb_30 := hF30.O htb_18 (by decide) (by decide) (pq_ko ec18_6_htb_18 htb_18 ha_18 (by decide))
  have hy18_30 := (hF30.1 _ _ hy18 (by decide)).1
  have ec30_2_ha_30 := hF30.O ha_18 (by decide) (by decide) pq_ks
  have n30 : hN S30 y30 = 2 := (by have z0 : hN S18 og = hN S og := (hF18.1 og 165 hog (by decide)).2; rcases p30 with ⟨z1, z2, z3⟩ | ⟨z1, z2, z3, z4, -⟩; (exact False.elim (by change _ ≤ ((hN S18 og : Nat) : Int) at z1; focus ((try clear p18); (try clear p30); (try clear g81); simp only [vp_in_iff, Int32.lt_iff_toInt_lt, Int32.le_iff_toInt_le, ← Int32.toInt_inj, Int32.toInt_add, Int32.toInt_sub, Int32.toInt_mul, Int32.toInt_neg, pq_NuO, pq_NuI, pq_NuJ, pq_NuR, pq_shr6, pq_shr7, pq_shr8, lqm1, lq0, lq1, lq2, lq4, lq6, lq8] at *; (try simp (disch := omega) only [pq_bm] at *); all_goals omega))); (change ((hN S18 og : Nat) : Int) < _ at z1; change 2 * hN S18 og ≤ _ at z3; (rcases z4 with z4 | z4; (skip; focus ((try clear p18); (try clear p30); (try clear g81); simp only [vp_in_iff, Int32.lt_iff_toInt_lt, Int32.le_iff_toInt_le, ← Int32.toInt_inj, Int32.toInt_add, Int32.toInt_sub, Int32.toInt_mul, Int32.toInt_neg, pq_NuO, pq_NuI, pq_NuJ, pq_NuR, pq_shr6, pq_shr7, pq_shr8, lqm1, lq0, lq1, lq2, lq4, lq6, lq8] at *; (try simp (disch := omega) only [pq_bm] at *); all_goals omega)); (change _ = 2 * hN S18 og at z4; focus ((try clear p18); (try clear p30); (try clear g81); simp only [vp_in_iff, Int32.lt_iff_toInt_lt, Int32.le_iff_toInt_le, ← Int32.toInt_inj, Int32.toInt_add, Int32.toInt_sub, Int32.toInt_mul, Int32.toInt_neg, pq_NuO, pq_NuI, pq_NuJ, pq_NuR, pq_shr6, pq_shr7, pq_shr8, lqm1, lq0, lq1, lq2, lq4, lq6, lq8] at *; (try simp (disch := omega) only [pq_bm] at *); all_goals omega)))))
  have n18b : hN S30 y18 = 2 := (hF30.1 y18 164 (show pq_R (pq_uO S18 a 2 _) y18 164 from hy18) (by decide)).2.trans n18
  have n4 : hN S30 sn = 0 := ((hF30.1 sn 196 (show pq_R (pq_uO S18 a 2 _) sn 196 from hF18.R hsn (by decide)) (by decide)).2.trans (hF18.1 sn 196 hsn (by decide)).2).trans l2
  refine pq_put F ha_30 (by decide) lp_X7_18 rfl rfl (⟨by decide, _, rfl, hy30⟩) dX7_begin_33 ?_
  refine pq_aload_n F dX7_begin_36 rfl rfl ?_
  refine pq_get F hta_30 (by decide) lk_X7_67 (pq_ko ec30_5_hta_30 hta_30 ha_30 (by decide)) dX7_begin_37 ?_
  refine pq_bipush (v := 8) F dX7_begin_40 (by decide) ?_
  refine pq_ishl F dX7_begin_42 ?_
  have z42 : ((1 : Int32) <<< (8 &&& 31)).toInt = 256 := (by decide)
  refine pq_bipush (v := 6) F dX7_begin_43 (by decide) ?_
  refine pq_ishr F dX7_begin_45 ?_
  refine pq_istore F dX7_begin_46 (by decide) ?_
  refine pq_aload_n F dX7_begin_48 rfl rfl ?_
  refine pq_get F ha_30 (by decide) lk_X7_21 (pq_kp ec30_4_ha_30 (by decide)) dX7_begin_49 ?_
  refine pq_alen F hsn_30 (by decide) rfl dX7_begin_52 (fun l52 u52 => ?_)
  have nq52 := nI_toInt (n := hN _ sn) (Nat.lt_of_le_of_lt u52 (by decide))
  refine pq_iload F dX7_begin_53 rfl ?_
  refine pq_icmp_ge (tgt := 76) F dX7_begin_55 (by decide) (fun c55 => ?_) (fun c55 => ?_)
  · exact False.elim (by focus ((try clear p18); (try clear p30); (try clear g81); simp only [vp_in_iff, Int32.lt_iff_toInt_lt, Int32.le_iff_toInt_le, ← Int32.toInt_inj, Int32.toInt_add, Int32.toInt_sub, Int32.toInt_mul, Int32.toInt_neg, pq_NuO, pq_NuI, pq_NuJ, pq_NuR, pq_shr6, pq_shr7, pq_shr8, lqm1, lq0, lq1, lq2, lq4, lq6, lq8] at *; (try simp (disch := omega) only [pq_bm] at *); all_goals omega))
  · skip
    refine pq_aload_n F dX7_begin_58 rfl rfl ?_
    refine pq_iload F dX7_begin_59 rfl ?_
    refine pq_iconst (v := 2) F dX7_begin_61 (by decide) ?_
    refine pq_aload_n F dX7_begin_62 rfl rfl ?_
    refine pq_get F ha_30 (by decide) lk_X7_21 (pq_kp ec30_4_ha_30 (by decide)) dX7_begin_63 ?_
    refine pq_alen F hsn_30 (by decide) rfl dX7_begin_66 (fun l66 u66 => ?_)
    have nq66 := nI_toInt (n := hN _ sn) (Nat.lt_of_le_of_lt u66 (by decide))
    refine pq_imul F dX7_begin_67 ?_
    refine pq_mmax F mx_X7_74 ⟨Nat.le_of_ble_eq_true rfl, Nat.le_of_ble_eq_true rfl⟩ (by show _ ≤ 3; exact Nat.le_of_ble_eq_true rfl) (by show _ ≤ 8; focus ((try clear p18); (try clear p30); (try clear g81); simp only [vp_in_iff, Int32.lt_iff_toInt_lt, Int32.le_iff_toInt_le, ← Int32.toInt_inj, Int32.toInt_add, Int32.toInt_sub, Int32.toInt_mul, Int32.toInt_neg, pq_NuO, pq_NuI, pq_NuJ, pq_NuR, pq_shr6, pq_shr7, pq_shr8, lqm1, lq0, lq1, lq2, lq4, lq6, lq8] at *; (try simp (disch := omega) only [pq_bm] at *); all_goals omega)) dX7_begin_68 (fun y68 yl68_0 yl68_1 yl68_2 => ?_)
    have cy68 := pq_cl (x := y68) (by focus ((try clear p18); (try clear p30); (try clear g81); simp only [vp_in_iff, Int32.lt_iff_toInt_lt, Int32.le_iff_toInt_le, ← Int32.toInt_inj, Int32.toInt_add, Int32.toInt_sub, Int32.toInt_mul, Int32.toInt_neg, pq_NuO, pq_NuI, pq_NuJ, pq_NuR, pq_shr6, pq_shr7, pq_shr8, lqm1, lq0, lq1, lq2, lq4, lq6, lq8] at *; (try simp (disch := omega) only [pq_bm] at *); all_goals omega))
    refine pq_newJ F (r := 196) (n := y68.toNatClampNeg) (by decide) (by decide) ac_long rfl (by decide) (by focus ((try clear p18); (try clear p30); (try clear g81); simp only [vp_in_iff, Int32.lt_iff_toInt_lt, Int32.le_iff_toInt_le, ← Int32.toInt_inj, Int32.toInt_add, Int32.toInt_sub, Int32.toInt_mul, Int32.toInt_neg, pq_NuO, pq_NuI, pq_NuJ, pq_NuR, pq_shr6, pq_shr7, pq_shr8, lqm1, lq0, lq1, lq2, lq4, lq6, lq8] at *; (try simp (disch := omega) only [pq_bm] at *); all_goals omega)) rfl ⟨(by focus ((try clear p18); (try clear p30); (try clear g81); simp only [vp_in_iff, Int32.lt_iff_toInt_lt, Int32.le_iff_toInt_le, ← Int32.toInt_inj, Int32.toInt_add, Int32.toInt_sub, Int32.toInt_mul, Int32.toInt_neg, pq_NuO, pq_NuI, pq_NuJ, pq_NuR, pq_shr6, pq_shr7, pq_shr8, lqm1, lq0, lq1, lq2, lq4, lq6, lq8] at *; (try simp (disch := omega) only [pq_bm] at *); all_goals omega)), (by focus ((try clear p18); (try clear p30); (try clear g81); simp only [vp_in_iff, Int32.lt_iff_toInt_lt, Int32.le_iff_toInt_le, ← Int32.toInt_inj, Int32.toInt_add, Int32.toInt_sub, Int32.toInt_mul, Int32.toInt_neg, pq_NuO, pq_NuI, pq_NuJ, pq_NuR, pq_shr6, pq_shr7, pq_shr8, lqm1, lq0, lq1, lq2, lq4, lq6, lq8] at *; (try simp (disch := omega) only [pq_bm] at *); all_goals omega))⟩ (by focus ((try clear p18); (try clear p30); (try clear g81); simp only [vp_in_iff, Int32.lt_iff_toInt_lt, Int32.le_iff_toInt_le, ← Int32.toInt_inj, Int32.toInt_add, Int32.toInt_sub, Int32.toInt_mul, Int32.toInt_neg, pq_NuO, pq_NuI, pq_NuJ, pq_NuR, pq_shr6, pq_shr7, pq_shr8, lqm1, lq0, lq1, lq2, lq4, lq6, lq8] at *; (try simp (disch := omega) only [pq_bm] at *); all_goals omega)) (Nat.le_of_ble_eq_true rfl) (by show _ ≤ 8; focus ((try clear p18); (try clear p30); (try clear g81); simp only [vp_in_iff, Int32.lt_iff_toInt_lt, Int32.le_iff_toInt_le, ← Int32.toInt_inj, Int32.toInt_add, Int32.toInt_sub, Int32.toInt_mul, Int32.toInt_neg, pq_NuO, pq_NuI, pq_NuJ, pq_NuR, pq_shr6, pq_shr7, pq_shr8, lqm1, lq0, lq1, lq2, lq4, lq6, lq8] at *; (try simp (disch := omega) only [pq_bm] at *); all_goals omega)) dX7_begin_71 (fun q71 nq71 h71 => ?_)
    have ha_71 := pq_nR (r := 196) (n := y68.toNatClampNeg) (ds := (fun _ => Value.null)) nq71 ha_30
    have hta_71 := pq_nR (r := 196) (n := y68.toNatClampNeg) (ds := (fun _ => Value.null)) nq71 hta_30
    have htb_71 := pq_nR (r := 196) (n := y68.toNatClampNeg) (ds := (fun _ => Value.null)) nq71 htb_30
    have hsn_71 := pq_nR (r := 196) (n := y68.toNatClampNeg) (ds := (fun _ => Value.null)) nq71 hsn_30
    have hy18_71 := pq_nR (r := 196) (n := y68.toNatClampNeg) (ds := (fun _ => Value.null)) nq71 hy18_30
    have hy30_71 := pq_nR (r := 196) (n := y68.toNatClampNeg) (ds := (fun _ => Value.null)) nq71 hy30
    have hM1 := pq_nM (r := 196) (n := y68.toNatClampNeg) (ds := fun _ => Value.null) nq71 (show pq_R (pq_uO S30 a 3 _) y18 164 from hy18_30)
    have hM2 := pq_nM (r := 196) (n := y68.toNatClampNeg) (ds := fun _ => Value.null) nq71 (show pq_R (pq_uO S30 a 3 _) y30 165 from hy30)
    have hM3 := pq_nN (S := pq_uO S30 a 3 (.ref y30)) (q := q71) (r := 196) (n := y68.toNatClampNeg) (ds := fun _ => Value.null)
    refine pq_put F ha_71 (by decide) lp_X7_21 rfl rfl (⟨by decide, _, rfl, h71⟩) dX7_begin_73 ?_
    refine pq_aload_n F dX7_begin_76 rfl rfl ?_
    refine pq_get F ha_71 (by decide) lk_X7_21 pq_ks dX7_begin_77 ?_
    refine pq_lconst (v := 0) F dX7_begin_80 (by decide) ?_
    refine pq_lenF h71 (by decide) rfl (fun lna81_0 lnb81_0 => ?_)
    refine pq_callS (As := [_, _]) F (k_J7_fill_d0a16 l D cy _ _ 196 ?_ ?_ ?_ _ ?_) ml_X7_80 (Nat.le_of_ble_eq_true rfl) ⟨Nat.le_of_ble_eq_true rfl, Nat.le_of_ble_eq_true rfl⟩ ⟨(by show _ ≤ 3; exact Nat.le_of_ble_eq_true rfl), (by show _ ≤ 8; focus ((try clear p18); (try clear p30); (try clear g81); simp only [vp_in_iff, Int32.lt_iff_toInt_lt, Int32.le_iff_toInt_le, ← Int32.toInt_inj, Int32.toInt_add, Int32.toInt_sub, Int32.toInt_mul, Int32.toInt_neg, pq_NuO, pq_NuI, pq_NuJ, pq_NuR, pq_shr6, pq_shr7, pq_shr8, lqm1, lq0, lq1, lq2, lq4, lq6, lq8] at *; (try simp (disch := omega) only [pq_bm] at *); all_goals omega))⟩ dX7_begin_81 (fun v81 S81 w81 => ?_)
    · exact h71
    · first | decide | omega
    · first | decide | omega
    · focus ((try clear p18); (try clear p30); (try clear g81); simp only [vp_in_iff, Int32.lt_iff_toInt_lt, Int32.le_iff_toInt_le, ← Int32.toInt_inj, Int32.toInt_add, Int32.toInt_sub, Int32.toInt_mul, Int32.toInt_neg, pq_NuO, pq_NuI, pq_NuJ, pq_NuR, pq_shr6, pq_shr7, pq_shr8, lqm1, lq0, lq1, lq2, lq4, lq6, lq8] at *; (try simp (disch := omega) only [pq_bm] at *); all_goals omega)
    obtain ⟨rfl, f81, rfl, g81⟩ := w81
    refine pq_aload_n F dX7_begin_84 rfl rfl ?_
    refine pq_get F ha_71 (by decide) lk_X7_15 (pq_kp (pq_nO nq71 ha_30 (pq_kp ec30_2_ha_30 (by decide))) (by decide)) dX7_begin_85 ?_
    refine pq_iconst (v := 0) F dX7_begin_88 (by decide) ?_
    refine pq_aload_n F dX7_begin_89 rfl rfl ?_
    refine pq_get F hta_71 (by decide) lk_X7_86 (pq_ko (pq_nO nq71 hta_30 (pq_ko ec30_6_hta_30 hta_30 ha_30 (by decide))) hta_71 ha_71 (by decide)) dX7_begin_90 ?_
    refine pq_bipush (v := 8) F dX7_begin_93 (by decide) ?_
    refine pq_ishl F dX7_begin_95 ?_
    refine pq_aload_n F dX7_begin_96 rfl rfl ?_
    refine pq_get F htb_71 (by decide) lk_X7_86 (pq_ko (pq_nO nq71 htb_30 (pq_ko ec30_6_htb_30 htb_30 ha_30 (by decide))) htb_71 ha_71 (by decide)) dX7_begin_97 ?_
    refine pq_ior F dX7_begin_100 ?_
    have z100 : ((0 : Int32) <<< (8 &&& 31) ||| 0).toInt = 0 := (by decide)
    refine pq_iast F hy18_71 (by decide) (by decide) rfl (fun n1_101 n2_101 => (by focus ((try clear p18); (try clear p30); (try clear g81); simp only [vp_in_iff, Int32.lt_iff_toInt_lt, Int32.le_iff_toInt_le, ← Int32.toInt_inj, Int32.toInt_add, Int32.toInt_sub, Int32.toInt_mul, Int32.toInt_neg, pq_NuO, pq_NuI, pq_NuJ, pq_NuR, pq_shr6, pq_shr7, pq_shr8, lqm1, lq0, lq1, lq2, lq4, lq6, lq8] at *; (try simp (disch := omega) only [pq_bm] at *); all_goals omega))) (⟨(by focus ((try clear p18); (try clear p30); (try clear g81); simp only [vp_in_iff, Int32.lt_iff_toInt_lt, Int32.le_iff_toInt_le, ← Int32.toInt_inj, Int32.toInt_add, Int32.toInt_sub, Int32.toInt_mul, Int32.toInt_neg, pq_NuO, pq_NuI, pq_NuJ, pq_NuR, pq_shr6, pq_shr7, pq_shr8, lqm1, lq0, lq1, lq2, lq4, lq6, lq8] at *; (try simp (disch := omega) only [pq_bm] at *); all_goals omega)), (by focus ((try clear p18); (try clear p30); (try clear g81); simp only [vp_in_iff, Int32.lt_iff_toInt_lt, Int32.le_iff_toInt_le, ← Int32.toInt_inj, Int32.toInt_add, Int32.toInt_sub, Int32.toInt_mul, Int32.toInt_neg, pq_NuO, pq_NuI, pq_NuJ, pq_NuR, pq_shr6, pq_shr7, pq_shr8, lqm1, lq0, lq1, lq2, lq4, lq6, lq8] at *; (try simp (disch := omega) only [pq_bm] at *); all_goals omega))⟩) dX7_begin_101 ?_
    refine pq_aload_n F dX7_begin_102 rfl rfl ?_
    refine pq_get F ha_71 (by decide) lk_X7_18 (pq_kp (pq_nO nq71 ha_30 pq_ks) (by decide)) dX7_begin_103 ?_
    refine pq_iconst (v := 0) F dX7_begin_106 (by decide) ?_
    refine pq_iconst (v := 0) F dX7_begin_107 (by decide) ?_
    refine pq_iast F hy30_71 (by decide) (by decide) rfl (fun n1_108 n2_108 => (by focus ((try clear p18); (try clear p30); (try clear g81); simp only [vp_in_iff, Int32.lt_iff_toInt_lt, Int32.le_iff_toInt_le, ← Int32.toInt_inj, Int32.toInt_add, Int32.toInt_sub, Int32.toInt_mul, Int32.toInt_neg, pq_NuO, pq_NuI, pq_NuJ, pq_NuR, pq_shr6, pq_shr7, pq_shr8, lqm1, lq0, lq1, lq2, lq4, lq6, lq8] at *; (try simp (disch := omega) only [pq_bm] at *); all_goals omega))) (⟨pq_any1 _, pq_any2 _⟩) dX7_begin_108 ?_
    refine pq_aload_n F dX7_begin_109 rfl rfl ?_
    refine pq_iconst (v := 1) F dX7_begin_110 (by decide) ?_
    refine pq_putI F ha_71 (by decide) lp_X7_50 rfl (by focus ((try clear p18); (try clear p30); (try clear g81); simp only [vp_in_iff, Int32.lt_iff_toInt_lt, Int32.le_iff_toInt_le, ← Int32.toInt_inj, Int32.toInt_add, Int32.toInt_sub, Int32.toInt_mul, Int32.toInt_neg, pq_NuO, pq_NuI, pq_NuJ, pq_NuR, pq_shr6, pq_shr7, pq_shr8, lqm1, lq0, lq1, lq2, lq4, lq6, lq8] at *; (try simp (disch := omega) only [pq_bm] at *); all_goals omega)) (by focus ((try clear p18); (try clear p30); (try clear g81); simp only [vp_in_iff, Int32.lt_iff_toInt_lt, Int32.le_iff_toInt_le, ← Int32.toInt_inj, Int32.toInt_add, Int32.toInt_sub, Int32.toInt_mul, Int32.toInt_neg, pq_NuO, pq_NuI, pq_NuJ, pq_NuR, pq_shr6, pq_shr7, pq_shr8, lqm1, lq0, lq1, lq2, lq4, lq6, lq8] at *; (try simp (disch := omega) only [pq_bm] at *); all_goals omega)) dX7_begin_111 ?_
    exact pq_vret F hr hlk hA (by show _ ≤ 3; exact Nat.le_of_ble_eq_true rfl) (by show _ ≤ 8; focus ((try clear p18); (try clear p30); (try clear g81); simp only [vp_in_iff, Int32.lt_iff_toInt_lt, Int32.le_iff_toInt_le, ← Int32.toInt_inj, Int32.toInt_add, Int32.toInt_sub, Int32.toInt_mul, Int32.toInt_neg, pq_NuO, pq_NuI, pq_NuJ, pq_NuR, pq_shr6, pq_shr7, pq_shr8, lqm1, lq0, lq1, lq2, lq4, lq6, lq8] at *; (try simp (disch := omega) only [pq_bm] at *); all_goals omega)) (⟨rfl, ((((((((((pq_Fr.rf.cm hF18 (by decide)).uO ha_18 (by decide)).cm hF30 (by decide)).uO ha_30 (by decide)).nw nq71).uO ha_71 (by decide)).uJ h71 (by first | decide | exact List.mem_cons_self)).uI hy18_71 (by first | decide | exact List.mem_cons_self)).uI hy30_71 (by first | decide | exact List.mem_cons_self)).uO ha_71 (by decide)), y18, y30, q71, ⟨⟨(pq_kp (pq_kp (pq_nO nq71 ha_30 (pq_kp ec30_2_ha_30 (by decide))) (by decide)) (by decide)), hy18_71⟩, ⟨(pq_kp (pq_kp (pq_nO nq71 ha_30 pq_ks) (by decide)) (by decide)), hy30_71⟩, (pq_kp pq_ks (by decide)), h71⟩, pq_ks, ⟨(by focus ((try clear p18); (try clear p30); (try clear g81); simp only [vp_in_iff, Int32.lt_iff_toInt_lt, Int32.le_iff_toInt_le, ← Int32.toInt_inj, Int32.toInt_add, Int32.toInt_sub, Int32.toInt_mul, Int32.toInt_neg, pq_NuO, pq_NuI, pq_NuJ, pq_NuR, pq_shr6, pq_shr7, pq_shr8, lqm1, lq0, lq1, lq2, lq4, lq6, lq8] at *; (try simp (disch := omega) only [pq_bm] at *); all_goals omega)), (by focus ((try clear p18); (try clear p30); (try clear g81); simp only [vp_in_iff, Int32.lt_iff_toInt_lt, Int32.le_iff_toInt_le, ← Int32.toInt_inj, Int32.toInt_add, Int32.toInt_sub, Int32.toInt_mul, Int32.toInt_neg, pq_NuO, pq_NuI, pq_NuJ, pq_NuR, pq_shr6, pq_shr7, pq_shr8, lqm1, lq0, lq1, lq2, lq4, lq6, lq8] at *; (try simp (disch := omega) only [pq_bm] at *); all_goals omega)), (by focus ((try clear p18); (try clear p30); (try clear g81); simp only [vp_in_iff, Int32.lt_iff_toInt_lt, Int32.le_iff_toInt_le, ← Int32.toInt_inj, Int32.toInt_add, Int32.toInt_sub, Int32.toInt_mul, Int32.toInt_neg, pq_NuO, pq_NuI, pq_NuJ, pq_NuR, pq_shr6, pq_shr7, pq_shr8, lqm1, lq0, lq1, lq2, lq4, lq6, lq8] at *; (try simp (disch := omega) only [pq_bm] at *); all_goals omega))⟩, (by have n1 := pq_nrole (show pq_R _ y18 164 from hy18_71) (show pq_R _ y30 165 from hy30_71) (by decide); simp only [pq_IuO, pq_IuJ, pq_Iu, pq_JuO, pq_JuI, pq_Ju, pq_RuO, pq_RuJ, pq_RuI, if_true, if_false, n1, n1.symm]; exact pk_us), (by simp only [pq_IuO, pq_IuJ, pq_Iu, pq_JuO, pq_JuI, pq_Ju, pq_RuO, pq_RuJ, pq_RuI, if_true, if_false]; exact pk_us), (by simp only [pq_IuO, pq_IuJ, pq_Iu, pq_JuO, pq_JuI, pq_Ju, pq_RuO, pq_RuJ, pq_RuI, if_true, if_false]; exact g81 0 (by focus ((try clear p18); (try clear p30); (try clear g81); simp only [vp_in_iff, Int32.lt_iff_toInt_lt, Int32.le_iff_toInt_le, ← Int32.toInt_inj, Int32.toInt_add, Int32.toInt_sub, Int32.toInt_mul, Int32.toInt_neg, pq_NuO, pq_NuI, pq_NuJ, pq_NuR, pq_shr6, pq_shr7, pq_shr8, lqm1, lq0, lq1, lq2, lq4, lq6, lq8] at *; (try simp (disch := omega) only [pq_bm] at *); all_goals omega)))⟩) dX7_begin_114

