set_option maxHeartbeats 4000000 in
set_option maxRecDepth 100000 in
theorem k_X2_becomeNoText (l : Launch) (D : va_G) (cy : Nat → ClassId) (S : HS) (a : Nat) (ha : pq_R S a 5) : pq_C l D cy yX2_becomeNoText cX2_becomeNoText 1 (none) 2 0 0 S [.ref a] (fun v S2 => v = none ∧ pq_Fr [(190, 0), (191, 0), (5, 2)] S S2) := by
  refine pq_start (by decide) (Nat.le_of_ble_eq_true rfl) ?_
  intro p e s m args below meth c A F hr hlk hnm hA
  have lqm1 : (-1 : Int32).toInt = -1 := rfl
  have lq0 : (0 : Int32).toInt = 0 := rfl
  have lq1 : (1 : Int32).toInt = 1 := rfl
  refine pq_aload_n F dX2_becomeNoText_0 rfl rfl ?_
  refine pq_getR F ha (by decide) lk_X2_9 rfl dX2_becomeNoText_1 (fun r1 e1 h1 => ?_)
  refine pq_lconst (v := 0) F dX2_becomeNoText_4 (by decide) ?_
  refine pq_lenF h1 (by decide) rfl (fun lna5_0 lnb5_0 => ?_)
  refine pq_callS (As := [_, _]) F (k_J7_fill_d0a16 l D cy _ _ 190 ?_ ?_ ?_ _ ?_) ml_X2_18 (Nat.le_of_ble_eq_true rfl) ⟨Nat.le_of_ble_eq_true rfl, Nat.le_of_ble_eq_true rfl⟩ ⟨by decide, by decide⟩ dX2_becomeNoText_5 (fun v5 S5 w5 => ?_)
  · exact h1
  · first | decide | omega
  · first | decide | omega
  · focus (simp only [vp_in_iff, Int32.lt_iff_toInt_lt, Int32.le_iff_toInt_le, ← Int32.toInt_inj, Int32.toInt_add, Int32.toInt_sub, Int32.toInt_mul, Int32.toInt_neg, pq_NuO, pq_NuI, pq_NuJ, pq_NuR, pq_shr6, pq_shr7, pq_shr8, lqm1, lq0, lq1] at *; (try simp (disch := omega) only [pq_bm] at *); all_goals omega)
  obtain ⟨rfl, f5, rfl, g5⟩ := w5
  refine pq_aload_n F dX2_becomeNoText_8 rfl rfl ?_
  refine pq_getR F ha (by decide) lk_X2_15 rfl dX2_becomeNoText_9 (fun r9 e9 h9 => ?_)
  refine pq_lconst (v := 0) F dX2_becomeNoText_12 (by decide) ?_
  refine pq_lenF h9 (by decide) rfl (fun lna13_0 lnb13_0 => ?_)
  refine pq_callS (As := [_, _]) F (k_J7_fill_d0a16 l D cy _ _ 191 ?_ ?_ ?_ _ ?_) ml_X2_18 (Nat.le_of_ble_eq_true rfl) ⟨Nat.le_of_ble_eq_true rfl, Nat.le_of_ble_eq_true rfl⟩ ⟨by decide, by decide⟩ dX2_becomeNoText_13 (fun v13 S13 w13 => ?_)
  · exact h9
  · first | decide | omega
  · first | decide | omega
  · focus (simp only [vp_in_iff, Int32.lt_iff_toInt_lt, Int32.le_iff_toInt_le, ← Int32.toInt_inj, Int32.toInt_add, Int32.toInt_sub, Int32.toInt_mul, Int32.toInt_neg, pq_NuO, pq_NuI, pq_NuJ, pq_NuR, pq_shr6, pq_shr7, pq_shr8, lqm1, lq0, lq1] at *; (try simp (disch := omega) only [pq_bm] at *); all_goals omega)
  obtain ⟨rfl, f13, rfl, g13⟩ := w13
  refine pq_aload_n F dX2_becomeNoText_16 rfl rfl ?_
  refine pq_iconst (v := 0) F dX2_becomeNoText_17 (by decide) ?_
  refine pq_putZ F ha (by decide) lp_X2_24 rfl (by focus (simp only [vp_in_iff, Int32.lt_iff_toInt_lt, Int32.le_iff_toInt_le, ← Int32.toInt_inj, Int32.toInt_add, Int32.toInt_sub, Int32.toInt_mul, Int32.toInt_neg, pq_NuO, pq_NuI, pq_NuJ, pq_NuR, pq_shr6, pq_shr7, pq_shr8, lqm1, lq0, lq1] at *; (try simp (disch := omega) only [pq_bm] at *); all_goals omega)) (by focus (simp only [vp_in_iff, Int32.lt_iff_toInt_lt, Int32.le_iff_toInt_le, ← Int32.toInt_inj, Int32.toInt_add, Int32.toInt_sub, Int32.toInt_mul, Int32.toInt_neg, pq_NuO, pq_NuI, pq_NuJ, pq_NuR, pq_shr6, pq_shr7, pq_shr8, lqm1, lq0, lq1] at *; (try simp (disch := omega) only [pq_bm] at *); all_goals omega)) dX2_becomeNoText_18 ?_
  exact pq_vret F hr hlk hA (Nat.le_refl _) (Nat.le_refl _) (⟨rfl, (((pq_Fr.rf.uJ h1 (by first | decide | exact List.mem_cons_self)).uJ h9 (by first | decide | exact List.mem_cons_self)).uO ha (by decide))⟩) dX2_becomeNoText_21

set_option maxHeartbeats 4000000 in
set_option maxRecDepth 100000 in
theorem k_X2_becomeEmptyText (l : Launch) (D : va_G) (cy : Nat → ClassId) (S : HS) (a : Nat) (ha : pq_R S a 5) : pq_C l D cy yX2_becomeEmptyText cX2_becomeEmptyText 1 (none) 3 0 0 S [.ref a] (fun v S2 => v = none ∧ pq_Fr [(190, 0), (191, 0), (5, 2)] S S2) := by
  refine pq_start (by decide) (Nat.le_of_ble_eq_true rfl) ?_
  intro p e s m args below meth c A F hr hlk hnm hA
  have lqm1 : (-1 : Int32).toInt = -1 := rfl
  have lq0 : (0 : Int32).toInt = 0 := rfl
  have lq1 : (1 : Int32).toInt = 1 := rfl
  refine pq_aload_n F dX2_becomeEmptyText_0 rfl rfl ?_
  refine pq_callV (As := []) F (k_X2_becomeNoText l D cy _ _ ?_) ml_X2_28 ha (by decide) rfl (Nat.le_of_ble_eq_true rfl) ⟨Nat.le_of_ble_eq_true rfl, Nat.le_of_ble_eq_true rfl⟩ ⟨by decide, by decide⟩ dX2_becomeEmptyText_1 (fun v1 S1 w1 => ?_)
  · exact ha
  obtain ⟨rfl, hF1⟩ := w1
  have ha_1 := (hF1.1 _ _ ha (by decide)).1
  refine pq_aload_n F dX2_becomeEmptyText_4 rfl rfl ?_
  refine pq_iconst (v := 1) F dX2_becomeEmptyText_5 (by decide) ?_
  refine pq_putZ F ha_1 (by decide) lp_X2_24 rfl (by focus (simp only [vp_in_iff, Int32.lt_iff_toInt_lt, Int32.le_iff_toInt_le, ← Int32.toInt_inj, Int32.toInt_add, Int32.toInt_sub, Int32.toInt_mul, Int32.toInt_neg, pq_NuO, pq_NuI, pq_NuJ, pq_NuR, pq_shr6, pq_shr7, pq_shr8, lqm1, lq0, lq1] at *; (try simp (disch := omega) only [pq_bm] at *); all_goals omega)) (by focus (simp only [vp_in_iff, Int32.lt_iff_toInt_lt, Int32.le_iff_toInt_le, ← Int32.toInt_inj, Int32.toInt_add, Int32.toInt_sub, Int32.toInt_mul, Int32.toInt_neg, pq_NuO, pq_NuI, pq_NuJ, pq_NuR, pq_shr6, pq_shr7, pq_shr8, lqm1, lq0, lq1] at *; (try simp (disch := omega) only [pq_bm] at *); all_goals omega)) dX2_becomeEmptyText_6 ?_
  exact pq_vret F hr hlk hA (Nat.le_refl _) (Nat.le_refl _) (⟨rfl, ((pq_Fr.rf.cm hF1 (by decide)).uO ha_1 (by decide))⟩) dX2_becomeEmptyText_9

set_option maxHeartbeats 4000000 in
set_option maxRecDepth 100000 in
theorem k_X2_becomePlace (l : Launch) (D : va_G) (cy : Nat → ClassId) (S : HS) (a : Nat) (ha : pq_R S a 5) (w : Int32) (hw0 : 0 ≤ w.toInt) (hw1 : w.toInt ≤ 399) : pq_C l D cy yX2_becomePlace cX2_becomePlace 2 (none) 3 0 0 S [.ref a, .int w] (fun v S2 => v = none ∧ pq_Fr [(190, 0), (191, 0), (5, 2)] S S2) := by
  refine pq_start (by decide) (Nat.le_of_ble_eq_true rfl) ?_
  intro p e s m args below meth c A F hr hlk hnm hA
  have lqm1 : (-1 : Int32).toInt = -1 := rfl
  have lq0 : (0 : Int32).toInt = 0 := rfl
  have lq1 : (1 : Int32).toInt = 1 := rfl
  refine pq_aload_n F dX2_becomePlace_0 rfl rfl ?_
  refine pq_callV (As := []) F (k_X2_becomeNoText l D cy _ _ ?_) ml_X2_28 ha (by decide) rfl (Nat.le_of_ble_eq_true rfl) ⟨Nat.le_of_ble_eq_true rfl, Nat.le_of_ble_eq_true rfl⟩ ⟨by decide, by decide⟩ dX2_becomePlace_1 (fun v1 S1 w1 => ?_)
  · exact ha
  obtain ⟨rfl, hF1⟩ := w1
  have ha_1 := (hF1.1 _ _ ha (by decide)).1
  refine pq_aload_n F dX2_becomePlace_4 rfl rfl ?_
  refine pq_getR F ha_1 (by decide) lk_X2_9 rfl dX2_becomePlace_5 (fun r5 e5 h5 => ?_)
  refine pq_iconst (v := 0) F dX2_becomePlace_8 (by decide) ?_
  refine pq_iload_n F dX2_becomePlace_9 rfl rfl ?_
  refine pq_lenF h5 (by decide) rfl (fun lna10_0 lnb10_0 => ?_)
  refine pq_callS (As := [_, _, _]) F (k_X10_addBit l D cy _ _ 190 ?_ ?_ ?_ _ ?_ _ ?_ ?_ ?_) ml_X2_31 (Nat.le_of_ble_eq_true rfl) ⟨Nat.le_of_ble_eq_true rfl, Nat.le_of_ble_eq_true rfl⟩ ⟨by decide, by decide⟩ dX2_becomePlace_10 (fun v10 S10 w10 => ?_)
  · exact h5
  · first | decide | omega
  · first | decide | omega
  · focus (simp only [vp_in_iff, Int32.lt_iff_toInt_lt, Int32.le_iff_toInt_le, ← Int32.toInt_inj, Int32.toInt_add, Int32.toInt_sub, Int32.toInt_mul, Int32.toInt_neg, pq_NuO, pq_NuI, pq_NuJ, pq_NuR, pq_shr6, pq_shr7, pq_shr8, lqm1, lq0, lq1] at *; (try simp (disch := omega) only [pq_bm] at *); all_goals omega)
  · focus (simp only [vp_in_iff, Int32.lt_iff_toInt_lt, Int32.le_iff_toInt_le, ← Int32.toInt_inj, Int32.toInt_add, Int32.toInt_sub, Int32.toInt_mul, Int32.toInt_neg, pq_NuO, pq_NuI, pq_NuJ, pq_NuR, pq_shr6, pq_shr7, pq_shr8, lqm1, lq0, lq1] at *; (try simp (disch := omega) only [pq_bm] at *); all_goals omega)
  · focus (simp only [vp_in_iff, Int32.lt_iff_toInt_lt, Int32.le_iff_toInt_le, ← Int32.toInt_inj, Int32.toInt_add, Int32.toInt_sub, Int32.toInt_mul, Int32.toInt_neg, pq_NuO, pq_NuI, pq_NuJ, pq_NuR, pq_shr6, pq_shr7, pq_shr8, lqm1, lq0, lq1] at *; (try simp (disch := omega) only [pq_bm] at *); all_goals omega)
  · focus (simp only [vp_in_iff, Int32.lt_iff_toInt_lt, Int32.le_iff_toInt_le, ← Int32.toInt_inj, Int32.toInt_add, Int32.toInt_sub, Int32.toInt_mul, Int32.toInt_neg, pq_NuO, pq_NuI, pq_NuJ, pq_NuR, pq_shr6, pq_shr7, pq_shr8, lqm1, lq0, lq1] at *; (try simp (disch := omega) only [pq_bm] at *); all_goals omega)
  obtain ⟨rfl, f10, rfl⟩ := w10
  refine pq_aload_n F dX2_becomePlace_13 rfl rfl ?_
  refine pq_getR F ha_1 (by decide) lk_X2_15 rfl dX2_becomePlace_14 (fun r14 e14 h14 => ?_)
  refine pq_iconst (v := 0) F dX2_becomePlace_17 (by decide) ?_
  refine pq_iload_n F dX2_becomePlace_18 rfl rfl ?_
  refine pq_lenF h14 (by decide) rfl (fun lna19_0 lnb19_0 => ?_)
  refine pq_callS (As := [_, _, _]) F (k_X10_addBit l D cy _ _ 191 ?_ ?_ ?_ _ ?_ _ ?_ ?_ ?_) ml_X2_31 (Nat.le_of_ble_eq_true rfl) ⟨Nat.le_of_ble_eq_true rfl, Nat.le_of_ble_eq_true rfl⟩ ⟨by decide, by decide⟩ dX2_becomePlace_19 (fun v19 S19 w19 => ?_)
  · exact h14
  · first | decide | omega
  · first | decide | omega
  · focus (simp only [vp_in_iff, Int32.lt_iff_toInt_lt, Int32.le_iff_toInt_le, ← Int32.toInt_inj, Int32.toInt_add, Int32.toInt_sub, Int32.toInt_mul, Int32.toInt_neg, pq_NuO, pq_NuI, pq_NuJ, pq_NuR, pq_shr6, pq_shr7, pq_shr8, lqm1, lq0, lq1] at *; (try simp (disch := omega) only [pq_bm] at *); all_goals omega)
  · focus (simp only [vp_in_iff, Int32.lt_iff_toInt_lt, Int32.le_iff_toInt_le, ← Int32.toInt_inj, Int32.toInt_add, Int32.toInt_sub, Int32.toInt_mul, Int32.toInt_neg, pq_NuO, pq_NuI, pq_NuJ, pq_NuR, pq_shr6, pq_shr7, pq_shr8, lqm1, lq0, lq1] at *; (try simp (disch := omega) only [pq_bm] at *); all_goals omega)
  · focus (simp only [vp_in_iff, Int32.lt_iff_toInt_lt, Int32.le_iff_toInt_le, ← Int32.toInt_inj, Int32.toInt_add, Int32.toInt_sub, Int32.toInt_mul, Int32.toInt_neg, pq_NuO, pq_NuI, pq_NuJ, pq_NuR, pq_shr6, pq_shr7, pq_shr8, lqm1, lq0, lq1] at *; (try simp (disch := omega) only [pq_bm] at *); all_goals omega)
  · focus (simp only [vp_in_iff, Int32.lt_iff_toInt_lt, Int32.le_iff_toInt_le, ← Int32.toInt_inj, Int32.toInt_add, Int32.toInt_sub, Int32.toInt_mul, Int32.toInt_neg, pq_NuO, pq_NuI, pq_NuJ, pq_NuR, pq_shr6, pq_shr7, pq_shr8, lqm1, lq0, lq1] at *; (try simp (disch := omega) only [pq_bm] at *); all_goals omega)
  obtain ⟨rfl, f19, rfl⟩ := w19
  exact pq_vret F hr hlk hA (Nat.le_refl _) (Nat.le_refl _) (⟨rfl, (((pq_Fr.rf.cm hF1 (by decide)).uJ h5 (by first | decide | exact List.mem_cons_self)).uJ h14 (by first | decide | exact List.mem_cons_self))⟩) dX2_becomePlace_22

set_option maxHeartbeats 4000000 in
set_option maxRecDepth 100000 in
theorem k_X2_become (l : Launch) (D : va_G) (cy : Nat → ClassId) (S : HS) (a : Nat) (ha : pq_R S a 5) (b : Nat) (hb : pq_R S b 5) : pq_C l D cy yX2_become cX2_become 2 (none) 1 0 0 S [.ref a, .ref b] (fun v S2 => v = none ∧ pq_Fr [(190, 0), (191, 0), (5, 2)] S S2) := by
  refine pq_start (by decide) (Nat.le_of_ble_eq_true rfl) ?_
  intro p e s m args below meth c A F hr hlk hnm hA
  have lqm1 : (-1 : Int32).toInt = -1 := rfl
  have lq0 : (0 : Int32).toInt = 0 := rfl
  have lq1 : (1 : Int32).toInt = 1 := rfl
  have lq7 : (7 : Int32).toInt = 7 := rfl
  refine pq_aload_n F dX2_become_0 rfl rfl ?_
  refine pq_getR F hb (by decide) lk_X2_9 rfl dX2_become_1 (fun r1 e1 h1 => ?_)
  refine pq_iconst (v := 0) F dX2_become_4 (by decide) ?_
  refine pq_aload_n F dX2_become_5 rfl rfl ?_
  refine pq_getR F ha (by decide) lk_X2_9 rfl dX2_become_6 (fun r6 e6 h6 => ?_)
  refine pq_iconst (v := 0) F dX2_become_9 (by decide) ?_
  refine pq_bipush (v := 7) F dX2_become_10 (by decide) ?_
  refine pq_lenF h1 (by decide) rfl (fun l1 l2 => ?_)
  refine pq_lenF h6 (by decide) rfl (fun l3 l4 => ?_)
  refine pq_copyJ F cw_X2_35 h1 h6 (by decide) (by decide) (by decide) (by decide) (by focus (simp only [vp_in_iff, Int32.lt_iff_toInt_lt, Int32.le_iff_toInt_le, ← Int32.toInt_inj, Int32.toInt_add, Int32.toInt_sub, Int32.toInt_mul, Int32.toInt_neg, pq_NuO, pq_NuI, pq_NuJ, pq_NuR, pq_shr6, pq_shr7, pq_shr8, lqm1, lq0, lq1, lq7] at *; (try simp (disch := omega) only [pq_bm] at *); all_goals omega)) (by focus (simp only [vp_in_iff, Int32.lt_iff_toInt_lt, Int32.le_iff_toInt_le, ← Int32.toInt_inj, Int32.toInt_add, Int32.toInt_sub, Int32.toInt_mul, Int32.toInt_neg, pq_NuO, pq_NuI, pq_NuJ, pq_NuR, pq_shr6, pq_shr7, pq_shr8, lqm1, lq0, lq1, lq7] at *; (try simp (disch := omega) only [pq_bm] at *); all_goals omega)) (by focus (simp only [vp_in_iff, Int32.lt_iff_toInt_lt, Int32.le_iff_toInt_le, ← Int32.toInt_inj, Int32.toInt_add, Int32.toInt_sub, Int32.toInt_mul, Int32.toInt_neg, pq_NuO, pq_NuI, pq_NuJ, pq_NuR, pq_shr6, pq_shr7, pq_shr8, lqm1, lq0, lq1, lq7] at *; (try simp (disch := omega) only [pq_bm] at *); all_goals omega)) (by show 0 + 7 ≤ _; focus (simp only [vp_in_iff, Int32.lt_iff_toInt_lt, Int32.le_iff_toInt_le, ← Int32.toInt_inj, Int32.toInt_add, Int32.toInt_sub, Int32.toInt_mul, Int32.toInt_neg, pq_NuO, pq_NuI, pq_NuJ, pq_NuR, pq_shr6, pq_shr7, pq_shr8, lqm1, lq0, lq1, lq7] at *; (try simp (disch := omega) only [pq_bm] at *); all_goals omega)) (by show 0 + 7 ≤ _; focus (simp only [vp_in_iff, Int32.lt_iff_toInt_lt, Int32.le_iff_toInt_le, ← Int32.toInt_inj, Int32.toInt_add, Int32.toInt_sub, Int32.toInt_mul, Int32.toInt_neg, pq_NuO, pq_NuI, pq_NuJ, pq_NuR, pq_shr6, pq_shr7, pq_shr8, lqm1, lq0, lq1, lq7] at *; (try simp (disch := omega) only [pq_bm] at *); all_goals omega)) ⟨Nat.le_of_ble_eq_true rfl, Nat.le_of_ble_eq_true rfl⟩ dX2_become_12 ?_
  refine pq_aload_n F dX2_become_15 rfl rfl ?_
  refine pq_getR F hb (by decide) lk_X2_15 rfl dX2_become_16 (fun r16 e16 h16 => ?_)
  refine pq_iconst (v := 0) F dX2_become_19 (by decide) ?_
  refine pq_aload_n F dX2_become_20 rfl rfl ?_
  refine pq_getR F ha (by decide) lk_X2_15 rfl dX2_become_21 (fun r21 e21 h21 => ?_)
  refine pq_iconst (v := 0) F dX2_become_24 (by decide) ?_
  refine pq_bipush (v := 7) F dX2_become_25 (by decide) ?_
  refine pq_lenF h16 (by decide) rfl (fun l1 l2 => ?_)
  refine pq_lenF h21 (by decide) rfl (fun l3 l4 => ?_)
  refine pq_copyJ F cw_X2_35 h16 h21 (by decide) (by decide) (by decide) (by decide) (by focus (simp only [vp_in_iff, Int32.lt_iff_toInt_lt, Int32.le_iff_toInt_le, ← Int32.toInt_inj, Int32.toInt_add, Int32.toInt_sub, Int32.toInt_mul, Int32.toInt_neg, pq_NuO, pq_NuI, pq_NuJ, pq_NuR, pq_shr6, pq_shr7, pq_shr8, lqm1, lq0, lq1, lq7] at *; (try simp (disch := omega) only [pq_bm] at *); all_goals omega)) (by focus (simp only [vp_in_iff, Int32.lt_iff_toInt_lt, Int32.le_iff_toInt_le, ← Int32.toInt_inj, Int32.toInt_add, Int32.toInt_sub, Int32.toInt_mul, Int32.toInt_neg, pq_NuO, pq_NuI, pq_NuJ, pq_NuR, pq_shr6, pq_shr7, pq_shr8, lqm1, lq0, lq1, lq7] at *; (try simp (disch := omega) only [pq_bm] at *); all_goals omega)) (by focus (simp only [vp_in_iff, Int32.lt_iff_toInt_lt, Int32.le_iff_toInt_le, ← Int32.toInt_inj, Int32.toInt_add, Int32.toInt_sub, Int32.toInt_mul, Int32.toInt_neg, pq_NuO, pq_NuI, pq_NuJ, pq_NuR, pq_shr6, pq_shr7, pq_shr8, lqm1, lq0, lq1, lq7] at *; (try simp (disch := omega) only [pq_bm] at *); all_goals omega)) (by show 0 + 7 ≤ _; focus (simp only [vp_in_iff, Int32.lt_iff_toInt_lt, Int32.le_iff_toInt_le, ← Int32.toInt_inj, Int32.toInt_add, Int32.toInt_sub, Int32.toInt_mul, Int32.toInt_neg, pq_NuO, pq_NuI, pq_NuJ, pq_NuR, pq_shr6, pq_shr7, pq_shr8, lqm1, lq0, lq1, lq7] at *; (try simp (disch := omega) only [pq_bm] at *); all_goals omega)) (by show 0 + 7 ≤ _; focus (simp only [vp_in_iff, Int32.lt_iff_toInt_lt, Int32.le_iff_toInt_le, ← Int32.toInt_inj, Int32.toInt_add, Int32.toInt_sub, Int32.toInt_mul, Int32.toInt_neg, pq_NuO, pq_NuI, pq_NuJ, pq_NuR, pq_shr6, pq_shr7, pq_shr8, lqm1, lq0, lq1, lq7] at *; (try simp (disch := omega) only [pq_bm] at *); all_goals omega)) ⟨Nat.le_of_ble_eq_true rfl, Nat.le_of_ble_eq_true rfl⟩ dX2_become_27 ?_
  refine pq_aload_n F dX2_become_30 rfl rfl ?_
  refine pq_aload_n F dX2_become_31 rfl rfl ?_
  refine pq_getI F hb (by decide) lk_X2_24 rfl dX2_become_32 (fun x32 e32 l32 u32 => ?_)
  refine pq_putZ F ha (by decide) lp_X2_24 rfl (by focus (simp only [vp_in_iff, Int32.lt_iff_toInt_lt, Int32.le_iff_toInt_le, ← Int32.toInt_inj, Int32.toInt_add, Int32.toInt_sub, Int32.toInt_mul, Int32.toInt_neg, pq_NuO, pq_NuI, pq_NuJ, pq_NuR, pq_shr6, pq_shr7, pq_shr8, lqm1, lq0, lq1, lq7] at *; (try simp (disch := omega) only [pq_bm] at *); all_goals omega)) (by focus (simp only [vp_in_iff, Int32.lt_iff_toInt_lt, Int32.le_iff_toInt_le, ← Int32.toInt_inj, Int32.toInt_add, Int32.toInt_sub, Int32.toInt_mul, Int32.toInt_neg, pq_NuO, pq_NuI, pq_NuJ, pq_NuR, pq_shr6, pq_shr7, pq_shr8, lqm1, lq0, lq1, lq7] at *; (try simp (disch := omega) only [pq_bm] at *); all_goals omega)) dX2_become_35 ?_
  exact pq_vret F hr hlk hA (Nat.le_refl _) (Nat.le_refl _) (⟨rfl, (((pq_Fr.rf.uJ h6 (by decide)).uJ h21 (by decide)).uO ha (by decide))⟩) dX2_become_38

set_option maxHeartbeats 4000000 in
set_option maxRecDepth 100000 in
theorem k_X2_addChoice (l : Launch) (D : va_G) (cy : Nat → ClassId) (S : HS) (a : Nat) (ha : pq_R S a 5) (b : Nat) (hb : pq_R S b 5) : pq_C l D cy yX2_addChoice cX2_addChoice 2 (none) 2 0 0 S [.ref a, .ref b] (fun v S2 => v = none ∧ pq_Fr [(190, 0), (191, 0), (5, 2)] S S2) := by
  refine pq_start (by decide) (Nat.le_of_ble_eq_true rfl) ?_
  intro p e s m args below meth c A F hr hlk hnm hA
  have lqm1 : (-1 : Int32).toInt = -1 := rfl
  have lq0 : (0 : Int32).toInt = 0 := rfl
  have lq1 : (1 : Int32).toInt = 1 := rfl
  refine pq_aload_n F dX2_addChoice_0 rfl rfl ?_
  refine pq_getR F ha (by decide) lk_X2_9 rfl dX2_addChoice_1 (fun r1 e1 h1 => ?_)
  refine pq_iconst (v := 0) F dX2_addChoice_4 (by decide) ?_
  refine pq_aload_n F dX2_addChoice_5 rfl rfl ?_
  refine pq_getR F hb (by decide) lk_X2_9 rfl dX2_addChoice_6 (fun r6 e6 h6 => ?_)
  refine pq_lenF h1 (by decide) rfl (fun lna9_0 lnb9_0 => ?_)
  refine pq_lenF h6 (by decide) rfl (fun lna9_2 lnb9_2 => ?_)
  refine pq_callS (As := [_, _, _]) F (k_X10_addAll l D cy _ _ 190 ?_ ?_ ?_ _ ?_ _ 190 ?_ ?_ ?_ ?_ ?_ ?_) ml_X2_41 (Nat.le_of_ble_eq_true rfl) ⟨Nat.le_of_ble_eq_true rfl, Nat.le_of_ble_eq_true rfl⟩ ⟨by decide, by decide⟩ dX2_addChoice_9 (fun v9 S9 w9 => ?_)
  · exact h1
  · first | decide | omega
  · first | decide | omega
  · focus (simp only [vp_in_iff, Int32.lt_iff_toInt_lt, Int32.le_iff_toInt_le, ← Int32.toInt_inj, Int32.toInt_add, Int32.toInt_sub, Int32.toInt_mul, Int32.toInt_neg, pq_NuO, pq_NuI, pq_NuJ, pq_NuR, pq_shr6, pq_shr7, pq_shr8, lqm1, lq0, lq1] at *; (try simp (disch := omega) only [pq_bm] at *); all_goals omega)
  · exact h6
  · first | decide | omega
  · first | decide | omega
  · focus (simp only [vp_in_iff, Int32.lt_iff_toInt_lt, Int32.le_iff_toInt_le, ← Int32.toInt_inj, Int32.toInt_add, Int32.toInt_sub, Int32.toInt_mul, Int32.toInt_neg, pq_NuO, pq_NuI, pq_NuJ, pq_NuR, pq_shr6, pq_shr7, pq_shr8, lqm1, lq0, lq1] at *; (try simp (disch := omega) only [pq_bm] at *); all_goals omega)
  · focus (simp only [vp_in_iff, Int32.lt_iff_toInt_lt, Int32.le_iff_toInt_le, ← Int32.toInt_inj, Int32.toInt_add, Int32.toInt_sub, Int32.toInt_mul, Int32.toInt_neg, pq_NuO, pq_NuI, pq_NuJ, pq_NuR, pq_shr6, pq_shr7, pq_shr8, lqm1, lq0, lq1] at *; (try simp (disch := omega) only [pq_bm] at *); all_goals omega)
  · focus (simp only [vp_in_iff, Int32.lt_iff_toInt_lt, Int32.le_iff_toInt_le, ← Int32.toInt_inj, Int32.toInt_add, Int32.toInt_sub, Int32.toInt_mul, Int32.toInt_neg, pq_NuO, pq_NuI, pq_NuJ, pq_NuR, pq_shr6, pq_shr7, pq_shr8, lqm1, lq0, lq1] at *; (try simp (disch := omega) only [pq_bm] at *); all_goals omega)
  obtain ⟨rfl, f9, rfl⟩ := w9
  refine pq_aload_n F dX2_addChoice_12 rfl rfl ?_
  refine pq_getR F ha (by decide) lk_X2_15 rfl dX2_addChoice_13 (fun r13 e13 h13 => ?_)
  refine pq_iconst (v := 0) F dX2_addChoice_16 (by decide) ?_
  refine pq_aload_n F dX2_addChoice_17 rfl rfl ?_
  refine pq_getR F hb (by decide) lk_X2_15 rfl dX2_addChoice_18 (fun r18 e18 h18 => ?_)
  refine pq_lenF h13 (by decide) rfl (fun lna21_0 lnb21_0 => ?_)
  refine pq_lenF h18 (by decide) rfl (fun lna21_2 lnb21_2 => ?_)
  refine pq_callS (As := [_, _, _]) F (k_X10_addAll l D cy _ _ 191 ?_ ?_ ?_ _ ?_ _ 191 ?_ ?_ ?_ ?_ ?_ ?_) ml_X2_41 (Nat.le_of_ble_eq_true rfl) ⟨Nat.le_of_ble_eq_true rfl, Nat.le_of_ble_eq_true rfl⟩ ⟨by decide, by decide⟩ dX2_addChoice_21 (fun v21 S21 w21 => ?_)
  · exact h13
  · first | decide | omega
  · first | decide | omega
  · focus (simp only [vp_in_iff, Int32.lt_iff_toInt_lt, Int32.le_iff_toInt_le, ← Int32.toInt_inj, Int32.toInt_add, Int32.toInt_sub, Int32.toInt_mul, Int32.toInt_neg, pq_NuO, pq_NuI, pq_NuJ, pq_NuR, pq_shr6, pq_shr7, pq_shr8, lqm1, lq0, lq1] at *; (try simp (disch := omega) only [pq_bm] at *); all_goals omega)
  · exact h18
  · first | decide | omega
  · first | decide | omega
  · focus (simp only [vp_in_iff, Int32.lt_iff_toInt_lt, Int32.le_iff_toInt_le, ← Int32.toInt_inj, Int32.toInt_add, Int32.toInt_sub, Int32.toInt_mul, Int32.toInt_neg, pq_NuO, pq_NuI, pq_NuJ, pq_NuR, pq_shr6, pq_shr7, pq_shr8, lqm1, lq0, lq1] at *; (try simp (disch := omega) only [pq_bm] at *); all_goals omega)
  · focus (simp only [vp_in_iff, Int32.lt_iff_toInt_lt, Int32.le_iff_toInt_le, ← Int32.toInt_inj, Int32.toInt_add, Int32.toInt_sub, Int32.toInt_mul, Int32.toInt_neg, pq_NuO, pq_NuI, pq_NuJ, pq_NuR, pq_shr6, pq_shr7, pq_shr8, lqm1, lq0, lq1] at *; (try simp (disch := omega) only [pq_bm] at *); all_goals omega)
  · focus (simp only [vp_in_iff, Int32.lt_iff_toInt_lt, Int32.le_iff_toInt_le, ← Int32.toInt_inj, Int32.toInt_add, Int32.toInt_sub, Int32.toInt_mul, Int32.toInt_neg, pq_NuO, pq_NuI, pq_NuJ, pq_NuR, pq_shr6, pq_shr7, pq_shr8, lqm1, lq0, lq1] at *; (try simp (disch := omega) only [pq_bm] at *); all_goals omega)
  obtain ⟨rfl, f21, rfl⟩ := w21
  refine pq_aload_n F dX2_addChoice_24 rfl rfl ?_
  refine pq_aload_n F dX2_addChoice_25 rfl rfl ?_
  refine pq_getI F ha (by decide) lk_X2_24 rfl dX2_addChoice_26 (fun x26 e26 l26 u26 => ?_)
  refine pq_if_ne (tgt := 39) F dX2_addChoice_29 (by decide) (fun c29 => ?_) (fun c29 => ?_)
  · skip
    refine pq_iconst (v := 1) F dX2_addChoice_39 (by decide) ?_
    refine pq_goto (tgt := 44) F dX2_addChoice_40 (by decide) ?_
    refine pq_putZ F ha (by decide) lp_X2_24 rfl (by focus (simp only [vp_in_iff, Int32.lt_iff_toInt_lt, Int32.le_iff_toInt_le, ← Int32.toInt_inj, Int32.toInt_add, Int32.toInt_sub, Int32.toInt_mul, Int32.toInt_neg, pq_NuO, pq_NuI, pq_NuJ, pq_NuR, pq_shr6, pq_shr7, pq_shr8, lqm1, lq0, lq1] at *; (try simp (disch := omega) only [pq_bm] at *); all_goals omega)) (by focus (simp only [vp_in_iff, Int32.lt_iff_toInt_lt, Int32.le_iff_toInt_le, ← Int32.toInt_inj, Int32.toInt_add, Int32.toInt_sub, Int32.toInt_mul, Int32.toInt_neg, pq_NuO, pq_NuI, pq_NuJ, pq_NuR, pq_shr6, pq_shr7, pq_shr8, lqm1, lq0, lq1] at *; (try simp (disch := omega) only [pq_bm] at *); all_goals omega)) dX2_addChoice_44 ?_
    exact pq_vret F hr hlk hA (Nat.le_refl _) (Nat.le_refl _) (⟨rfl, (((pq_Fr.rf.uJ h1 (by first | decide | exact List.mem_cons_self)).uJ h13 (by first | decide | exact List.mem_cons_self)).uO ha (by decide))⟩) dX2_addChoice_47
  · skip
    refine pq_aload_n F dX2_addChoice_32 rfl rfl ?_
    refine pq_getI F hb (by decide) lk_X2_24 rfl dX2_addChoice_33 (fun x33 e33 l33 u33 => ?_)
    refine pq_if_eq (tgt := 43) F dX2_addChoice_36 (by decide) (fun c36 => ?_) (fun c36 => ?_)
    · skip
      refine pq_iconst (v := 0) F dX2_addChoice_43 (by decide) ?_
      refine pq_putZ F ha (by decide) lp_X2_24 rfl (by focus (simp only [vp_in_iff, Int32.lt_iff_toInt_lt, Int32.le_iff_toInt_le, ← Int32.toInt_inj, Int32.toInt_add, Int32.toInt_sub, Int32.toInt_mul, Int32.toInt_neg, pq_NuO, pq_NuI, pq_NuJ, pq_NuR, pq_shr6, pq_shr7, pq_shr8, lqm1, lq0, lq1] at *; (try simp (disch := omega) only [pq_bm] at *); all_goals omega)) (by focus (simp only [vp_in_iff, Int32.lt_iff_toInt_lt, Int32.le_iff_toInt_le, ← Int32.toInt_inj, Int32.toInt_add, Int32.toInt_sub, Int32.toInt_mul, Int32.toInt_neg, pq_NuO, pq_NuI, pq_NuJ, pq_NuR, pq_shr6, pq_shr7, pq_shr8, lqm1, lq0, lq1] at *; (try simp (disch := omega) only [pq_bm] at *); all_goals omega)) dX2_addChoice_44 ?_
      exact pq_vret F hr hlk hA (Nat.le_refl _) (Nat.le_refl _) (⟨rfl, (((pq_Fr.rf.uJ h1 (by first | decide | exact List.mem_cons_self)).uJ h13 (by first | decide | exact List.mem_cons_self)).uO ha (by decide))⟩) dX2_addChoice_47
    · skip
      refine pq_iconst (v := 1) F dX2_addChoice_39 (by decide) ?_
      refine pq_goto (tgt := 44) F dX2_addChoice_40 (by decide) ?_
      refine pq_putZ F ha (by decide) lp_X2_24 rfl (by focus (simp only [vp_in_iff, Int32.lt_iff_toInt_lt, Int32.le_iff_toInt_le, ← Int32.toInt_inj, Int32.toInt_add, Int32.toInt_sub, Int32.toInt_mul, Int32.toInt_neg, pq_NuO, pq_NuI, pq_NuJ, pq_NuR, pq_shr6, pq_shr7, pq_shr8, lqm1, lq0, lq1] at *; (try simp (disch := omega) only [pq_bm] at *); all_goals omega)) (by focus (simp only [vp_in_iff, Int32.lt_iff_toInt_lt, Int32.le_iff_toInt_le, ← Int32.toInt_inj, Int32.toInt_add, Int32.toInt_sub, Int32.toInt_mul, Int32.toInt_neg, pq_NuO, pq_NuI, pq_NuJ, pq_NuR, pq_shr6, pq_shr7, pq_shr8, lqm1, lq0, lq1] at *; (try simp (disch := omega) only [pq_bm] at *); all_goals omega)) dX2_addChoice_44 ?_
      exact pq_vret F hr hlk hA (Nat.le_refl _) (Nat.le_refl _) (⟨rfl, (((pq_Fr.rf.uJ h1 (by first | decide | exact List.mem_cons_self)).uJ h13 (by first | decide | exact List.mem_cons_self)).uO ha (by decide))⟩) dX2_addChoice_47

set_option maxHeartbeats 4000000 in
set_option maxRecDepth 100000 in
theorem k_X2_append (l : Launch) (D : va_G) (cy : Nat → ClassId) (S : HS) (a : Nat) (ha : pq_R S a 5) (b : Nat) (hb : pq_R S b 5) : pq_C l D cy yX2_append cX2_append 2 (none) 2 0 0 S [.ref a, .ref b] (fun v S2 => v = none ∧ pq_Fr [(190, 0), (191, 0), (5, 2)] S S2) := by
  refine pq_start (by decide) (Nat.le_of_ble_eq_true rfl) ?_
  intro p e s m args below meth c A F hr hlk hnm hA
  have lqm1 : (-1 : Int32).toInt = -1 := rfl
  have lq0 : (0 : Int32).toInt = 0 := rfl
  have lq1 : (1 : Int32).toInt = 1 := rfl
  refine pq_aload_n F dX2_append_0 rfl rfl ?_
  refine pq_getI F ha (by decide) lk_X2_24 rfl dX2_append_1 (fun x1 e1 l1 u1 => ?_)
  refine pq_if_eq (tgt := 19) F dX2_append_4 (by decide) (fun c4 => ?_) (fun c4 => ?_)
  · skip
    refine pq_aload_n F dX2_append_19 rfl rfl ?_
    refine pq_getI F hb (by decide) lk_X2_24 rfl dX2_append_20 (fun x20 e20 l20 u20 => ?_)
    refine pq_if_ne (tgt := 34) F dX2_append_23 (by decide) (fun c23 => ?_) (fun c23 => ?_)
    · skip
      refine pq_aload_n F dX2_append_34 rfl rfl ?_
      refine pq_getR F ha (by decide) lk_X2_15 rfl dX2_append_35 (fun r35 e35 h35 => ?_)
      refine pq_iconst (v := 0) F dX2_append_38 (by decide) ?_
      refine pq_aload_n F dX2_append_39 rfl rfl ?_
      refine pq_getR F hb (by decide) lk_X2_15 rfl dX2_append_40 (fun r40 e40 h40 => ?_)
      refine pq_lenF h35 (by decide) rfl (fun lna43_0 lnb43_0 => ?_)
      refine pq_lenF h40 (by decide) rfl (fun lna43_2 lnb43_2 => ?_)
      refine pq_callS (As := [_, _, _]) F (k_X10_addAll l D cy _ _ 191 ?_ ?_ ?_ _ ?_ _ 191 ?_ ?_ ?_ ?_ ?_ ?_) ml_X2_41 (Nat.le_of_ble_eq_true rfl) ⟨Nat.le_of_ble_eq_true rfl, Nat.le_of_ble_eq_true rfl⟩ ⟨by decide, by decide⟩ dX2_append_43 (fun v43 S43 w43 => ?_)
      · exact h35
      · first | decide | omega
      · first | decide | omega
      · focus (simp only [vp_in_iff, Int32.lt_iff_toInt_lt, Int32.le_iff_toInt_le, ← Int32.toInt_inj, Int32.toInt_add, Int32.toInt_sub, Int32.toInt_mul, Int32.toInt_neg, pq_NuO, pq_NuI, pq_NuJ, pq_NuR, pq_shr6, pq_shr7, pq_shr8, lqm1, lq0, lq1] at *; (try simp (disch := omega) only [pq_bm] at *); all_goals omega)
      · exact h40
      · first | decide | omega
      · first | decide | omega
      · focus (simp only [vp_in_iff, Int32.lt_iff_toInt_lt, Int32.le_iff_toInt_le, ← Int32.toInt_inj, Int32.toInt_add, Int32.toInt_sub, Int32.toInt_mul, Int32.toInt_neg, pq_NuO, pq_NuI, pq_NuJ, pq_NuR, pq_shr6, pq_shr7, pq_shr8, lqm1, lq0, lq1] at *; (try simp (disch := omega) only [pq_bm] at *); all_goals omega)
      · focus (simp only [vp_in_iff, Int32.lt_iff_toInt_lt, Int32.le_iff_toInt_le, ← Int32.toInt_inj, Int32.toInt_add, Int32.toInt_sub, Int32.toInt_mul, Int32.toInt_neg, pq_NuO, pq_NuI, pq_NuJ, pq_NuR, pq_shr6, pq_shr7, pq_shr8, lqm1, lq0, lq1] at *; (try simp (disch := omega) only [pq_bm] at *); all_goals omega)
      · focus (simp only [vp_in_iff, Int32.lt_iff_toInt_lt, Int32.le_iff_toInt_le, ← Int32.toInt_inj, Int32.toInt_add, Int32.toInt_sub, Int32.toInt_mul, Int32.toInt_neg, pq_NuO, pq_NuI, pq_NuJ, pq_NuR, pq_shr6, pq_shr7, pq_shr8, lqm1, lq0, lq1] at *; (try simp (disch := omega) only [pq_bm] at *); all_goals omega)
      obtain ⟨rfl, f43, rfl⟩ := w43
      refine pq_aload_n F dX2_append_46 rfl rfl ?_
      refine pq_aload_n F dX2_append_47 rfl rfl ?_
      refine pq_get F ha (by decide) lk_X2_24 e1 dX2_append_48 ?_
      refine pq_if_eq (tgt := 65) F dX2_append_51 (by decide) (fun c51 => ?_) (fun c51 => ?_)
      · skip
        refine pq_iconst (v := 0) F dX2_append_65 (by decide) ?_
        refine pq_putZ F ha (by decide) lp_X2_24 rfl (by focus (simp only [vp_in_iff, Int32.lt_iff_toInt_lt, Int32.le_iff_toInt_le, ← Int32.toInt_inj, Int32.toInt_add, Int32.toInt_sub, Int32.toInt_mul, Int32.toInt_neg, pq_NuO, pq_NuI, pq_NuJ, pq_NuR, pq_shr6, pq_shr7, pq_shr8, lqm1, lq0, lq1] at *; (try simp (disch := omega) only [pq_bm] at *); all_goals omega)) (by focus (simp only [vp_in_iff, Int32.lt_iff_toInt_lt, Int32.le_iff_toInt_le, ← Int32.toInt_inj, Int32.toInt_add, Int32.toInt_sub, Int32.toInt_mul, Int32.toInt_neg, pq_NuO, pq_NuI, pq_NuJ, pq_NuR, pq_shr6, pq_shr7, pq_shr8, lqm1, lq0, lq1] at *; (try simp (disch := omega) only [pq_bm] at *); all_goals omega)) dX2_append_66 ?_
        exact pq_vret F hr hlk hA (Nat.le_refl _) (Nat.le_refl _) (⟨rfl, ((pq_Fr.rf.uJ h35 (by first | decide | exact List.mem_cons_self)).uO ha (by decide))⟩) dX2_append_69
      · skip
        refine pq_aload_n F dX2_append_54 rfl rfl ?_
        refine pq_get F hb (by decide) lk_X2_24 e20 dX2_append_55 ?_
        refine pq_if_eq (tgt := 65) F dX2_append_58 (by decide) (fun c58 => ?_) (fun c58 => ?_)
        · skip
          refine pq_iconst (v := 0) F dX2_append_65 (by decide) ?_
          refine pq_putZ F ha (by decide) lp_X2_24 rfl (by focus (simp only [vp_in_iff, Int32.lt_iff_toInt_lt, Int32.le_iff_toInt_le, ← Int32.toInt_inj, Int32.toInt_add, Int32.toInt_sub, Int32.toInt_mul, Int32.toInt_neg, pq_NuO, pq_NuI, pq_NuJ, pq_NuR, pq_shr6, pq_shr7, pq_shr8, lqm1, lq0, lq1] at *; (try simp (disch := omega) only [pq_bm] at *); all_goals omega)) (by focus (simp only [vp_in_iff, Int32.lt_iff_toInt_lt, Int32.le_iff_toInt_le, ← Int32.toInt_inj, Int32.toInt_add, Int32.toInt_sub, Int32.toInt_mul, Int32.toInt_neg, pq_NuO, pq_NuI, pq_NuJ, pq_NuR, pq_shr6, pq_shr7, pq_shr8, lqm1, lq0, lq1] at *; (try simp (disch := omega) only [pq_bm] at *); all_goals omega)) dX2_append_66 ?_
          exact pq_vret F hr hlk hA (Nat.le_refl _) (Nat.le_refl _) (⟨rfl, ((pq_Fr.rf.uJ h35 (by first | decide | exact List.mem_cons_self)).uO ha (by decide))⟩) dX2_append_69
        · skip
          refine pq_iconst (v := 1) F dX2_append_61 (by decide) ?_
          refine pq_goto (tgt := 66) F dX2_append_62 (by decide) ?_
          refine pq_putZ F ha (by decide) lp_X2_24 rfl (by focus (simp only [vp_in_iff, Int32.lt_iff_toInt_lt, Int32.le_iff_toInt_le, ← Int32.toInt_inj, Int32.toInt_add, Int32.toInt_sub, Int32.toInt_mul, Int32.toInt_neg, pq_NuO, pq_NuI, pq_NuJ, pq_NuR, pq_shr6, pq_shr7, pq_shr8, lqm1, lq0, lq1] at *; (try simp (disch := omega) only [pq_bm] at *); all_goals omega)) (by focus (simp only [vp_in_iff, Int32.lt_iff_toInt_lt, Int32.le_iff_toInt_le, ← Int32.toInt_inj, Int32.toInt_add, Int32.toInt_sub, Int32.toInt_mul, Int32.toInt_neg, pq_NuO, pq_NuI, pq_NuJ, pq_NuR, pq_shr6, pq_shr7, pq_shr8, lqm1, lq0, lq1] at *; (try simp (disch := omega) only [pq_bm] at *); all_goals omega)) dX2_append_66 ?_
          exact pq_vret F hr hlk hA (Nat.le_refl _) (Nat.le_refl _) (⟨rfl, ((pq_Fr.rf.uJ h35 (by first | decide | exact List.mem_cons_self)).uO ha (by decide))⟩) dX2_append_69
    · skip
      refine pq_aload_n F dX2_append_26 rfl rfl ?_
      refine pq_getR F ha (by decide) lk_X2_15 rfl dX2_append_27 (fun r27 e27 h27 => ?_)
      refine pq_lconst (v := 0) F dX2_append_30 (by decide) ?_
      refine pq_lenF h27 (by decide) rfl (fun lna31_0 lnb31_0 => ?_)
      refine pq_callS (As := [_, _]) F (k_J7_fill_d0a16 l D cy _ _ 191 ?_ ?_ ?_ _ ?_) ml_X2_18 (Nat.le_of_ble_eq_true rfl) ⟨Nat.le_of_ble_eq_true rfl, Nat.le_of_ble_eq_true rfl⟩ ⟨by decide, by decide⟩ dX2_append_31 (fun v31 S31 w31 => ?_)
      · exact h27
      · first | decide | omega
      · first | decide | omega
      · focus (simp only [vp_in_iff, Int32.lt_iff_toInt_lt, Int32.le_iff_toInt_le, ← Int32.toInt_inj, Int32.toInt_add, Int32.toInt_sub, Int32.toInt_mul, Int32.toInt_neg, pq_NuO, pq_NuI, pq_NuJ, pq_NuR, pq_shr6, pq_shr7, pq_shr8, lqm1, lq0, lq1] at *; (try simp (disch := omega) only [pq_bm] at *); all_goals omega)
      obtain ⟨rfl, f31, rfl, g31⟩ := w31
      refine pq_aload_n F dX2_append_34 rfl rfl ?_
      refine pq_get F ha (by decide) lk_X2_15 e27 dX2_append_35 ?_
      refine pq_iconst (v := 0) F dX2_append_38 (by decide) ?_
      refine pq_aload_n F dX2_append_39 rfl rfl ?_
      refine pq_getR F hb (by decide) lk_X2_15 rfl dX2_append_40 (fun r40 e40 h40 => ?_)
      refine pq_lenF h27 (by decide) rfl (fun lna43_0 lnb43_0 => ?_)
      refine pq_lenF h40 (by decide) rfl (fun lna43_2 lnb43_2 => ?_)
      refine pq_callS (As := [_, _, _]) F (k_X10_addAll l D cy _ _ 191 ?_ ?_ ?_ _ ?_ _ 191 ?_ ?_ ?_ ?_ ?_ ?_) ml_X2_41 (Nat.le_of_ble_eq_true rfl) ⟨Nat.le_of_ble_eq_true rfl, Nat.le_of_ble_eq_true rfl⟩ ⟨by decide, by decide⟩ dX2_append_43 (fun v43 S43 w43 => ?_)
      · exact h27
      · first | decide | omega
      · first | decide | omega
      · focus (simp only [vp_in_iff, Int32.lt_iff_toInt_lt, Int32.le_iff_toInt_le, ← Int32.toInt_inj, Int32.toInt_add, Int32.toInt_sub, Int32.toInt_mul, Int32.toInt_neg, pq_NuO, pq_NuI, pq_NuJ, pq_NuR, pq_shr6, pq_shr7, pq_shr8, lqm1, lq0, lq1] at *; (try simp (disch := omega) only [pq_bm] at *); all_goals omega)
      · exact h40
      · first | decide | omega
      · first | decide | omega
      · focus (simp only [vp_in_iff, Int32.lt_iff_toInt_lt, Int32.le_iff_toInt_le, ← Int32.toInt_inj, Int32.toInt_add, Int32.toInt_sub, Int32.toInt_mul, Int32.toInt_neg, pq_NuO, pq_NuI, pq_NuJ, pq_NuR, pq_shr6, pq_shr7, pq_shr8, lqm1, lq0, lq1] at *; (try simp (disch := omega) only [pq_bm] at *); all_goals omega)
      · focus (simp only [vp_in_iff, Int32.lt_iff_toInt_lt, Int32.le_iff_toInt_le, ← Int32.toInt_inj, Int32.toInt_add, Int32.toInt_sub, Int32.toInt_mul, Int32.toInt_neg, pq_NuO, pq_NuI, pq_NuJ, pq_NuR, pq_shr6, pq_shr7, pq_shr8, lqm1, lq0, lq1] at *; (try simp (disch := omega) only [pq_bm] at *); all_goals omega)
      · focus (simp only [vp_in_iff, Int32.lt_iff_toInt_lt, Int32.le_iff_toInt_le, ← Int32.toInt_inj, Int32.toInt_add, Int32.toInt_sub, Int32.toInt_mul, Int32.toInt_neg, pq_NuO, pq_NuI, pq_NuJ, pq_NuR, pq_shr6, pq_shr7, pq_shr8, lqm1, lq0, lq1] at *; (try simp (disch := omega) only [pq_bm] at *); all_goals omega)
      obtain ⟨rfl, f43, rfl⟩ := w43
      refine pq_aload_n F dX2_append_46 rfl rfl ?_
      refine pq_aload_n F dX2_append_47 rfl rfl ?_
      refine pq_get F ha (by decide) lk_X2_24 e1 dX2_append_48 ?_
      refine pq_if_eq (tgt := 65) F dX2_append_51 (by decide) (fun c51 => ?_) (fun c51 => ?_)
      · skip
        refine pq_iconst (v := 0) F dX2_append_65 (by decide) ?_
        refine pq_putZ F ha (by decide) lp_X2_24 rfl (by focus (simp only [vp_in_iff, Int32.lt_iff_toInt_lt, Int32.le_iff_toInt_le, ← Int32.toInt_inj, Int32.toInt_add, Int32.toInt_sub, Int32.toInt_mul, Int32.toInt_neg, pq_NuO, pq_NuI, pq_NuJ, pq_NuR, pq_shr6, pq_shr7, pq_shr8, lqm1, lq0, lq1] at *; (try simp (disch := omega) only [pq_bm] at *); all_goals omega)) (by focus (simp only [vp_in_iff, Int32.lt_iff_toInt_lt, Int32.le_iff_toInt_le, ← Int32.toInt_inj, Int32.toInt_add, Int32.toInt_sub, Int32.toInt_mul, Int32.toInt_neg, pq_NuO, pq_NuI, pq_NuJ, pq_NuR, pq_shr6, pq_shr7, pq_shr8, lqm1, lq0, lq1] at *; (try simp (disch := omega) only [pq_bm] at *); all_goals omega)) dX2_append_66 ?_
        exact pq_vret F hr hlk hA (Nat.le_refl _) (Nat.le_refl _) (⟨rfl, (((pq_Fr.rf.uJ h27 (by first | decide | exact List.mem_cons_self)).uJ h27 (by first | decide | exact List.mem_cons_self)).uO ha (by decide))⟩) dX2_append_69
      · skip
        refine pq_aload_n F dX2_append_54 rfl rfl ?_
        refine pq_get F hb (by decide) lk_X2_24 e20 dX2_append_55 ?_
        refine pq_if_eq (tgt := 65) F dX2_append_58 (by decide) (fun c58 => ?_) (fun c58 => ?_)
        · skip
          refine pq_iconst (v := 0) F dX2_append_65 (by decide) ?_
          refine pq_putZ F ha (by decide) lp_X2_24 rfl (by focus (simp only [vp_in_iff, Int32.lt_iff_toInt_lt, Int32.le_iff_toInt_le, ← Int32.toInt_inj, Int32.toInt_add, Int32.toInt_sub, Int32.toInt_mul, Int32.toInt_neg, pq_NuO, pq_NuI, pq_NuJ, pq_NuR, pq_shr6, pq_shr7, pq_shr8, lqm1, lq0, lq1] at *; (try simp (disch := omega) only [pq_bm] at *); all_goals omega)) (by focus (simp only [vp_in_iff, Int32.lt_iff_toInt_lt, Int32.le_iff_toInt_le, ← Int32.toInt_inj, Int32.toInt_add, Int32.toInt_sub, Int32.toInt_mul, Int32.toInt_neg, pq_NuO, pq_NuI, pq_NuJ, pq_NuR, pq_shr6, pq_shr7, pq_shr8, lqm1, lq0, lq1] at *; (try simp (disch := omega) only [pq_bm] at *); all_goals omega)) dX2_append_66 ?_
          exact pq_vret F hr hlk hA (Nat.le_refl _) (Nat.le_refl _) (⟨rfl, (((pq_Fr.rf.uJ h27 (by first | decide | exact List.mem_cons_self)).uJ h27 (by first | decide | exact List.mem_cons_self)).uO ha (by decide))⟩) dX2_append_69
        · skip
          refine pq_iconst (v := 1) F dX2_append_61 (by decide) ?_
          refine pq_goto (tgt := 66) F dX2_append_62 (by decide) ?_
          refine pq_putZ F ha (by decide) lp_X2_24 rfl (by focus (simp only [vp_in_iff, Int32.lt_iff_toInt_lt, Int32.le_iff_toInt_le, ← Int32.toInt_inj, Int32.toInt_add, Int32.toInt_sub, Int32.toInt_mul, Int32.toInt_neg, pq_NuO, pq_NuI, pq_NuJ, pq_NuR, pq_shr6, pq_shr7, pq_shr8, lqm1, lq0, lq1] at *; (try simp (disch := omega) only [pq_bm] at *); all_goals omega)) (by focus (simp only [vp_in_iff, Int32.lt_iff_toInt_lt, Int32.le_iff_toInt_le, ← Int32.toInt_inj, Int32.toInt_add, Int32.toInt_sub, Int32.toInt_mul, Int32.toInt_neg, pq_NuO, pq_NuI, pq_NuJ, pq_NuR, pq_shr6, pq_shr7, pq_shr8, lqm1, lq0, lq1] at *; (try simp (disch := omega) only [pq_bm] at *); all_goals omega)) dX2_append_66 ?_
          exact pq_vret F hr hlk hA (Nat.le_refl _) (Nat.le_refl _) (⟨rfl, (((pq_Fr.rf.uJ h27 (by first | decide | exact List.mem_cons_self)).uJ h27 (by first | decide | exact List.mem_cons_self)).uO ha (by decide))⟩) dX2_append_69
  · skip
    refine pq_aload_n F dX2_append_7 rfl rfl ?_
    refine pq_getR F ha (by decide) lk_X2_9 rfl dX2_append_8 (fun r8 e8 h8 => ?_)
    refine pq_iconst (v := 0) F dX2_append_11 (by decide) ?_
    refine pq_aload_n F dX2_append_12 rfl rfl ?_
    refine pq_getR F hb (by decide) lk_X2_9 rfl dX2_append_13 (fun r13 e13 h13 => ?_)
    refine pq_lenF h8 (by decide) rfl (fun lna16_0 lnb16_0 => ?_)
    refine pq_lenF h13 (by decide) rfl (fun lna16_2 lnb16_2 => ?_)
    refine pq_callS (As := [_, _, _]) F (k_X10_addAll l D cy _ _ 190 ?_ ?_ ?_ _ ?_ _ 190 ?_ ?_ ?_ ?_ ?_ ?_) ml_X2_41 (Nat.le_of_ble_eq_true rfl) ⟨Nat.le_of_ble_eq_true rfl, Nat.le_of_ble_eq_true rfl⟩ ⟨by decide, by decide⟩ dX2_append_16 (fun v16 S16 w16 => ?_)
    · exact h8
    · first | decide | omega
    · first | decide | omega
    · focus (simp only [vp_in_iff, Int32.lt_iff_toInt_lt, Int32.le_iff_toInt_le, ← Int32.toInt_inj, Int32.toInt_add, Int32.toInt_sub, Int32.toInt_mul, Int32.toInt_neg, pq_NuO, pq_NuI, pq_NuJ, pq_NuR, pq_shr6, pq_shr7, pq_shr8, lqm1, lq0, lq1] at *; (try simp (disch := omega) only [pq_bm] at *); all_goals omega)
    · exact h13
    · first | decide | omega
    · first | decide | omega
    · focus (simp only [vp_in_iff, Int32.lt_iff_toInt_lt, Int32.le_iff_toInt_le, ← Int32.toInt_inj, Int32.toInt_add, Int32.toInt_sub, Int32.toInt_mul, Int32.toInt_neg, pq_NuO, pq_NuI, pq_NuJ, pq_NuR, pq_shr6, pq_shr7, pq_shr8, lqm1, lq0, lq1] at *; (try simp (disch := omega) only [pq_bm] at *); all_goals omega)
    · focus (simp only [vp_in_iff, Int32.lt_iff_toInt_lt, Int32.le_iff_toInt_le, ← Int32.toInt_inj, Int32.toInt_add, Int32.toInt_sub, Int32.toInt_mul, Int32.toInt_neg, pq_NuO, pq_NuI, pq_NuJ, pq_NuR, pq_shr6, pq_shr7, pq_shr8, lqm1, lq0, lq1] at *; (try simp (disch := omega) only [pq_bm] at *); all_goals omega)
    · focus (simp only [vp_in_iff, Int32.lt_iff_toInt_lt, Int32.le_iff_toInt_le, ← Int32.toInt_inj, Int32.toInt_add, Int32.toInt_sub, Int32.toInt_mul, Int32.toInt_neg, pq_NuO, pq_NuI, pq_NuJ, pq_NuR, pq_shr6, pq_shr7, pq_shr8, lqm1, lq0, lq1] at *; (try simp (disch := omega) only [pq_bm] at *); all_goals omega)
    obtain ⟨rfl, f16, rfl⟩ := w16
    refine pq_aload_n F dX2_append_19 rfl rfl ?_
    refine pq_getI F hb (by decide) lk_X2_24 rfl dX2_append_20 (fun x20 e20 l20 u20 => ?_)
    refine pq_if_ne (tgt := 34) F dX2_append_23 (by decide) (fun c23 => ?_) (fun c23 => ?_)
    · skip
      refine pq_aload_n F dX2_append_34 rfl rfl ?_
      refine pq_getR F ha (by decide) lk_X2_15 rfl dX2_append_35 (fun r35 e35 h35 => ?_)
      refine pq_iconst (v := 0) F dX2_append_38 (by decide) ?_
      refine pq_aload_n F dX2_append_39 rfl rfl ?_
      refine pq_getR F hb (by decide) lk_X2_15 rfl dX2_append_40 (fun r40 e40 h40 => ?_)
      refine pq_lenF h35 (by decide) rfl (fun lna43_0 lnb43_0 => ?_)
      refine pq_lenF h40 (by decide) rfl (fun lna43_2 lnb43_2 => ?_)
      refine pq_callS (As := [_, _, _]) F (k_X10_addAll l D cy _ _ 191 ?_ ?_ ?_ _ ?_ _ 191 ?_ ?_ ?_ ?_ ?_ ?_) ml_X2_41 (Nat.le_of_ble_eq_true rfl) ⟨Nat.le_of_ble_eq_true rfl, Nat.le_of_ble_eq_true rfl⟩ ⟨by decide, by decide⟩ dX2_append_43 (fun v43 S43 w43 => ?_)
      · exact h35
      · first | decide | omega
      · first | decide | omega
      · focus (simp only [vp_in_iff, Int32.lt_iff_toInt_lt, Int32.le_iff_toInt_le, ← Int32.toInt_inj, Int32.toInt_add, Int32.toInt_sub, Int32.toInt_mul, Int32.toInt_neg, pq_NuO, pq_NuI, pq_NuJ, pq_NuR, pq_shr6, pq_shr7, pq_shr8, lqm1, lq0, lq1] at *; (try simp (disch := omega) only [pq_bm] at *); all_goals omega)
      · exact h40
      · first | decide | omega
      · first | decide | omega
      · focus (simp only [vp_in_iff, Int32.lt_iff_toInt_lt, Int32.le_iff_toInt_le, ← Int32.toInt_inj, Int32.toInt_add, Int32.toInt_sub, Int32.toInt_mul, Int32.toInt_neg, pq_NuO, pq_NuI, pq_NuJ, pq_NuR, pq_shr6, pq_shr7, pq_shr8, lqm1, lq0, lq1] at *; (try simp (disch := omega) only [pq_bm] at *); all_goals omega)
      · focus (simp only [vp_in_iff, Int32.lt_iff_toInt_lt, Int32.le_iff_toInt_le, ← Int32.toInt_inj, Int32.toInt_add, Int32.toInt_sub, Int32.toInt_mul, Int32.toInt_neg, pq_NuO, pq_NuI, pq_NuJ, pq_NuR, pq_shr6, pq_shr7, pq_shr8, lqm1, lq0, lq1] at *; (try simp (disch := omega) only [pq_bm] at *); all_goals omega)
      · focus (simp only [vp_in_iff, Int32.lt_iff_toInt_lt, Int32.le_iff_toInt_le, ← Int32.toInt_inj, Int32.toInt_add, Int32.toInt_sub, Int32.toInt_mul, Int32.toInt_neg, pq_NuO, pq_NuI, pq_NuJ, pq_NuR, pq_shr6, pq_shr7, pq_shr8, lqm1, lq0, lq1] at *; (try simp (disch := omega) only [pq_bm] at *); all_goals omega)
      obtain ⟨rfl, f43, rfl⟩ := w43
      refine pq_aload_n F dX2_append_46 rfl rfl ?_
      refine pq_aload_n F dX2_append_47 rfl rfl ?_
      refine pq_get F ha (by decide) lk_X2_24 e1 dX2_append_48 ?_
      refine pq_if_eq (tgt := 65) F dX2_append_51 (by decide) (fun c51 => ?_) (fun c51 => ?_)
      · skip
        refine pq_iconst (v := 0) F dX2_append_65 (by decide) ?_
        refine pq_putZ F ha (by decide) lp_X2_24 rfl (by focus (simp only [vp_in_iff, Int32.lt_iff_toInt_lt, Int32.le_iff_toInt_le, ← Int32.toInt_inj, Int32.toInt_add, Int32.toInt_sub, Int32.toInt_mul, Int32.toInt_neg, pq_NuO, pq_NuI, pq_NuJ, pq_NuR, pq_shr6, pq_shr7, pq_shr8, lqm1, lq0, lq1] at *; (try simp (disch := omega) only [pq_bm] at *); all_goals omega)) (by focus (simp only [vp_in_iff, Int32.lt_iff_toInt_lt, Int32.le_iff_toInt_le, ← Int32.toInt_inj, Int32.toInt_add, Int32.toInt_sub, Int32.toInt_mul, Int32.toInt_neg, pq_NuO, pq_NuI, pq_NuJ, pq_NuR, pq_shr6, pq_shr7, pq_shr8, lqm1, lq0, lq1] at *; (try simp (disch := omega) only [pq_bm] at *); all_goals omega)) dX2_append_66 ?_
        exact pq_vret F hr hlk hA (Nat.le_refl _) (Nat.le_refl _) (⟨rfl, (((pq_Fr.rf.uJ h8 (by first | decide | exact List.mem_cons_self)).uJ h35 (by first | decide | exact List.mem_cons_self)).uO ha (by decide))⟩) dX2_append_69
      · skip
        refine pq_aload_n F dX2_append_54 rfl rfl ?_
        refine pq_get F hb (by decide) lk_X2_24 e20 dX2_append_55 ?_
        refine pq_if_eq (tgt := 65) F dX2_append_58 (by decide) (fun c58 => ?_) (fun c58 => ?_)
        · skip
          refine pq_iconst (v := 0) F dX2_append_65 (by decide) ?_
          refine pq_putZ F ha (by decide) lp_X2_24 rfl (by focus (simp only [vp_in_iff, Int32.lt_iff_toInt_lt, Int32.le_iff_toInt_le, ← Int32.toInt_inj, Int32.toInt_add, Int32.toInt_sub, Int32.toInt_mul, Int32.toInt_neg, pq_NuO, pq_NuI, pq_NuJ, pq_NuR, pq_shr6, pq_shr7, pq_shr8, lqm1, lq0, lq1] at *; (try simp (disch := omega) only [pq_bm] at *); all_goals omega)) (by focus (simp only [vp_in_iff, Int32.lt_iff_toInt_lt, Int32.le_iff_toInt_le, ← Int32.toInt_inj, Int32.toInt_add, Int32.toInt_sub, Int32.toInt_mul, Int32.toInt_neg, pq_NuO, pq_NuI, pq_NuJ, pq_NuR, pq_shr6, pq_shr7, pq_shr8, lqm1, lq0, lq1] at *; (try simp (disch := omega) only [pq_bm] at *); all_goals omega)) dX2_append_66 ?_
          exact pq_vret F hr hlk hA (Nat.le_refl _) (Nat.le_refl _) (⟨rfl, (((pq_Fr.rf.uJ h8 (by first | decide | exact List.mem_cons_self)).uJ h35 (by first | decide | exact List.mem_cons_self)).uO ha (by decide))⟩) dX2_append_69
        · skip
          refine pq_iconst (v := 1) F dX2_append_61 (by decide) ?_
          refine pq_goto (tgt := 66) F dX2_append_62 (by decide) ?_
          refine pq_putZ F ha (by decide) lp_X2_24 rfl (by focus (simp only [vp_in_iff, Int32.lt_iff_toInt_lt, Int32.le_iff_toInt_le, ← Int32.toInt_inj, Int32.toInt_add, Int32.toInt_sub, Int32.toInt_mul, Int32.toInt_neg, pq_NuO, pq_NuI, pq_NuJ, pq_NuR, pq_shr6, pq_shr7, pq_shr8, lqm1, lq0, lq1] at *; (try simp (disch := omega) only [pq_bm] at *); all_goals omega)) (by focus (simp only [vp_in_iff, Int32.lt_iff_toInt_lt, Int32.le_iff_toInt_le, ← Int32.toInt_inj, Int32.toInt_add, Int32.toInt_sub, Int32.toInt_mul, Int32.toInt_neg, pq_NuO, pq_NuI, pq_NuJ, pq_NuR, pq_shr6, pq_shr7, pq_shr8, lqm1, lq0, lq1] at *; (try simp (disch := omega) only [pq_bm] at *); all_goals omega)) dX2_append_66 ?_
          exact pq_vret F hr hlk hA (Nat.le_refl _) (Nat.le_refl _) (⟨rfl, (((pq_Fr.rf.uJ h8 (by first | decide | exact List.mem_cons_self)).uJ h35 (by first | decide | exact List.mem_cons_self)).uO ha (by decide))⟩) dX2_append_69
    · skip
      refine pq_aload_n F dX2_append_26 rfl rfl ?_
      refine pq_getR F ha (by decide) lk_X2_15 rfl dX2_append_27 (fun r27 e27 h27 => ?_)
      refine pq_lconst (v := 0) F dX2_append_30 (by decide) ?_
      refine pq_lenF h27 (by decide) rfl (fun lna31_0 lnb31_0 => ?_)
      refine pq_callS (As := [_, _]) F (k_J7_fill_d0a16 l D cy _ _ 191 ?_ ?_ ?_ _ ?_) ml_X2_18 (Nat.le_of_ble_eq_true rfl) ⟨Nat.le_of_ble_eq_true rfl, Nat.le_of_ble_eq_true rfl⟩ ⟨by decide, by decide⟩ dX2_append_31 (fun v31 S31 w31 => ?_)
      · exact h27
      · first | decide | omega
      · first | decide | omega
      · focus (simp only [vp_in_iff, Int32.lt_iff_toInt_lt, Int32.le_iff_toInt_le, ← Int32.toInt_inj, Int32.toInt_add, Int32.toInt_sub, Int32.toInt_mul, Int32.toInt_neg, pq_NuO, pq_NuI, pq_NuJ, pq_NuR, pq_shr6, pq_shr7, pq_shr8, lqm1, lq0, lq1] at *; (try simp (disch := omega) only [pq_bm] at *); all_goals omega)
      obtain ⟨rfl, f31, rfl, g31⟩ := w31
      refine pq_aload_n F dX2_append_34 rfl rfl ?_
      refine pq_get F ha (by decide) lk_X2_15 e27 dX2_append_35 ?_
      refine pq_iconst (v := 0) F dX2_append_38 (by decide) ?_
      refine pq_aload_n F dX2_append_39 rfl rfl ?_
      refine pq_getR F hb (by decide) lk_X2_15 rfl dX2_append_40 (fun r40 e40 h40 => ?_)
      refine pq_lenF h27 (by decide) rfl (fun lna43_0 lnb43_0 => ?_)
      refine pq_lenF h40 (by decide) rfl (fun lna43_2 lnb43_2 => ?_)
      refine pq_callS (As := [_, _, _]) F (k_X10_addAll l D cy _ _ 191 ?_ ?_ ?_ _ ?_ _ 191 ?_ ?_ ?_ ?_ ?_ ?_) ml_X2_41 (Nat.le_of_ble_eq_true rfl) ⟨Nat.le_of_ble_eq_true rfl, Nat.le_of_ble_eq_true rfl⟩ ⟨by decide, by decide⟩ dX2_append_43 (fun v43 S43 w43 => ?_)
      · exact h27
      · first | decide | omega
      · first | decide | omega
      · focus (simp only [vp_in_iff, Int32.lt_iff_toInt_lt, Int32.le_iff_toInt_le, ← Int32.toInt_inj, Int32.toInt_add, Int32.toInt_sub, Int32.toInt_mul, Int32.toInt_neg, pq_NuO, pq_NuI, pq_NuJ, pq_NuR, pq_shr6, pq_shr7, pq_shr8, lqm1, lq0, lq1] at *; (try simp (disch := omega) only [pq_bm] at *); all_goals omega)
      · exact h40
      · first | decide | omega
      · first | decide | omega
      · focus (simp only [vp_in_iff, Int32.lt_iff_toInt_lt, Int32.le_iff_toInt_le, ← Int32.toInt_inj, Int32.toInt_add, Int32.toInt_sub, Int32.toInt_mul, Int32.toInt_neg, pq_NuO, pq_NuI, pq_NuJ, pq_NuR, pq_shr6, pq_shr7, pq_shr8, lqm1, lq0, lq1] at *; (try simp (disch := omega) only [pq_bm] at *); all_goals omega)
      · focus (simp only [vp_in_iff, Int32.lt_iff_toInt_lt, Int32.le_iff_toInt_le, ← Int32.toInt_inj, Int32.toInt_add, Int32.toInt_sub, Int32.toInt_mul, Int32.toInt_neg, pq_NuO, pq_NuI, pq_NuJ, pq_NuR, pq_shr6, pq_shr7, pq_shr8, lqm1, lq0, lq1] at *; (try simp (disch := omega) only [pq_bm] at *); all_goals omega)
      · focus (simp only [vp_in_iff, Int32.lt_iff_toInt_lt, Int32.le_iff_toInt_le, ← Int32.toInt_inj, Int32.toInt_add, Int32.toInt_sub, Int32.toInt_mul, Int32.toInt_neg, pq_NuO, pq_NuI, pq_NuJ, pq_NuR, pq_shr6, pq_shr7, pq_shr8, lqm1, lq0, lq1] at *; (try simp (disch := omega) only [pq_bm] at *); all_goals omega)
      obtain ⟨rfl, f43, rfl⟩ := w43
      refine pq_aload_n F dX2_append_46 rfl rfl ?_
      refine pq_aload_n F dX2_append_47 rfl rfl ?_
      refine pq_get F ha (by decide) lk_X2_24 e1 dX2_append_48 ?_
      refine pq_if_eq (tgt := 65) F dX2_append_51 (by decide) (fun c51 => ?_) (fun c51 => ?_)
      · skip
        refine pq_iconst (v := 0) F dX2_append_65 (by decide) ?_
        refine pq_putZ F ha (by decide) lp_X2_24 rfl (by focus (simp only [vp_in_iff, Int32.lt_iff_toInt_lt, Int32.le_iff_toInt_le, ← Int32.toInt_inj, Int32.toInt_add, Int32.toInt_sub, Int32.toInt_mul, Int32.toInt_neg, pq_NuO, pq_NuI, pq_NuJ, pq_NuR, pq_shr6, pq_shr7, pq_shr8, lqm1, lq0, lq1] at *; (try simp (disch := omega) only [pq_bm] at *); all_goals omega)) (by focus (simp only [vp_in_iff, Int32.lt_iff_toInt_lt, Int32.le_iff_toInt_le, ← Int32.toInt_inj, Int32.toInt_add, Int32.toInt_sub, Int32.toInt_mul, Int32.toInt_neg, pq_NuO, pq_NuI, pq_NuJ, pq_NuR, pq_shr6, pq_shr7, pq_shr8, lqm1, lq0, lq1] at *; (try simp (disch := omega) only [pq_bm] at *); all_goals omega)) dX2_append_66 ?_
        exact pq_vret F hr hlk hA (Nat.le_refl _) (Nat.le_refl _) (⟨rfl, ((((pq_Fr.rf.uJ h8 (by first | decide | exact List.mem_cons_self)).uJ h27 (by first | decide | exact List.mem_cons_self)).uJ h27 (by first | decide | exact List.mem_cons_self)).uO ha (by decide))⟩) dX2_append_69
      · skip
        refine pq_aload_n F dX2_append_54 rfl rfl ?_
        refine pq_get F hb (by decide) lk_X2_24 e20 dX2_append_55 ?_
        refine pq_if_eq (tgt := 65) F dX2_append_58 (by decide) (fun c58 => ?_) (fun c58 => ?_)
        · skip
          refine pq_iconst (v := 0) F dX2_append_65 (by decide) ?_
          refine pq_putZ F ha (by decide) lp_X2_24 rfl (by focus (simp only [vp_in_iff, Int32.lt_iff_toInt_lt, Int32.le_iff_toInt_le, ← Int32.toInt_inj, Int32.toInt_add, Int32.toInt_sub, Int32.toInt_mul, Int32.toInt_neg, pq_NuO, pq_NuI, pq_NuJ, pq_NuR, pq_shr6, pq_shr7, pq_shr8, lqm1, lq0, lq1] at *; (try simp (disch := omega) only [pq_bm] at *); all_goals omega)) (by focus (simp only [vp_in_iff, Int32.lt_iff_toInt_lt, Int32.le_iff_toInt_le, ← Int32.toInt_inj, Int32.toInt_add, Int32.toInt_sub, Int32.toInt_mul, Int32.toInt_neg, pq_NuO, pq_NuI, pq_NuJ, pq_NuR, pq_shr6, pq_shr7, pq_shr8, lqm1, lq0, lq1] at *; (try simp (disch := omega) only [pq_bm] at *); all_goals omega)) dX2_append_66 ?_
          exact pq_vret F hr hlk hA (Nat.le_refl _) (Nat.le_refl _) (⟨rfl, ((((pq_Fr.rf.uJ h8 (by first | decide | exact List.mem_cons_self)).uJ h27 (by first | decide | exact List.mem_cons_self)).uJ h27 (by first | decide | exact List.mem_cons_self)).uO ha (by decide))⟩) dX2_append_69
        · skip
          refine pq_iconst (v := 1) F dX2_append_61 (by decide) ?_
          refine pq_goto (tgt := 66) F dX2_append_62 (by decide) ?_
          refine pq_putZ F ha (by decide) lp_X2_24 rfl (by focus (simp only [vp_in_iff, Int32.lt_iff_toInt_lt, Int32.le_iff_toInt_le, ← Int32.toInt_inj, Int32.toInt_add, Int32.toInt_sub, Int32.toInt_mul, Int32.toInt_neg, pq_NuO, pq_NuI, pq_NuJ, pq_NuR, pq_shr6, pq_shr7, pq_shr8, lqm1, lq0, lq1] at *; (try simp (disch := omega) only [pq_bm] at *); all_goals omega)) (by focus (simp only [vp_in_iff, Int32.lt_iff_toInt_lt, Int32.le_iff_toInt_le, ← Int32.toInt_inj, Int32.toInt_add, Int32.toInt_sub, Int32.toInt_mul, Int32.toInt_neg, pq_NuO, pq_NuI, pq_NuJ, pq_NuR, pq_shr6, pq_shr7, pq_shr8, lqm1, lq0, lq1] at *; (try simp (disch := omega) only [pq_bm] at *); all_goals omega)) dX2_append_66 ?_
          exact pq_vret F hr hlk hA (Nat.le_refl _) (Nat.le_refl _) (⟨rfl, ((((pq_Fr.rf.uJ h8 (by first | decide | exact List.mem_cons_self)).uJ h27 (by first | decide | exact List.mem_cons_self)).uJ h27 (by first | decide | exact List.mem_cons_self)).uO ha (by decide))⟩) dX2_append_69

set_option maxHeartbeats 4000000 in
set_option maxRecDepth 100000 in
theorem k_X5_clear (l : Launch) (D : va_G) (cy : Nat → ClassId) (S : HS) (a : Nat) (ha : pq_R S a 8) (tk : Nat) (e0 : hO S a 0 = .ref tk) (htk : pq_R S tk 194) : pq_C l D cy yX5_clear cX5_clear 1 (none) 2 0 0 S [.ref a] (fun v S2 => v = none ∧ pq_Fr [(194, 0), (8, 3)] S S2 ∧ (hO S2 a 3 = .int 0 ∧ ∀ i : Nat, i < hN S tk → hJ S2 tk i = 0)) := by
  refine pq_start (by decide) (Nat.le_of_ble_eq_true rfl) ?_
  intro p e s m args below meth c A F hr hlk hnm hA
  have lqm1 : (-1 : Int32).toInt = -1 := rfl
  have lq0 : (0 : Int32).toInt = 0 := rfl
  have lq1 : (1 : Int32).toInt = 1 := rfl
  refine pq_aload_n F dX5_clear_0 rfl rfl ?_
  refine pq_get F ha (by decide) lk_X5_9 e0 dX5_clear_1 ?_
  refine pq_lconst (v := 0) F dX5_clear_4 (by decide) ?_
  refine pq_lenF htk (by decide) rfl (fun lna5_0 lnb5_0 => ?_)
  refine pq_callS (As := [_, _]) F (k_J7_fill_d0a16 l D cy _ _ 194 ?_ ?_ ?_ _ ?_) ml_X5_25 (Nat.le_of_ble_eq_true rfl) ⟨Nat.le_of_ble_eq_true rfl, Nat.le_of_ble_eq_true rfl⟩ ⟨by decide, by decide⟩ dX5_clear_5 (fun v5 S5 w5 => ?_)
  · exact htk
  · first | decide | omega
  · first | decide | omega
  · focus (simp only [vp_in_iff, Int32.lt_iff_toInt_lt, Int32.le_iff_toInt_le, ← Int32.toInt_inj, Int32.toInt_add, Int32.toInt_sub, Int32.toInt_mul, Int32.toInt_neg, pq_NuO, pq_NuI, pq_NuJ, pq_NuR, pq_shr6, pq_shr7, pq_shr8, lqm1, lq0, lq1] at *; (try simp (disch := omega) only [pq_bm] at *); all_goals omega)
  obtain ⟨rfl, f5, rfl, g5⟩ := w5
  refine pq_aload_n F dX5_clear_8 rfl rfl ?_
  refine pq_iconst (v := 0) F dX5_clear_9 (by decide) ?_
  refine pq_putI F ha (by decide) lp_X5_31 rfl (by focus (simp only [vp_in_iff, Int32.lt_iff_toInt_lt, Int32.le_iff_toInt_le, ← Int32.toInt_inj, Int32.toInt_add, Int32.toInt_sub, Int32.toInt_mul, Int32.toInt_neg, pq_NuO, pq_NuI, pq_NuJ, pq_NuR, pq_shr6, pq_shr7, pq_shr8, lqm1, lq0, lq1] at *; (try simp (disch := omega) only [pq_bm] at *); all_goals omega)) (by focus (simp only [vp_in_iff, Int32.lt_iff_toInt_lt, Int32.le_iff_toInt_le, ← Int32.toInt_inj, Int32.toInt_add, Int32.toInt_sub, Int32.toInt_mul, Int32.toInt_neg, pq_NuO, pq_NuI, pq_NuJ, pq_NuR, pq_shr6, pq_shr7, pq_shr8, lqm1, lq0, lq1] at *; (try simp (disch := omega) only [pq_bm] at *); all_goals omega)) dX5_clear_10 ?_
  exact pq_vret F hr hlk hA (Nat.le_refl _) (Nat.le_refl _) (⟨rfl, ((pq_Fr.rf.uJ htk (by first | decide | exact List.mem_cons_self)).uO ha (by decide)), pq_ks, fun i hi => (by show hJ (pq_uJ S tk f5) tk i = 0; rw [pq_Ja]; exact g5 i hi)⟩) dX5_clear_13

set_option maxHeartbeats 4000000 in
set_option maxRecDepth 100000 in
theorem k_X5_isFull (l : Launch) (D : va_G) (cy : Nat → ClassId) (S : HS) (a : Nat) (ha : pq_R S a 8) : pq_C l D cy yX5_isFull cX5_isFull 1 (some .boolean) 1 0 0 S [.ref a] (fun v S2 => S2 = S ∧ ∃ x : Int32, v = some (.int x) ∧ 0 ≤ x.toInt ∧ x.toInt ≤ 1 ∧ (x = 0 → ∀ t : Int32, hO S a 3 = .int t → t.toInt < 400)) := by
  refine pq_start (by decide) (Nat.le_of_ble_eq_true rfl) ?_
  intro p e s m args below meth c A F hr hlk hnm hA
  have lqm1 : (-1 : Int32).toInt = -1 := rfl
  have lq0 : (0 : Int32).toInt = 0 := rfl
  have lq1 : (1 : Int32).toInt = 1 := rfl
  have lq400 : (400 : Int32).toInt = 400 := rfl
  refine pq_aload_n F dX5_isFull_0 rfl rfl ?_
  refine pq_getI F ha (by decide) lk_X5_31 rfl dX5_isFull_1 (fun x1 e1 l1 u1 => ?_)
  refine pq_sipush (v := 400) F dX5_isFull_4 (by decide) ?_
  refine pq_icmp_lt (tgt := 14) F dX5_isFull_7 (by decide) (fun c7 => ?_) (fun c7 => ?_)
  · skip
    refine pq_iconst (v := 0) F dX5_isFull_14 (by decide) ?_
    exact pq_zret F hr hlk hA rfl (Nat.le_refl _) (Nat.le_refl _) (⟨rfl, 0, rfl, (by focus (simp only [vp_in_iff, Int32.lt_iff_toInt_lt, Int32.le_iff_toInt_le, ← Int32.toInt_inj, Int32.toInt_add, Int32.toInt_sub, Int32.toInt_mul, Int32.toInt_neg, pq_NuO, pq_NuI, pq_NuJ, pq_NuR, pq_shr6, pq_shr7, pq_shr8, lqm1, lq0, lq1, lq400] at *; (try simp (disch := omega) only [pq_bm] at *); all_goals omega)), (by focus (simp only [vp_in_iff, Int32.lt_iff_toInt_lt, Int32.le_iff_toInt_le, ← Int32.toInt_inj, Int32.toInt_add, Int32.toInt_sub, Int32.toInt_mul, Int32.toInt_neg, pq_NuO, pq_NuI, pq_NuJ, pq_NuR, pq_shr6, pq_shr7, pq_shr8, lqm1, lq0, lq1, lq400] at *; (try simp (disch := omega) only [pq_bm] at *); all_goals omega)), fun _ t ht => (by rw [e1] at ht; cases ht; focus (simp only [vp_in_iff, Int32.lt_iff_toInt_lt, Int32.le_iff_toInt_le, ← Int32.toInt_inj, Int32.toInt_add, Int32.toInt_sub, Int32.toInt_mul, Int32.toInt_neg, pq_NuO, pq_NuI, pq_NuJ, pq_NuR, pq_shr6, pq_shr7, pq_shr8, lqm1, lq0, lq1, lq400] at *; (try simp (disch := omega) only [pq_bm] at *); all_goals omega))⟩) dX5_isFull_15
  · skip
    refine pq_iconst (v := 1) F dX5_isFull_10 (by decide) ?_
    refine pq_goto (tgt := 15) F dX5_isFull_11 (by decide) ?_
    exact pq_zret F hr hlk hA rfl (Nat.le_refl _) (Nat.le_refl _) (⟨rfl, 1, rfl, (by focus (simp only [vp_in_iff, Int32.lt_iff_toInt_lt, Int32.le_iff_toInt_le, ← Int32.toInt_inj, Int32.toInt_add, Int32.toInt_sub, Int32.toInt_mul, Int32.toInt_neg, pq_NuO, pq_NuI, pq_NuJ, pq_NuR, pq_shr6, pq_shr7, pq_shr8, lqm1, lq0, lq1, lq400] at *; (try simp (disch := omega) only [pq_bm] at *); all_goals omega)), (by focus (simp only [vp_in_iff, Int32.lt_iff_toInt_lt, Int32.le_iff_toInt_le, ← Int32.toInt_inj, Int32.toInt_add, Int32.toInt_sub, Int32.toInt_mul, Int32.toInt_neg, pq_NuO, pq_NuI, pq_NuJ, pq_NuR, pq_shr6, pq_shr7, pq_shr8, lqm1, lq0, lq1, lq400] at *; (try simp (disch := omega) only [pq_bm] at *); all_goals omega)), fun z => absurd z (by decide)⟩) dX5_isFull_15

set_option maxHeartbeats 4000000 in
set_option maxRecDepth 100000 in
theorem k_X5_add (l : Launch) (D : va_G) (cy : Nat → ClassId) (S : HS) (a : Nat) (ha : pq_R S a 8) (lw : Int64) (hg : Int64) (t : Int32) (ht : hO S a 3 = .int t) (ht1 : t.toInt < 400) (ht0 : 0 ≤ t.toInt) : pq_C l D cy yX5_add cX5_add 7 (some .int) 3 0 0 S [.ref a, .long lw, .long hg] (fun v S2 => pq_Fr [(194, 0), (195, 0), (8, 3)] S S2 ∧ ∃ x : Int32, v = some (.int x) ∧ 0 ≤ x.toInt ∧ x.toInt ≤ 399) := by
  refine pq_start (by decide) (Nat.le_of_ble_eq_true rfl) ?_
  intro p e s m args below meth c A F hr hlk hnm hA
  have lqm1 : (-1 : Int32).toInt = -1 := rfl
  have lq0 : (0 : Int32).toInt = 0 := rfl
  have lq1 : (1 : Int32).toInt = 1 := rfl
  have lq7 : (7 : Int32).toInt = 7 := rfl
  have lq63 : (63 : Int32).toInt = 63 := rfl
  have lq64 : (64 : Int32).toInt = 64 := rfl
  have lq128 : (128 : Int32).toInt = 128 := rfl
  have L39 : ∀  (fu : Nat) (S1 : HS) (pp : Int32) (k : Int32)  (hF : pq_Fr [(194, 0), (195, 0), (8, 3)] S S1) (hk0 : 0 ≤ k.toInt) (hk1 : k.toInt ≤ 128) (hp0 : 0 ≤ pp.toInt) (hp1 : pp.toInt ≤ 399), (128 - k.toInt).toNat < fu → pq_At p l e (pq_rm 3 0 0) s m args below meth c (pq_Z below args s D cy S 0 0 (fun v S2 => pq_Fr [(194, 0), (195, 0), (8, 3)] S S2 ∧ ∃ x : Int32, v = some (.int x) ∧ 0 ≤ x.toInt ∧ x.toInt ≤ 399)) D cy A 7 0 0 39 S1 [some (.ref a), some (.long lw), none, some (.long hg), none, some (.int pp), some (.int k)] [] := by
    intro  fu
    induction fu with
    | zero => intro S1 pp k hF hk0 hk1 hp0 hp1 hm; exact absurd hm (Nat.not_lt_zero _)
    | succ fu ih =>
      intro S1 pp k hF hk0 hk1 hp0 hp1 hm
      have haL := hF.R ha (by first | decide | omega)
      refine pq_iload F dX5_add_39 rfl ?_
      refine pq_sipush (v := 128) F dX5_add_41 (by decide) ?_
      refine pq_icmp_ge (tgt := 92) F dX5_add_44 (by decide) (fun c44 => ?_) (fun c44 => ?_)
      · skip
        refine pq_iload F dX5_add_92 rfl ?_
        exact pq_iret F hr hlk hA (Nat.le_refl _) (Nat.le_refl _) (⟨hF, _, rfl, (by focus (simp only [vp_in_iff, Int32.lt_iff_toInt_lt, Int32.le_iff_toInt_le, ← Int32.toInt_inj, Int32.toInt_add, Int32.toInt_sub, Int32.toInt_mul, Int32.toInt_neg, pq_NuO, pq_NuI, pq_NuJ, pq_NuR, pq_shr6, pq_shr7, pq_shr8, lqm1, lq0, lq1, lq7, lq63, lq64, lq128] at *; (try simp (disch := omega) only [pq_bm] at *); all_goals omega)), (by focus (simp only [vp_in_iff, Int32.lt_iff_toInt_lt, Int32.le_iff_toInt_le, ← Int32.toInt_inj, Int32.toInt_add, Int32.toInt_sub, Int32.toInt_mul, Int32.toInt_neg, pq_NuO, pq_NuI, pq_NuJ, pq_NuR, pq_shr6, pq_shr7, pq_shr8, lqm1, lq0, lq1, lq7, lq63, lq64, lq128] at *; (try simp (disch := omega) only [pq_bm] at *); all_goals omega))⟩) dX5_add_94
      · skip
        refine pq_iload F dX5_add_47 rfl ?_
        refine pq_bipush (v := 64) F dX5_add_49 (by decide) ?_
        refine pq_icmp_ge (tgt := 58) F dX5_add_51 (by decide) (fun c51 => ?_) (fun c51 => ?_)
        · skip
          refine pq_lload_n F dX5_add_58 rfl rfl ?_
          refine pq_iload F dX5_add_59 rfl ?_
          refine pq_bipush (v := 63) F dX5_add_61 (by decide) ?_
          refine pq_iand F dX5_add_63 ?_
          refine pq_lushr F dX5_add_64 ?_
          refine pq_lconst (v := 1) F dX5_add_65 (by decide) ?_
          refine pq_land F dX5_add_66 ?_
          refine pq_lconst (v := 0) F dX5_add_67 (by decide) ?_
          refine pq_lcmp F dX5_add_68 ?_
          refine pq_if_eq (tgt := 86) F dX5_add_69 (by decide) (fun c69 => ?_) (fun c69 => ?_)
          · skip
            refine pq_iinc (v := 1) F dX5_add_86 rfl (by decide) (by decide) ?_
            refine pq_goto (tgt := 39) F dX5_add_89 (by decide) ?_
            exact pq_fgm [true, true, false, true, false, true, true] (ih _ _ _ hF (by focus (simp only [vp_in_iff, Int32.lt_iff_toInt_lt, Int32.le_iff_toInt_le, ← Int32.toInt_inj, Int32.toInt_add, Int32.toInt_sub, Int32.toInt_mul, Int32.toInt_neg, pq_NuO, pq_NuI, pq_NuJ, pq_NuR, pq_shr6, pq_shr7, pq_shr8, lqm1, lq0, lq1, lq7, lq63, lq64, lq128] at *; (try simp (disch := omega) only [pq_bm] at *); all_goals omega)) (by focus (simp only [vp_in_iff, Int32.lt_iff_toInt_lt, Int32.le_iff_toInt_le, ← Int32.toInt_inj, Int32.toInt_add, Int32.toInt_sub, Int32.toInt_mul, Int32.toInt_neg, pq_NuO, pq_NuI, pq_NuJ, pq_NuR, pq_shr6, pq_shr7, pq_shr8, lqm1, lq0, lq1, lq7, lq63, lq64, lq128] at *; (try simp (disch := omega) only [pq_bm] at *); all_goals omega)) (by focus (simp only [vp_in_iff, Int32.lt_iff_toInt_lt, Int32.le_iff_toInt_le, ← Int32.toInt_inj, Int32.toInt_add, Int32.toInt_sub, Int32.toInt_mul, Int32.toInt_neg, pq_NuO, pq_NuI, pq_NuJ, pq_NuR, pq_shr6, pq_shr7, pq_shr8, lqm1, lq0, lq1, lq7, lq63, lq64, lq128] at *; (try simp (disch := omega) only [pq_bm] at *); all_goals omega)) (by focus (simp only [vp_in_iff, Int32.lt_iff_toInt_lt, Int32.le_iff_toInt_le, ← Int32.toInt_inj, Int32.toInt_add, Int32.toInt_sub, Int32.toInt_mul, Int32.toInt_neg, pq_NuO, pq_NuI, pq_NuJ, pq_NuR, pq_shr6, pq_shr7, pq_shr8, lqm1, lq0, lq1, lq7, lq63, lq64, lq128] at *; (try simp (disch := omega) only [pq_bm] at *); all_goals omega)) (by focus (simp only [vp_in_iff, Int32.lt_iff_toInt_lt, Int32.le_iff_toInt_le, ← Int32.toInt_inj, Int32.toInt_add, Int32.toInt_sub, Int32.toInt_mul, Int32.toInt_neg, pq_NuO, pq_NuI, pq_NuJ, pq_NuR, pq_shr6, pq_shr7, pq_shr8, lqm1, lq0, lq1, lq7, lq63, lq64, lq128] at *; (try simp (disch := omega) only [pq_bm] at *); all_goals omega)))
          · skip
            refine pq_aload_n F dX5_add_72 rfl rfl ?_
            refine pq_getR F haL (by decide) lk_X5_9 rfl dX5_add_73 (fun r73 e73 h73 => ?_)
            refine pq_iload F dX5_add_76 rfl ?_
            refine pq_bipush (v := 7) F dX5_add_78 (by decide) ?_
            refine pq_imul F dX5_add_80 ?_
            refine pq_iload F dX5_add_81 rfl ?_
            refine pq_lenF h73 (by decide) rfl (fun lna83_0 lnb83_0 => ?_)
            refine pq_callS (As := [_, _, _]) F (k_X10_addBit l D cy _ _ 194 ?_ ?_ ?_ _ ?_ _ ?_ ?_ ?_) ml_X5_38 (Nat.le_of_ble_eq_true rfl) ⟨Nat.le_of_ble_eq_true rfl, Nat.le_of_ble_eq_true rfl⟩ ⟨by decide, by decide⟩ dX5_add_83 (fun v83 S83 w83 => ?_)
            · exact h73
            · first | decide | omega
            · first | decide | omega
            · focus (simp only [vp_in_iff, Int32.lt_iff_toInt_lt, Int32.le_iff_toInt_le, ← Int32.toInt_inj, Int32.toInt_add, Int32.toInt_sub, Int32.toInt_mul, Int32.toInt_neg, pq_NuO, pq_NuI, pq_NuJ, pq_NuR, pq_shr6, pq_shr7, pq_shr8, lqm1, lq0, lq1, lq7, lq63, lq64, lq128] at *; (try simp (disch := omega) only [pq_bm] at *); all_goals omega)
            · focus (simp only [vp_in_iff, Int32.lt_iff_toInt_lt, Int32.le_iff_toInt_le, ← Int32.toInt_inj, Int32.toInt_add, Int32.toInt_sub, Int32.toInt_mul, Int32.toInt_neg, pq_NuO, pq_NuI, pq_NuJ, pq_NuR, pq_shr6, pq_shr7, pq_shr8, lqm1, lq0, lq1, lq7, lq63, lq64, lq128] at *; (try simp (disch := omega) only [pq_bm] at *); all_goals omega)
            · focus (simp only [vp_in_iff, Int32.lt_iff_toInt_lt, Int32.le_iff_toInt_le, ← Int32.toInt_inj, Int32.toInt_add, Int32.toInt_sub, Int32.toInt_mul, Int32.toInt_neg, pq_NuO, pq_NuI, pq_NuJ, pq_NuR, pq_shr6, pq_shr7, pq_shr8, lqm1, lq0, lq1, lq7, lq63, lq64, lq128] at *; (try simp (disch := omega) only [pq_bm] at *); all_goals omega)
            · focus (simp only [vp_in_iff, Int32.lt_iff_toInt_lt, Int32.le_iff_toInt_le, ← Int32.toInt_inj, Int32.toInt_add, Int32.toInt_sub, Int32.toInt_mul, Int32.toInt_neg, pq_NuO, pq_NuI, pq_NuJ, pq_NuR, pq_shr6, pq_shr7, pq_shr8, lqm1, lq0, lq1, lq7, lq63, lq64, lq128] at *; (try simp (disch := omega) only [pq_bm] at *); all_goals omega)
            obtain ⟨rfl, f83, rfl⟩ := w83
            refine pq_iinc (v := 1) F dX5_add_86 rfl (by decide) (by decide) ?_
            refine pq_goto (tgt := 39) F dX5_add_89 (by decide) ?_
            exact pq_fgm [true, true, false, true, false, true, true] (ih _ _ _ (hF.uJ h73 (by first | decide | exact List.mem_cons_self)) (by focus (simp only [vp_in_iff, Int32.lt_iff_toInt_lt, Int32.le_iff_toInt_le, ← Int32.toInt_inj, Int32.toInt_add, Int32.toInt_sub, Int32.toInt_mul, Int32.toInt_neg, pq_NuO, pq_NuI, pq_NuJ, pq_NuR, pq_shr6, pq_shr7, pq_shr8, lqm1, lq0, lq1, lq7, lq63, lq64, lq128] at *; (try simp (disch := omega) only [pq_bm] at *); all_goals omega)) (by focus (simp only [vp_in_iff, Int32.lt_iff_toInt_lt, Int32.le_iff_toInt_le, ← Int32.toInt_inj, Int32.toInt_add, Int32.toInt_sub, Int32.toInt_mul, Int32.toInt_neg, pq_NuO, pq_NuI, pq_NuJ, pq_NuR, pq_shr6, pq_shr7, pq_shr8, lqm1, lq0, lq1, lq7, lq63, lq64, lq128] at *; (try simp (disch := omega) only [pq_bm] at *); all_goals omega)) (by focus (simp only [vp_in_iff, Int32.lt_iff_toInt_lt, Int32.le_iff_toInt_le, ← Int32.toInt_inj, Int32.toInt_add, Int32.toInt_sub, Int32.toInt_mul, Int32.toInt_neg, pq_NuO, pq_NuI, pq_NuJ, pq_NuR, pq_shr6, pq_shr7, pq_shr8, lqm1, lq0, lq1, lq7, lq63, lq64, lq128] at *; (try simp (disch := omega) only [pq_bm] at *); all_goals omega)) (by focus (simp only [vp_in_iff, Int32.lt_iff_toInt_lt, Int32.le_iff_toInt_le, ← Int32.toInt_inj, Int32.toInt_add, Int32.toInt_sub, Int32.toInt_mul, Int32.toInt_neg, pq_NuO, pq_NuI, pq_NuJ, pq_NuR, pq_shr6, pq_shr7, pq_shr8, lqm1, lq0, lq1, lq7, lq63, lq64, lq128] at *; (try simp (disch := omega) only [pq_bm] at *); all_goals omega)) (by focus (simp only [vp_in_iff, Int32.lt_iff_toInt_lt, Int32.le_iff_toInt_le, ← Int32.toInt_inj, Int32.toInt_add, Int32.toInt_sub, Int32.toInt_mul, Int32.toInt_neg, pq_NuO, pq_NuI, pq_NuJ, pq_NuR, pq_shr6, pq_shr7, pq_shr8, lqm1, lq0, lq1, lq7, lq63, lq64, lq128] at *; (try simp (disch := omega) only [pq_bm] at *); all_goals omega)))
        · skip
          refine pq_lload_n F dX5_add_54 rfl rfl ?_
          refine pq_goto (tgt := 59) F dX5_add_55 (by decide) ?_
          refine pq_iload F dX5_add_59 rfl ?_
          refine pq_bipush (v := 63) F dX5_add_61 (by decide) ?_
          refine pq_iand F dX5_add_63 ?_
          refine pq_lushr F dX5_add_64 ?_
          refine pq_lconst (v := 1) F dX5_add_65 (by decide) ?_
          refine pq_land F dX5_add_66 ?_
          refine pq_lconst (v := 0) F dX5_add_67 (by decide) ?_
          refine pq_lcmp F dX5_add_68 ?_
          refine pq_if_eq (tgt := 86) F dX5_add_69 (by decide) (fun c69 => ?_) (fun c69 => ?_)
          · skip
            refine pq_iinc (v := 1) F dX5_add_86 rfl (by decide) (by decide) ?_
            refine pq_goto (tgt := 39) F dX5_add_89 (by decide) ?_
            exact pq_fgm [true, true, false, true, false, true, true] (ih _ _ _ hF (by focus (simp only [vp_in_iff, Int32.lt_iff_toInt_lt, Int32.le_iff_toInt_le, ← Int32.toInt_inj, Int32.toInt_add, Int32.toInt_sub, Int32.toInt_mul, Int32.toInt_neg, pq_NuO, pq_NuI, pq_NuJ, pq_NuR, pq_shr6, pq_shr7, pq_shr8, lqm1, lq0, lq1, lq7, lq63, lq64, lq128] at *; (try simp (disch := omega) only [pq_bm] at *); all_goals omega)) (by focus (simp only [vp_in_iff, Int32.lt_iff_toInt_lt, Int32.le_iff_toInt_le, ← Int32.toInt_inj, Int32.toInt_add, Int32.toInt_sub, Int32.toInt_mul, Int32.toInt_neg, pq_NuO, pq_NuI, pq_NuJ, pq_NuR, pq_shr6, pq_shr7, pq_shr8, lqm1, lq0, lq1, lq7, lq63, lq64, lq128] at *; (try simp (disch := omega) only [pq_bm] at *); all_goals omega)) (by focus (simp only [vp_in_iff, Int32.lt_iff_toInt_lt, Int32.le_iff_toInt_le, ← Int32.toInt_inj, Int32.toInt_add, Int32.toInt_sub, Int32.toInt_mul, Int32.toInt_neg, pq_NuO, pq_NuI, pq_NuJ, pq_NuR, pq_shr6, pq_shr7, pq_shr8, lqm1, lq0, lq1, lq7, lq63, lq64, lq128] at *; (try simp (disch := omega) only [pq_bm] at *); all_goals omega)) (by focus (simp only [vp_in_iff, Int32.lt_iff_toInt_lt, Int32.le_iff_toInt_le, ← Int32.toInt_inj, Int32.toInt_add, Int32.toInt_sub, Int32.toInt_mul, Int32.toInt_neg, pq_NuO, pq_NuI, pq_NuJ, pq_NuR, pq_shr6, pq_shr7, pq_shr8, lqm1, lq0, lq1, lq7, lq63, lq64, lq128] at *; (try simp (disch := omega) only [pq_bm] at *); all_goals omega)) (by focus (simp only [vp_in_iff, Int32.lt_iff_toInt_lt, Int32.le_iff_toInt_le, ← Int32.toInt_inj, Int32.toInt_add, Int32.toInt_sub, Int32.toInt_mul, Int32.toInt_neg, pq_NuO, pq_NuI, pq_NuJ, pq_NuR, pq_shr6, pq_shr7, pq_shr8, lqm1, lq0, lq1, lq7, lq63, lq64, lq128] at *; (try simp (disch := omega) only [pq_bm] at *); all_goals omega)))
          · skip
            refine pq_aload_n F dX5_add_72 rfl rfl ?_
            refine pq_getR F haL (by decide) lk_X5_9 rfl dX5_add_73 (fun r73 e73 h73 => ?_)
            refine pq_iload F dX5_add_76 rfl ?_
            refine pq_bipush (v := 7) F dX5_add_78 (by decide) ?_
            refine pq_imul F dX5_add_80 ?_
            refine pq_iload F dX5_add_81 rfl ?_
            refine pq_lenF h73 (by decide) rfl (fun lna83_0 lnb83_0 => ?_)
            refine pq_callS (As := [_, _, _]) F (k_X10_addBit l D cy _ _ 194 ?_ ?_ ?_ _ ?_ _ ?_ ?_ ?_) ml_X5_38 (Nat.le_of_ble_eq_true rfl) ⟨Nat.le_of_ble_eq_true rfl, Nat.le_of_ble_eq_true rfl⟩ ⟨by decide, by decide⟩ dX5_add_83 (fun v83 S83 w83 => ?_)
            · exact h73
            · first | decide | omega
            · first | decide | omega
            · focus (simp only [vp_in_iff, Int32.lt_iff_toInt_lt, Int32.le_iff_toInt_le, ← Int32.toInt_inj, Int32.toInt_add, Int32.toInt_sub, Int32.toInt_mul, Int32.toInt_neg, pq_NuO, pq_NuI, pq_NuJ, pq_NuR, pq_shr6, pq_shr7, pq_shr8, lqm1, lq0, lq1, lq7, lq63, lq64, lq128] at *; (try simp (disch := omega) only [pq_bm] at *); all_goals omega)
            · focus (simp only [vp_in_iff, Int32.lt_iff_toInt_lt, Int32.le_iff_toInt_le, ← Int32.toInt_inj, Int32.toInt_add, Int32.toInt_sub, Int32.toInt_mul, Int32.toInt_neg, pq_NuO, pq_NuI, pq_NuJ, pq_NuR, pq_shr6, pq_shr7, pq_shr8, lqm1, lq0, lq1, lq7, lq63, lq64, lq128] at *; (try simp (disch := omega) only [pq_bm] at *); all_goals omega)
            · focus (simp only [vp_in_iff, Int32.lt_iff_toInt_lt, Int32.le_iff_toInt_le, ← Int32.toInt_inj, Int32.toInt_add, Int32.toInt_sub, Int32.toInt_mul, Int32.toInt_neg, pq_NuO, pq_NuI, pq_NuJ, pq_NuR, pq_shr6, pq_shr7, pq_shr8, lqm1, lq0, lq1, lq7, lq63, lq64, lq128] at *; (try simp (disch := omega) only [pq_bm] at *); all_goals omega)
            · focus (simp only [vp_in_iff, Int32.lt_iff_toInt_lt, Int32.le_iff_toInt_le, ← Int32.toInt_inj, Int32.toInt_add, Int32.toInt_sub, Int32.toInt_mul, Int32.toInt_neg, pq_NuO, pq_NuI, pq_NuJ, pq_NuR, pq_shr6, pq_shr7, pq_shr8, lqm1, lq0, lq1, lq7, lq63, lq64, lq128] at *; (try simp (disch := omega) only [pq_bm] at *); all_goals omega)
            obtain ⟨rfl, f83, rfl⟩ := w83
            refine pq_iinc (v := 1) F dX5_add_86 rfl (by decide) (by decide) ?_
            refine pq_goto (tgt := 39) F dX5_add_89 (by decide) ?_
            exact pq_fgm [true, true, false, true, false, true, true] (ih _ _ _ (hF.uJ h73 (by first | decide | exact List.mem_cons_self)) (by focus (simp only [vp_in_iff, Int32.lt_iff_toInt_lt, Int32.le_iff_toInt_le, ← Int32.toInt_inj, Int32.toInt_add, Int32.toInt_sub, Int32.toInt_mul, Int32.toInt_neg, pq_NuO, pq_NuI, pq_NuJ, pq_NuR, pq_shr6, pq_shr7, pq_shr8, lqm1, lq0, lq1, lq7, lq63, lq64, lq128] at *; (try simp (disch := omega) only [pq_bm] at *); all_goals omega)) (by focus (simp only [vp_in_iff, Int32.lt_iff_toInt_lt, Int32.le_iff_toInt_le, ← Int32.toInt_inj, Int32.toInt_add, Int32.toInt_sub, Int32.toInt_mul, Int32.toInt_neg, pq_NuO, pq_NuI, pq_NuJ, pq_NuR, pq_shr6, pq_shr7, pq_shr8, lqm1, lq0, lq1, lq7, lq63, lq64, lq128] at *; (try simp (disch := omega) only [pq_bm] at *); all_goals omega)) (by focus (simp only [vp_in_iff, Int32.lt_iff_toInt_lt, Int32.le_iff_toInt_le, ← Int32.toInt_inj, Int32.toInt_add, Int32.toInt_sub, Int32.toInt_mul, Int32.toInt_neg, pq_NuO, pq_NuI, pq_NuJ, pq_NuR, pq_shr6, pq_shr7, pq_shr8, lqm1, lq0, lq1, lq7, lq63, lq64, lq128] at *; (try simp (disch := omega) only [pq_bm] at *); all_goals omega)) (by focus (simp only [vp_in_iff, Int32.lt_iff_toInt_lt, Int32.le_iff_toInt_le, ← Int32.toInt_inj, Int32.toInt_add, Int32.toInt_sub, Int32.toInt_mul, Int32.toInt_neg, pq_NuO, pq_NuI, pq_NuJ, pq_NuR, pq_shr6, pq_shr7, pq_shr8, lqm1, lq0, lq1, lq7, lq63, lq64, lq128] at *; (try simp (disch := omega) only [pq_bm] at *); all_goals omega)) (by focus (simp only [vp_in_iff, Int32.lt_iff_toInt_lt, Int32.le_iff_toInt_le, ← Int32.toInt_inj, Int32.toInt_add, Int32.toInt_sub, Int32.toInt_mul, Int32.toInt_neg, pq_NuO, pq_NuI, pq_NuJ, pq_NuR, pq_shr6, pq_shr7, pq_shr8, lqm1, lq0, lq1, lq7, lq63, lq64, lq128] at *; (try simp (disch := omega) only [pq_bm] at *); all_goals omega)))
  refine pq_aload_n F dX5_add_0 rfl rfl ?_
  refine pq_get F ha (by decide) lk_X5_31 ht dX5_add_1 ?_
  refine pq_istore F dX5_add_4 (by decide) ?_
  refine pq_aload_n F dX5_add_6 rfl rfl ?_
  refine pq_dup F dX5_add_7 rfl ?_
  refine pq_get F ha (by decide) lk_X5_31 ht dX5_add_8 ?_
  refine pq_iconst (v := 1) F dX5_add_11 (by decide) ?_
  refine pq_iadd F dX5_add_12 ?_
  refine pq_putI F ha (by decide) lp_X5_31 rfl (by focus (simp only [vp_in_iff, Int32.lt_iff_toInt_lt, Int32.le_iff_toInt_le, ← Int32.toInt_inj, Int32.toInt_add, Int32.toInt_sub, Int32.toInt_mul, Int32.toInt_neg, pq_NuO, pq_NuI, pq_NuJ, pq_NuR, pq_shr6, pq_shr7, pq_shr8, lqm1, lq0, lq1, lq7, lq63, lq64, lq128] at *; (try simp (disch := omega) only [pq_bm] at *); all_goals omega)) (by focus (simp only [vp_in_iff, Int32.lt_iff_toInt_lt, Int32.le_iff_toInt_le, ← Int32.toInt_inj, Int32.toInt_add, Int32.toInt_sub, Int32.toInt_mul, Int32.toInt_neg, pq_NuO, pq_NuI, pq_NuJ, pq_NuR, pq_shr6, pq_shr7, pq_shr8, lqm1, lq0, lq1, lq7, lq63, lq64, lq128] at *; (try simp (disch := omega) only [pq_bm] at *); all_goals omega)) dX5_add_13 ?_
  refine pq_aload_n F dX5_add_16 rfl rfl ?_
  refine pq_getR F ha (by decide) lk_X5_15 rfl dX5_add_17 (fun r17 e17 h17 => ?_)
  refine pq_iload F dX5_add_20 rfl ?_
  refine pq_bipush (v := 7) F dX5_add_22 (by decide) ?_
  refine pq_imul F dX5_add_24 ?_
  refine pq_iload F dX5_add_25 rfl ?_
  refine pq_iconst (v := 1) F dX5_add_27 (by decide) ?_
  refine pq_iadd F dX5_add_28 ?_
  refine pq_bipush (v := 7) F dX5_add_29 (by decide) ?_
  refine pq_imul F dX5_add_31 ?_
  refine pq_lconst (v := 0) F dX5_add_32 (by decide) ?_
  refine pq_lenF h17 (by decide) rfl (fun lna33_0 lnb33_0 => ?_)
  refine pq_callS (As := [_, _, _, _]) F (k_J7_fill_bad5a l D cy _ _ 195 ?_ ?_ ?_ _ ?_ _ _ ?_ ?_ ?_) ml_X5_35 (Nat.le_of_ble_eq_true rfl) ⟨Nat.le_of_ble_eq_true rfl, Nat.le_of_ble_eq_true rfl⟩ ⟨by decide, by decide⟩ dX5_add_33 (fun v33 S33 w33 => ?_)
  · exact h17
  · first | decide | omega
  · first | decide | omega
  · focus (simp only [vp_in_iff, Int32.lt_iff_toInt_lt, Int32.le_iff_toInt_le, ← Int32.toInt_inj, Int32.toInt_add, Int32.toInt_sub, Int32.toInt_mul, Int32.toInt_neg, pq_NuO, pq_NuI, pq_NuJ, pq_NuR, pq_shr6, pq_shr7, pq_shr8, lqm1, lq0, lq1, lq7, lq63, lq64, lq128] at *; (try simp (disch := omega) only [pq_bm] at *); all_goals omega)
  · focus (simp only [vp_in_iff, Int32.lt_iff_toInt_lt, Int32.le_iff_toInt_le, ← Int32.toInt_inj, Int32.toInt_add, Int32.toInt_sub, Int32.toInt_mul, Int32.toInt_neg, pq_NuO, pq_NuI, pq_NuJ, pq_NuR, pq_shr6, pq_shr7, pq_shr8, lqm1, lq0, lq1, lq7, lq63, lq64, lq128] at *; (try simp (disch := omega) only [pq_bm] at *); all_goals omega)
  · focus (simp only [vp_in_iff, Int32.lt_iff_toInt_lt, Int32.le_iff_toInt_le, ← Int32.toInt_inj, Int32.toInt_add, Int32.toInt_sub, Int32.toInt_mul, Int32.toInt_neg, pq_NuO, pq_NuI, pq_NuJ, pq_NuR, pq_shr6, pq_shr7, pq_shr8, lqm1, lq0, lq1, lq7, lq63, lq64, lq128] at *; (try simp (disch := omega) only [pq_bm] at *); all_goals omega)
  · focus (simp only [vp_in_iff, Int32.lt_iff_toInt_lt, Int32.le_iff_toInt_le, ← Int32.toInt_inj, Int32.toInt_add, Int32.toInt_sub, Int32.toInt_mul, Int32.toInt_neg, pq_NuO, pq_NuI, pq_NuJ, pq_NuR, pq_shr6, pq_shr7, pq_shr8, lqm1, lq0, lq1, lq7, lq63, lq64, lq128] at *; (try simp (disch := omega) only [pq_bm] at *); all_goals omega)
  obtain ⟨rfl, f33, rfl⟩ := w33
  refine pq_iconst (v := 0) F dX5_add_36 (by decide) ?_
  refine pq_istore F dX5_add_37 (by decide) ?_
  exact pq_fgm [true, true, false, true, false, true, true] (L39  100000 _ _ _  ((pq_Fr.rf.uO ha (by decide)).uJ h17 (by first | decide | exact List.mem_cons_self)) (by focus (simp only [vp_in_iff, Int32.lt_iff_toInt_lt, Int32.le_iff_toInt_le, ← Int32.toInt_inj, Int32.toInt_add, Int32.toInt_sub, Int32.toInt_mul, Int32.toInt_neg, pq_NuO, pq_NuI, pq_NuJ, pq_NuR, pq_shr6, pq_shr7, pq_shr8, lqm1, lq0, lq1, lq7, lq63, lq64, lq128] at *; (try simp (disch := omega) only [pq_bm] at *); all_goals omega)) (by focus (simp only [vp_in_iff, Int32.lt_iff_toInt_lt, Int32.le_iff_toInt_le, ← Int32.toInt_inj, Int32.toInt_add, Int32.toInt_sub, Int32.toInt_mul, Int32.toInt_neg, pq_NuO, pq_NuI, pq_NuJ, pq_NuR, pq_shr6, pq_shr7, pq_shr8, lqm1, lq0, lq1, lq7, lq63, lq64, lq128] at *; (try simp (disch := omega) only [pq_bm] at *); all_goals omega)) (by focus (simp only [vp_in_iff, Int32.lt_iff_toInt_lt, Int32.le_iff_toInt_le, ← Int32.toInt_inj, Int32.toInt_add, Int32.toInt_sub, Int32.toInt_mul, Int32.toInt_neg, pq_NuO, pq_NuI, pq_NuJ, pq_NuR, pq_shr6, pq_shr7, pq_shr8, lqm1, lq0, lq1, lq7, lq63, lq64, lq128] at *; (try simp (disch := omega) only [pq_bm] at *); all_goals omega)) (by focus (simp only [vp_in_iff, Int32.lt_iff_toInt_lt, Int32.le_iff_toInt_le, ← Int32.toInt_inj, Int32.toInt_add, Int32.toInt_sub, Int32.toInt_mul, Int32.toInt_neg, pq_NuO, pq_NuI, pq_NuJ, pq_NuR, pq_shr6, pq_shr7, pq_shr8, lqm1, lq0, lq1, lq7, lq63, lq64, lq128] at *; (try simp (disch := omega) only [pq_bm] at *); all_goals omega)) (by focus (simp only [vp_in_iff, Int32.lt_iff_toInt_lt, Int32.le_iff_toInt_le, ← Int32.toInt_inj, Int32.toInt_add, Int32.toInt_sub, Int32.toInt_mul, Int32.toInt_neg, pq_NuO, pq_NuI, pq_NuJ, pq_NuR, pq_shr6, pq_shr7, pq_shr8, lqm1, lq0, lq1, lq7, lq63, lq64, lq128] at *; (try simp (disch := omega) only [pq_bm] at *); all_goals omega)))

set_option maxHeartbeats 4000000 in
set_option maxRecDepth 100000 in
theorem k_X5_link (l : Launch) (D : va_G) (cy : Nat → ClassId) (S : HS) (a : Nat) (ha : pq_R S a 8) (b : Nat) (hb : pq_R S b 191) (w : Nat) (hw : pq_R S w 190) : pq_C l D cy yX5_link cX5_link 4 (none) 2 0 0 S [.ref a, .ref b, .ref w] (fun v S2 => v = none ∧ pq_Fr [(195, 0)] S S2) := by
  refine pq_start (by decide) (Nat.le_of_ble_eq_true rfl) ?_
  intro p e s m args below meth c A F hr hlk hnm hA
  have lqm1 : (-1 : Int32).toInt = -1 := rfl
  have lq0 : (0 : Int32).toInt = 0 := rfl
  have lq1 : (1 : Int32).toInt = 1 := rfl
  have lq7 : (7 : Int32).toInt = 7 := rfl
  have L2 : ∀  (fu : Nat) (S1 : HS) (k : Int32)  (hF : pq_Fr [(195, 0)] S S1) (hk0 : 0 ≤ k.toInt) (hk1 : k.toInt ≤ 400), (400 - k.toInt).toNat < fu → pq_At p l e (pq_rm 2 0 0) s m args below meth c (pq_Z below args s D cy S 0 0 (fun v S2 => v = none ∧ pq_Fr [(195, 0)] S S2)) D cy A 4 0 0 2 S1 [some (.ref a), some (.ref b), some (.ref w), some (.int k)] [] := by
    intro  fu
    induction fu with
    | zero => intro S1 k hF hk0 hk1 hm; exact absurd hm (Nat.not_lt_zero _)
    | succ fu ih =>
      intro S1 k hF hk0 hk1 hm
      have haL := hF.R ha (by first | decide | omega)
      have hbL := hF.R hb (by first | decide | omega)
      have hwL := hF.R hw (by first | decide | omega)
      refine pq_iload_n F dX5_link_2 rfl rfl ?_
      refine pq_aload_n F dX5_link_3 rfl rfl ?_
      refine pq_getI F haL (by decide) lk_X5_31 rfl dX5_link_4 (fun x4 e4 l4 u4 => ?_)
      refine pq_icmp_ge (tgt := 37) F dX5_link_7 (by decide) (fun c7 => ?_) (fun c7 => ?_)
      · skip
        exact pq_vret F hr hlk hA (Nat.le_refl _) (Nat.le_refl _) (⟨rfl, hF⟩) dX5_link_37
      · skip
        refine pq_aload_n F dX5_link_10 rfl rfl ?_
        refine pq_iconst (v := 0) F dX5_link_11 (by decide) ?_
        refine pq_iload_n F dX5_link_12 rfl rfl ?_
        refine pq_lenF hbL (by decide) rfl (fun lna13_0 lnb13_0 => ?_)
        refine pq_callS (As := [_, _, _]) F (k_X10_hasBit l D cy _ _ 191 ?_ ?_ ?_ _ ?_ _ ?_ ?_ ?_) ml_X5_42 (Nat.le_of_ble_eq_true rfl) ⟨Nat.le_of_ble_eq_true rfl, Nat.le_of_ble_eq_true rfl⟩ ⟨by decide, by decide⟩ dX5_link_13 (fun v13 S13 w13 => ?_)
        · exact hbL
        · first | decide | omega
        · first | decide | omega
        · focus (simp only [vp_in_iff, Int32.lt_iff_toInt_lt, Int32.le_iff_toInt_le, ← Int32.toInt_inj, Int32.toInt_add, Int32.toInt_sub, Int32.toInt_mul, Int32.toInt_neg, pq_NuO, pq_NuI, pq_NuJ, pq_NuR, pq_shr6, pq_shr7, pq_shr8, lqm1, lq0, lq1, lq7] at *; (try simp (disch := omega) only [pq_bm] at *); all_goals omega)
        · focus (simp only [vp_in_iff, Int32.lt_iff_toInt_lt, Int32.le_iff_toInt_le, ← Int32.toInt_inj, Int32.toInt_add, Int32.toInt_sub, Int32.toInt_mul, Int32.toInt_neg, pq_NuO, pq_NuI, pq_NuJ, pq_NuR, pq_shr6, pq_shr7, pq_shr8, lqm1, lq0, lq1, lq7] at *; (try simp (disch := omega) only [pq_bm] at *); all_goals omega)
        · focus (simp only [vp_in_iff, Int32.lt_iff_toInt_lt, Int32.le_iff_toInt_le, ← Int32.toInt_inj, Int32.toInt_add, Int32.toInt_sub, Int32.toInt_mul, Int32.toInt_neg, pq_NuO, pq_NuI, pq_NuJ, pq_NuR, pq_shr6, pq_shr7, pq_shr8, lqm1, lq0, lq1, lq7] at *; (try simp (disch := omega) only [pq_bm] at *); all_goals omega)
        · focus (simp only [vp_in_iff, Int32.lt_iff_toInt_lt, Int32.le_iff_toInt_le, ← Int32.toInt_inj, Int32.toInt_add, Int32.toInt_sub, Int32.toInt_mul, Int32.toInt_neg, pq_NuO, pq_NuI, pq_NuJ, pq_NuR, pq_shr6, pq_shr7, pq_shr8, lqm1, lq0, lq1, lq7] at *; (try simp (disch := omega) only [pq_bm] at *); all_goals omega)
        obtain ⟨u13, y13, rfl, yl13_0, yl13_1⟩ := w13
        rw [u13]
        refine pq_if_eq (tgt := 31) F dX5_link_16 (by decide) (fun c16 => ?_) (fun c16 => ?_)
        · skip
          refine pq_iinc (v := 1) F dX5_link_31 rfl (by decide) (by decide) ?_
          refine pq_goto (tgt := 2) F dX5_link_34 (by decide) ?_
          exact pq_fgm [true, true, true, true] (ih _ _ hF (by focus (simp only [vp_in_iff, Int32.lt_iff_toInt_lt, Int32.le_iff_toInt_le, ← Int32.toInt_inj, Int32.toInt_add, Int32.toInt_sub, Int32.toInt_mul, Int32.toInt_neg, pq_NuO, pq_NuI, pq_NuJ, pq_NuR, pq_shr6, pq_shr7, pq_shr8, lqm1, lq0, lq1, lq7] at *; (try simp (disch := omega) only [pq_bm] at *); all_goals omega)) (by focus (simp only [vp_in_iff, Int32.lt_iff_toInt_lt, Int32.le_iff_toInt_le, ← Int32.toInt_inj, Int32.toInt_add, Int32.toInt_sub, Int32.toInt_mul, Int32.toInt_neg, pq_NuO, pq_NuI, pq_NuJ, pq_NuR, pq_shr6, pq_shr7, pq_shr8, lqm1, lq0, lq1, lq7] at *; (try simp (disch := omega) only [pq_bm] at *); all_goals omega)) (by focus (simp only [vp_in_iff, Int32.lt_iff_toInt_lt, Int32.le_iff_toInt_le, ← Int32.toInt_inj, Int32.toInt_add, Int32.toInt_sub, Int32.toInt_mul, Int32.toInt_neg, pq_NuO, pq_NuI, pq_NuJ, pq_NuR, pq_shr6, pq_shr7, pq_shr8, lqm1, lq0, lq1, lq7] at *; (try simp (disch := omega) only [pq_bm] at *); all_goals omega)))
        · skip
          refine pq_aload_n F dX5_link_19 rfl rfl ?_
          refine pq_getR F haL (by decide) lk_X5_15 rfl dX5_link_20 (fun r20 e20 h20 => ?_)
          refine pq_iload_n F dX5_link_23 rfl rfl ?_
          refine pq_bipush (v := 7) F dX5_link_24 (by decide) ?_
          refine pq_imul F dX5_link_26 ?_
          refine pq_aload_n F dX5_link_27 rfl rfl ?_
          refine pq_lenF h20 (by decide) rfl (fun lna28_0 lnb28_0 => ?_)
          refine pq_lenF hwL (by decide) rfl (fun lna28_2 lnb28_2 => ?_)
          refine pq_callS (As := [_, _, _]) F (k_X10_addAll l D cy _ _ 195 ?_ ?_ ?_ _ ?_ _ 190 ?_ ?_ ?_ ?_ ?_ ?_) ml_X5_46 (Nat.le_of_ble_eq_true rfl) ⟨Nat.le_of_ble_eq_true rfl, Nat.le_of_ble_eq_true rfl⟩ ⟨by decide, by decide⟩ dX5_link_28 (fun v28 S28 w28 => ?_)
          · exact h20
          · first | decide | omega
          · first | decide | omega
          · focus (simp only [vp_in_iff, Int32.lt_iff_toInt_lt, Int32.le_iff_toInt_le, ← Int32.toInt_inj, Int32.toInt_add, Int32.toInt_sub, Int32.toInt_mul, Int32.toInt_neg, pq_NuO, pq_NuI, pq_NuJ, pq_NuR, pq_shr6, pq_shr7, pq_shr8, lqm1, lq0, lq1, lq7] at *; (try simp (disch := omega) only [pq_bm] at *); all_goals omega)
          · exact hwL
          · first | decide | omega
          · first | decide | omega
          · focus (simp only [vp_in_iff, Int32.lt_iff_toInt_lt, Int32.le_iff_toInt_le, ← Int32.toInt_inj, Int32.toInt_add, Int32.toInt_sub, Int32.toInt_mul, Int32.toInt_neg, pq_NuO, pq_NuI, pq_NuJ, pq_NuR, pq_shr6, pq_shr7, pq_shr8, lqm1, lq0, lq1, lq7] at *; (try simp (disch := omega) only [pq_bm] at *); all_goals omega)
          · focus (simp only [vp_in_iff, Int32.lt_iff_toInt_lt, Int32.le_iff_toInt_le, ← Int32.toInt_inj, Int32.toInt_add, Int32.toInt_sub, Int32.toInt_mul, Int32.toInt_neg, pq_NuO, pq_NuI, pq_NuJ, pq_NuR, pq_shr6, pq_shr7, pq_shr8, lqm1, lq0, lq1, lq7] at *; (try simp (disch := omega) only [pq_bm] at *); all_goals omega)
          · focus (simp only [vp_in_iff, Int32.lt_iff_toInt_lt, Int32.le_iff_toInt_le, ← Int32.toInt_inj, Int32.toInt_add, Int32.toInt_sub, Int32.toInt_mul, Int32.toInt_neg, pq_NuO, pq_NuI, pq_NuJ, pq_NuR, pq_shr6, pq_shr7, pq_shr8, lqm1, lq0, lq1, lq7] at *; (try simp (disch := omega) only [pq_bm] at *); all_goals omega)
          obtain ⟨rfl, f28, rfl⟩ := w28
          refine pq_iinc (v := 1) F dX5_link_31 rfl (by decide) (by decide) ?_
          refine pq_goto (tgt := 2) F dX5_link_34 (by decide) ?_
          exact pq_fgm [true, true, true, true] (ih _ _ (hF.uJ h20 (by first | decide | exact List.mem_cons_self)) (by focus (simp only [vp_in_iff, Int32.lt_iff_toInt_lt, Int32.le_iff_toInt_le, ← Int32.toInt_inj, Int32.toInt_add, Int32.toInt_sub, Int32.toInt_mul, Int32.toInt_neg, pq_NuO, pq_NuI, pq_NuJ, pq_NuR, pq_shr6, pq_shr7, pq_shr8, lqm1, lq0, lq1, lq7] at *; (try simp (disch := omega) only [pq_bm] at *); all_goals omega)) (by focus (simp only [vp_in_iff, Int32.lt_iff_toInt_lt, Int32.le_iff_toInt_le, ← Int32.toInt_inj, Int32.toInt_add, Int32.toInt_sub, Int32.toInt_mul, Int32.toInt_neg, pq_NuO, pq_NuI, pq_NuJ, pq_NuR, pq_shr6, pq_shr7, pq_shr8, lqm1, lq0, lq1, lq7] at *; (try simp (disch := omega) only [pq_bm] at *); all_goals omega)) (by focus (simp only [vp_in_iff, Int32.lt_iff_toInt_lt, Int32.le_iff_toInt_le, ← Int32.toInt_inj, Int32.toInt_add, Int32.toInt_sub, Int32.toInt_mul, Int32.toInt_neg, pq_NuO, pq_NuI, pq_NuJ, pq_NuR, pq_shr6, pq_shr7, pq_shr8, lqm1, lq0, lq1, lq7] at *; (try simp (disch := omega) only [pq_bm] at *); all_goals omega)))
  refine pq_iconst (v := 0) F dX5_link_0 (by decide) ?_
  refine pq_istore_n F dX5_link_1 rfl (by decide) ?_
  exact pq_fgm [true, true, true, true] (L2  100000 _ _  pq_Fr.rf (by focus (simp only [vp_in_iff, Int32.lt_iff_toInt_lt, Int32.le_iff_toInt_le, ← Int32.toInt_inj, Int32.toInt_add, Int32.toInt_sub, Int32.toInt_mul, Int32.toInt_neg, pq_NuO, pq_NuI, pq_NuJ, pq_NuR, pq_shr6, pq_shr7, pq_shr8, lqm1, lq0, lq1, lq7] at *; (try simp (disch := omega) only [pq_bm] at *); all_goals omega)) (by focus (simp only [vp_in_iff, Int32.lt_iff_toInt_lt, Int32.le_iff_toInt_le, ← Int32.toInt_inj, Int32.toInt_add, Int32.toInt_sub, Int32.toInt_mul, Int32.toInt_neg, pq_NuO, pq_NuI, pq_NuJ, pq_NuR, pq_shr6, pq_shr7, pq_shr8, lqm1, lq0, lq1, lq7] at *; (try simp (disch := omega) only [pq_bm] at *); all_goals omega)) (by focus (simp only [vp_in_iff, Int32.lt_iff_toInt_lt, Int32.le_iff_toInt_le, ← Int32.toInt_inj, Int32.toInt_add, Int32.toInt_sub, Int32.toInt_mul, Int32.toInt_neg, pq_NuO, pq_NuI, pq_NuJ, pq_NuR, pq_shr6, pq_shr7, pq_shr8, lqm1, lq0, lq1, lq7] at *; (try simp (disch := omega) only [pq_bm] at *); all_goals omega)))

