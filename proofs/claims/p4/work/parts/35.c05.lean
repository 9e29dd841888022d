set_option maxHeartbeats 4000000 in
set_option maxRecDepth 100000 in
theorem k_X2_init (l : Launch) (D : va_G) (cy : Nat → ClassId) (S : HS) (a : Nat) (ha : pq_R S a 65) (e2 : hO S a 2 = .int 0) : pq_C l D cy yX2_init cX2_init 1 (none) 1 2 14 S [.ref a] (fun v S2 => v = none ∧ pq_G a S S2 ∧ pq_R S2 a 5) := by
  refine pq_start (by decide) (Nat.le_of_ble_eq_true rfl) ?_
  intro p e s m args below meth c A F hr hlk hnm hA
  have lqm1 : (-1 : Int32).toInt = -1 := rfl
  have lq0 : (0 : Int32).toInt = 0 := rfl
  have lq1 : (1 : Int32).toInt = 1 := rfl
  have lq7 : (7 : Int32).toInt = 7 := rfl
  refine pq_aload_n F dX2_init_0 rfl rfl ?_
  refine pq_objI F ow_X2_3 ⟨Nat.le_of_ble_eq_true rfl, Nat.le_of_ble_eq_true rfl⟩ dX2_init_1 ?_
  refine pq_aload_n F dX2_init_4 rfl rfl ?_
  refine pq_bipush (v := 7) F dX2_init_5 (by decide) ?_
  refine pq_newJ F (r := 190) (n := 7) (by decide) (by decide) ac_long rfl (by decide) (by focus (simp only [vp_in_iff, Int32.lt_iff_toInt_lt, Int32.le_iff_toInt_le, ← Int32.toInt_inj, Int32.toInt_add, Int32.toInt_sub, Int32.toInt_mul, Int32.toInt_neg, pq_NuO, pq_NuI, pq_NuJ, pq_NuR, pq_shr6, pq_shr7, pq_shr8, lqm1, lq0, lq1, lq7] at *; (try simp (disch := omega) only [pq_bm] at *); all_goals omega)) rfl (by decide) (by decide) (Nat.le_of_ble_eq_true rfl) (Nat.le_of_ble_eq_true rfl) dX2_init_7 (fun q7 nq7 h7 => ?_)
  have ha_7 := pq_nR (r := 190) (n := 7) (ds := (fun _ => Value.null)) nq7 ha
  refine pq_putF F hnm ha_7 (by decide) lf_X2_9 rfl rfl (show pq_ok (pq_ft 65 0) _ _ from trivial) dX2_init_9 ?_
  refine pq_aload_n F dX2_init_12 rfl rfl ?_
  refine pq_bipush (v := 7) F dX2_init_13 (by decide) ?_
  refine pq_newJ F (r := 191) (n := 7) (by decide) (by decide) ac_long rfl (by decide) (by focus (simp only [vp_in_iff, Int32.lt_iff_toInt_lt, Int32.le_iff_toInt_le, ← Int32.toInt_inj, Int32.toInt_add, Int32.toInt_sub, Int32.toInt_mul, Int32.toInt_neg, pq_NuO, pq_NuI, pq_NuJ, pq_NuR, pq_shr6, pq_shr7, pq_shr8, lqm1, lq0, lq1, lq7] at *; (try simp (disch := omega) only [pq_bm] at *); all_goals omega)) rfl (by decide) (by decide) (Nat.le_of_ble_eq_true rfl) (Nat.le_of_ble_eq_true rfl) dX2_init_15 (fun q15 nq15 h15 => ?_)
  have ha_15 := pq_nR (r := 191) (n := 7) (ds := (fun _ => Value.null)) nq15 ha_7
  have h7_15 := pq_nR (r := 191) (n := 7) (ds := (fun _ => Value.null)) nq15 h7
  refine pq_putF F hnm ha_15 (by decide) lf_X2_15 rfl rfl (show pq_ok (pq_ft 65 1) _ _ from trivial) dX2_init_17 ?_
  refine pq_prom (r := 5) ha_15 (by decide) (by decide) (by decide) rfl (fun k => match k with | 0 => (show pq_ok (pq_ft 5 0) _ _ from ⟨by decide, _, (pq_kp (pq_nO nq15 ha_7 pq_ks) (by decide)), h7_15⟩) | 1 => (show pq_ok (pq_ft 5 1) _ _ from ⟨by decide, _, pq_ks, h15⟩) | 2 => (show pq_ok (1, 0, 1) _ _ from ⟨_, (pq_kp (pq_nO nq15 ha_7 (pq_kp (pq_nO nq7 ha e2) (by decide))) (by decide)), (by focus (simp only [vp_in_iff, Int32.lt_iff_toInt_lt, Int32.le_iff_toInt_le, ← Int32.toInt_inj, Int32.toInt_add, Int32.toInt_sub, Int32.toInt_mul, Int32.toInt_neg, pq_NuO, pq_NuI, pq_NuJ, pq_NuR, pq_shr6, pq_shr7, pq_shr8, lqm1, lq0, lq1, lq7] at *; (try simp (disch := omega) only [pq_bm] at *); all_goals omega)), (by focus (simp only [vp_in_iff, Int32.lt_iff_toInt_lt, Int32.le_iff_toInt_le, ← Int32.toInt_inj, Int32.toInt_add, Int32.toInt_sub, Int32.toInt_mul, Int32.toInt_neg, pq_NuO, pq_NuI, pq_NuJ, pq_NuR, pq_shr6, pq_shr7, pq_shr8, lqm1, lq0, lq1, lq7] at *; (try simp (disch := omega) only [pq_bm] at *); all_goals omega))⟩) | _ + 3 => trivial) ?_
  have hpr := pq_rrR (r := 5) ha_15
  exact pq_vret F hr hlk hA (Nat.le_refl _) (Nat.le_refl _) (⟨rfl, ((pq_G.rf.nw nq7).uO.nw nq15).uO.rr, hpr⟩) dX2_init_20

set_option maxHeartbeats 4000000 in
set_option maxRecDepth 100000 in
theorem k_X6_hereCB (l : Launch) (D : va_G) (cy : Nat → ClassId) (S : HS) (a : Nat) (ha : pq_R S a 9) (lv : Nat) (hlv : pq_R S lv 230) (dp : Int32) (e6 : hO S a 6 = .int dp) (hd0 : 0 ≤ dp.toInt) (hd1 : dp.toInt ≤ 40) : pq_C l D cy yX6_here cX6_here 2 (some (.object "PatternPairs$Ends")) 2 3 17 S [.ref a, .ref lv] (fun v S2 => pq_Fr [(230, 0)] S S2 ∧ ∃ x : Nat, v = some (.ref x) ∧ pq_R S2 x 5 ∧ (hR S2 lv dp.toNatClampNeg = some x ∧ ∀ i : Nat, i ≠ dp.toNatClampNeg → hR S2 lv i = hR S lv i)) := by
  refine pq_start (by decide) (Nat.le_of_ble_eq_true rfl) ?_
  intro p e s m args below meth c A F hr hlk hnm hA
  have lqm1 : (-1 : Int32).toInt = -1 := rfl
  have lq0 : (0 : Int32).toInt = 0 := rfl
  have lq1 : (1 : Int32).toInt = 1 := rfl
  refine pq_aload_n F dX6_here_0 rfl rfl ?_
  refine pq_aload_n F dX6_here_1 rfl rfl ?_
  refine pq_get F ha (by decide) lk_X6_45 e6 dX6_here_2 ?_
  refine pq_aald F hlv (by decide) (fun n1_5 n2_5 => (by change _ ≤ _ at n1_5; change _ ≤ 41 at n2_5; change 41 ≤ _ at n1_5; focus ((try clear k5); (try clear k27); (try clear e5); (try clear e27); simp only [vp_in_iff, Int32.lt_iff_toInt_lt, Int32.le_iff_toInt_le, ← Int32.toInt_inj, Int32.toInt_add, Int32.toInt_sub, Int32.toInt_mul, Int32.toInt_neg, pq_NuO, pq_NuI, pq_NuJ, pq_NuR, pq_shr6, pq_shr7, pq_shr8, lqm1, lq0, lq1] at *; (try simp (disch := omega) only [pq_bm] at *); all_goals omega))) dX6_here_5 (fun o5 e5 k5 => ?_)
  rcases o5 with _ | b5
  · skip
    refine pq_nonnullN F dX6_here_6 ?_
    refine pq_aload_n F dX6_here_9 rfl rfl ?_
    refine pq_aload_n F dX6_here_10 rfl rfl ?_
    refine pq_get F ha (by decide) lk_X6_45 e6 dX6_here_11 ?_
    refine pq_newO F nw_X6_9 (by decide) (fun _ => rfl) (Nat.le_of_ble_eq_true rfl) (Nat.le_of_ble_eq_true rfl) dX6_here_14 (fun q14 nq14 h14 => ?_)
    have ha_14 := pq_nR (r := 65) (n := 0) (ds := (fun k => defaultValue (tyX2 k))) nq14 ha
    have hlv_14 := pq_nR (r := 65) (n := 0) (ds := (fun k => defaultValue (tyX2 k))) nq14 hlv
    refine pq_dup F dX6_here_17 rfl ?_
    refine pq_callI (As := []) F (k_X2_init l D cy _ _ ?_ (show va_up S.2.2.1 q14 _ q14 2 = _ by rw [va_up_self]; rfl)) ml_X6_20 (Nat.le_of_ble_eq_true rfl) ⟨Nat.le_of_ble_eq_true rfl, Nat.le_of_ble_eq_true rfl⟩ ⟨Nat.le_of_ble_eq_true rfl, Nat.le_of_ble_eq_true rfl⟩ dX6_here_18 (fun v18 S18 w18 => ?_)
    · exact h14
    obtain ⟨rfl, hG18, hy18⟩ := w18
    have ha_18 := (hG18 _ _ ha_14 (pq_nrole ha_14 h14 (by decide))).1
    have hlv_18 := (hG18 _ _ hlv_14 (pq_nrole hlv_14 h14 (by decide))).1
    have ec18_6_ha_18 := hG18.e ha_14 (pq_nrole ha_14 h14 (by decide)) (pq_nO nq14 ha e6)
    refine pq_aast F hlv_18 (by decide) hy18 (by decide) rfl (fun n1_21 n2_21 => (by change _ ≤ 41 at n2_21; change 41 ≤ _ at n1_21; focus ((try clear k5); (try clear k27); (try clear e5); (try clear e27); simp only [vp_in_iff, Int32.lt_iff_toInt_lt, Int32.le_iff_toInt_le, ← Int32.toInt_inj, Int32.toInt_add, Int32.toInt_sub, Int32.toInt_mul, Int32.toInt_neg, pq_NuO, pq_NuI, pq_NuJ, pq_NuR, pq_shr6, pq_shr7, pq_shr8, lqm1, lq0, lq1] at *; (try simp (disch := omega) only [pq_bm] at *); all_goals omega))) (⟨fun z => absurd z (by decide), fun _ b hb => (by cases hb; exact hy18)⟩) dX6_here_21 ?_
    refine pq_aload_n F dX6_here_22 rfl rfl ?_
    refine pq_aload_n F dX6_here_23 rfl rfl ?_
    refine pq_get F ha_18 (by decide) lk_X6_45 ec18_6_ha_18 dX6_here_24 ?_
    refine pq_aald F hlv_18 (by decide) (fun n1_27 n2_27 => (by change _ ≤ _ at n1_27; change _ ≤ 41 at n2_27; change 41 ≤ _ at n1_27; focus ((try clear k5); (try clear k27); (try clear e5); (try clear e27); simp only [vp_in_iff, Int32.lt_iff_toInt_lt, Int32.le_iff_toInt_le, ← Int32.toInt_inj, Int32.toInt_add, Int32.toInt_sub, Int32.toInt_mul, Int32.toInt_neg, pq_NuO, pq_NuI, pq_NuJ, pq_NuR, pq_shr6, pq_shr7, pq_shr8, lqm1, lq0, lq1] at *; (try simp (disch := omega) only [pq_bm] at *); all_goals omega))) dX6_here_27 (fun o27 e27 k27 => ?_)
    have e27b : o27 = some q14 := e27.trans (by show va_up S18.2.2.2.2.2.2 lv (va_up (hR S18 lv) dp.toNatClampNeg (some q14)) lv dp.toNatClampNeg = _; rw [va_up_self, va_up_self])
    subst e27b
    have h27 : pq_R _ q14 5 := hy18
    exact pq_aret F hr (by first | exact Or.inl ⟨_, rfl⟩ | exact Or.inr ⟨_, rfl⟩) hlk hA (Nat.le_of_ble_eq_true rfl) (Nat.le_of_ble_eq_true rfl) (⟨((pq_Fr.rf.gn nq14 hG18).uR hlv_18 (by decide)), q14, rfl, h27, (by show va_up S18.2.2.2.2.2.2 lv _ lv dp.toNatClampNeg = _; rw [va_up_self, va_up_self]), fun i hi => (by show va_up S18.2.2.2.2.2.2 lv _ lv i = _; rw [va_up_self, va_up_ne _ _ hi]; have z := (hG18 lv 230 hlv_14 (pq_nrole hlv_14 h14 (by decide))).2.2.2.2.2; exact (congrFun z i).trans (by show va_up S.2.2.2.2.2.2 q14 _ lv i = _; rw [va_up_ne _ _ (pq_nrole hlv_14 h14 (by decide))]))⟩) dX6_here_28
  · skip
    have h5 : pq_R S b5 5 := k5.2 (Or.inl rfl) b5 rfl
    refine pq_nonnull (tgt := 22) F dX6_here_6 (by decide) ?_
    refine pq_aload_n F dX6_here_22 rfl rfl ?_
    refine pq_aload_n F dX6_here_23 rfl rfl ?_
    refine pq_get F ha (by decide) lk_X6_45 e6 dX6_here_24 ?_
    refine pq_aald F hlv (by decide) (fun n1_27 n2_27 => (by change _ ≤ _ at n1_27; change _ ≤ 41 at n2_27; change 41 ≤ _ at n1_27; focus ((try clear k5); (try clear k27); (try clear e5); (try clear e27); simp only [vp_in_iff, Int32.lt_iff_toInt_lt, Int32.le_iff_toInt_le, ← Int32.toInt_inj, Int32.toInt_add, Int32.toInt_sub, Int32.toInt_mul, Int32.toInt_neg, pq_NuO, pq_NuI, pq_NuJ, pq_NuR, pq_shr6, pq_shr7, pq_shr8, lqm1, lq0, lq1] at *; (try simp (disch := omega) only [pq_bm] at *); all_goals omega))) dX6_here_27 (fun o27 e27 k27 => ?_)
    rw [← e5] at e27
    subst e27
    have h27 : pq_R S b5 5 := h5
    exact pq_aret F hr (by first | exact Or.inl ⟨_, rfl⟩ | exact Or.inr ⟨_, rfl⟩) hlk hA (Nat.le_of_ble_eq_true rfl) (Nat.le_of_ble_eq_true rfl) (⟨pq_Fr.rf, b5, rfl, h27, e5.symm, fun _ _ => rfl⟩) dX6_here_28

set_option maxHeartbeats 4000000 in
set_option maxRecDepth 100000 in
theorem k_X6_hereQB (l : Launch) (D : va_G) (cy : Nat → ClassId) (S : HS) (a : Nat) (ha : pq_R S a 9) (lv : Nat) (hlv : pq_R S lv 231) (dp : Int32) (e6 : hO S a 6 = .int dp) (hd0 : 0 ≤ dp.toInt) (hd1 : dp.toInt ≤ 40) : pq_C l D cy yX6_here cX6_here 2 (some (.object "PatternPairs$Ends")) 2 3 17 S [.ref a, .ref lv] (fun v S2 => pq_Fr [(231, 0)] S S2 ∧ ∃ x : Nat, v = some (.ref x) ∧ pq_R S2 x 5 ∧ (hR S2 lv dp.toNatClampNeg = some x ∧ ∀ i : Nat, i ≠ dp.toNatClampNeg → hR S2 lv i = hR S lv i)) := by
  refine pq_start (by decide) (Nat.le_of_ble_eq_true rfl) ?_
  intro p e s m args below meth c A F hr hlk hnm hA
  have lqm1 : (-1 : Int32).toInt = -1 := rfl
  have lq0 : (0 : Int32).toInt = 0 := rfl
  have lq1 : (1 : Int32).toInt = 1 := rfl
  refine pq_aload_n F dX6_here_0 rfl rfl ?_
  refine pq_aload_n F dX6_here_1 rfl rfl ?_
  refine pq_get F ha (by decide) lk_X6_45 e6 dX6_here_2 ?_
  refine pq_aald F hlv (by decide) (fun n1_5 n2_5 => (by change _ ≤ _ at n1_5; change _ ≤ 41 at n2_5; change 41 ≤ _ at n1_5; focus ((try clear k5); (try clear k27); (try clear e5); (try clear e27); simp only [vp_in_iff, Int32.lt_iff_toInt_lt, Int32.le_iff_toInt_le, ← Int32.toInt_inj, Int32.toInt_add, Int32.toInt_sub, Int32.toInt_mul, Int32.toInt_neg, pq_NuO, pq_NuI, pq_NuJ, pq_NuR, pq_shr6, pq_shr7, pq_shr8, lqm1, lq0, lq1] at *; (try simp (disch := omega) only [pq_bm] at *); all_goals omega))) dX6_here_5 (fun o5 e5 k5 => ?_)
  rcases o5 with _ | b5
  · skip
    refine pq_nonnullN F dX6_here_6 ?_
    refine pq_aload_n F dX6_here_9 rfl rfl ?_
    refine pq_aload_n F dX6_here_10 rfl rfl ?_
    refine pq_get F ha (by decide) lk_X6_45 e6 dX6_here_11 ?_
    refine pq_newO F nw_X6_9 (by decide) (fun _ => rfl) (Nat.le_of_ble_eq_true rfl) (Nat.le_of_ble_eq_true rfl) dX6_here_14 (fun q14 nq14 h14 => ?_)
    have ha_14 := pq_nR (r := 65) (n := 0) (ds := (fun k => defaultValue (tyX2 k))) nq14 ha
    have hlv_14 := pq_nR (r := 65) (n := 0) (ds := (fun k => defaultValue (tyX2 k))) nq14 hlv
    refine pq_dup F dX6_here_17 rfl ?_
    refine pq_callI (As := []) F (k_X2_init l D cy _ _ ?_ (show va_up S.2.2.1 q14 _ q14 2 = _ by rw [va_up_self]; rfl)) ml_X6_20 (Nat.le_of_ble_eq_true rfl) ⟨Nat.le_of_ble_eq_true rfl, Nat.le_of_ble_eq_true rfl⟩ ⟨Nat.le_of_ble_eq_true rfl, Nat.le_of_ble_eq_true rfl⟩ dX6_here_18 (fun v18 S18 w18 => ?_)
    · exact h14
    obtain ⟨rfl, hG18, hy18⟩ := w18
    have ha_18 := (hG18 _ _ ha_14 (pq_nrole ha_14 h14 (by decide))).1
    have hlv_18 := (hG18 _ _ hlv_14 (pq_nrole hlv_14 h14 (by decide))).1
    have ec18_6_ha_18 := hG18.e ha_14 (pq_nrole ha_14 h14 (by decide)) (pq_nO nq14 ha e6)
    refine pq_aast F hlv_18 (by decide) hy18 (by decide) rfl (fun n1_21 n2_21 => (by change _ ≤ 41 at n2_21; change 41 ≤ _ at n1_21; focus ((try clear k5); (try clear k27); (try clear e5); (try clear e27); simp only [vp_in_iff, Int32.lt_iff_toInt_lt, Int32.le_iff_toInt_le, ← Int32.toInt_inj, Int32.toInt_add, Int32.toInt_sub, Int32.toInt_mul, Int32.toInt_neg, pq_NuO, pq_NuI, pq_NuJ, pq_NuR, pq_shr6, pq_shr7, pq_shr8, lqm1, lq0, lq1] at *; (try simp (disch := omega) only [pq_bm] at *); all_goals omega))) (⟨fun z => absurd z (by decide), fun _ b hb => (by cases hb; exact hy18)⟩) dX6_here_21 ?_
    refine pq_aload_n F dX6_here_22 rfl rfl ?_
    refine pq_aload_n F dX6_here_23 rfl rfl ?_
    refine pq_get F ha_18 (by decide) lk_X6_45 ec18_6_ha_18 dX6_here_24 ?_
    refine pq_aald F hlv_18 (by decide) (fun n1_27 n2_27 => (by change _ ≤ _ at n1_27; change _ ≤ 41 at n2_27; change 41 ≤ _ at n1_27; focus ((try clear k5); (try clear k27); (try clear e5); (try clear e27); simp only [vp_in_iff, Int32.lt_iff_toInt_lt, Int32.le_iff_toInt_le, ← Int32.toInt_inj, Int32.toInt_add, Int32.toInt_sub, Int32.toInt_mul, Int32.toInt_neg, pq_NuO, pq_NuI, pq_NuJ, pq_NuR, pq_shr6, pq_shr7, pq_shr8, lqm1, lq0, lq1] at *; (try simp (disch := omega) only [pq_bm] at *); all_goals omega))) dX6_here_27 (fun o27 e27 k27 => ?_)
    have e27b : o27 = some q14 := e27.trans (by show va_up S18.2.2.2.2.2.2 lv (va_up (hR S18 lv) dp.toNatClampNeg (some q14)) lv dp.toNatClampNeg = _; rw [va_up_self, va_up_self])
    subst e27b
    have h27 : pq_R _ q14 5 := hy18
    exact pq_aret F hr (by first | exact Or.inl ⟨_, rfl⟩ | exact Or.inr ⟨_, rfl⟩) hlk hA (Nat.le_of_ble_eq_true rfl) (Nat.le_of_ble_eq_true rfl) (⟨((pq_Fr.rf.gn nq14 hG18).uR hlv_18 (by decide)), q14, rfl, h27, (by show va_up S18.2.2.2.2.2.2 lv _ lv dp.toNatClampNeg = _; rw [va_up_self, va_up_self]), fun i hi => (by show va_up S18.2.2.2.2.2.2 lv _ lv i = _; rw [va_up_self, va_up_ne _ _ hi]; have z := (hG18 lv 231 hlv_14 (pq_nrole hlv_14 h14 (by decide))).2.2.2.2.2; exact (congrFun z i).trans (by show va_up S.2.2.2.2.2.2 q14 _ lv i = _; rw [va_up_ne _ _ (pq_nrole hlv_14 h14 (by decide))]))⟩) dX6_here_28
  · skip
    have h5 : pq_R S b5 5 := k5.2 (Or.inr rfl) b5 rfl
    refine pq_nonnull (tgt := 22) F dX6_here_6 (by decide) ?_
    refine pq_aload_n F dX6_here_22 rfl rfl ?_
    refine pq_aload_n F dX6_here_23 rfl rfl ?_
    refine pq_get F ha (by decide) lk_X6_45 e6 dX6_here_24 ?_
    refine pq_aald F hlv (by decide) (fun n1_27 n2_27 => (by change _ ≤ _ at n1_27; change _ ≤ 41 at n2_27; change 41 ≤ _ at n1_27; focus ((try clear k5); (try clear k27); (try clear e5); (try clear e27); simp only [vp_in_iff, Int32.lt_iff_toInt_lt, Int32.le_iff_toInt_le, ← Int32.toInt_inj, Int32.toInt_add, Int32.toInt_sub, Int32.toInt_mul, Int32.toInt_neg, pq_NuO, pq_NuI, pq_NuJ, pq_NuR, pq_shr6, pq_shr7, pq_shr8, lqm1, lq0, lq1] at *; (try simp (disch := omega) only [pq_bm] at *); all_goals omega))) dX6_here_27 (fun o27 e27 k27 => ?_)
    rw [← e5] at e27
    subst e27
    have h27 : pq_R S b5 5 := h5
    exact pq_aret F hr (by first | exact Or.inl ⟨_, rfl⟩ | exact Or.inr ⟨_, rfl⟩) hlk hA (Nat.le_of_ble_eq_true rfl) (Nat.le_of_ble_eq_true rfl) (⟨pq_Fr.rf, b5, rfl, h27, e5.symm, fun _ _ => rfl⟩) dX6_here_28

set_option maxHeartbeats 4000000 in
set_option maxRecDepth 100000 in
theorem k_X6_beginLevel (l : Launch) (D : va_G) (cy : Nat → ClassId) (S : HS) (a : Nat) (ha : pq_R S a 9) (ch sq tp : Nat) (dp at1 br t : Int32) (hB : pq_Rd S a ch sq tp dp at1 br t (dp.toInt - 1)) : pq_C l D cy yX6_beginLevel cX6_beginLevel 1 (none) 4 6 34 S [.ref a] (fun v S2 => v = none ∧ pq_Fr [(190, 0), (191, 0), (5, 2), (230, 0), (231, 0)] S S2 ∧ (pq_Rd S2 a ch sq tp dp at1 br t dp.toInt)) := by
  refine pq_start (by decide) (Nat.le_of_ble_eq_true rfl) ?_
  intro p e s m args below meth c A F hr hlk hnm hA
  have lqm1 : (-1 : Int32).toInt = -1 := rfl
  have lq0 : (0 : Int32).toInt = 0 := rfl
  have lq1 : (1 : Int32).toInt = 1 := rfl
  obtain ⟨hd0, hd1, ha0, ha1, ht0, ht1⟩ := hB.b
  refine pq_aload_n F dX6_beginLevel_0 rfl rfl ?_
  refine pq_aload_n F dX6_beginLevel_1 rfl rfl ?_
  refine pq_get F ha (by decide) lk_X6_11 hB.e2 dX6_beginLevel_2 ?_
  refine pq_callV (As := [_]) F (k_X6_hereCB l D cy _ _ ?_ _ ?_ _ hB.e6 hd0 hd1) ml_X6_59 ha (by decide) rfl (Nat.le_of_ble_eq_true rfl) ⟨Nat.le_of_ble_eq_true rfl, Nat.le_of_ble_eq_true rfl⟩ ⟨Nat.le_of_ble_eq_true rfl, Nat.le_of_ble_eq_true rfl⟩ dX6_beginLevel_5 (fun v5 S5 w5 => ?_)
  · exact ha
  · exact hB.h2
  obtain ⟨hF5, y5, rfl, hy5, p5⟩ := w5
  have ha_5 := (hF5.1 _ _ ha (by decide)).1
  have hz_5 := (hF5.1 _ _ hB.h2 (by decide)).1
  have ec5_2_ha_5 := hF5.O ha (by decide) (by decide) hB.e2
  have hz_5z := (hF5.1 _ _ hB.h3 (by decide)).1
  have ec5_3_ha_5 := hF5.O ha (by decide) (by decide) hB.e3
  have hz_5zz := (hF5.1 _ _ hB.h0 (by decide)).1
  have ec5_0_ha_5 := hF5.O ha (by decide) (by decide) hB.e0
  have ec5_6_ha_5 := hF5.O ha (by decide) (by decide) hB.e6
  have ec5_5_ha_5 := hF5.O ha (by decide) (by decide) hB.e5
  have ec5_7_ha_5 := hF5.O ha (by decide) (by decide) hB.e7
  refine pq_callV (As := []) F (k_X2_becomeNoText l D cy _ _ ?_) ml_X6_73 hy5 (by decide) rfl (Nat.le_of_ble_eq_true rfl) ⟨Nat.le_of_ble_eq_true rfl, Nat.le_of_ble_eq_true rfl⟩ ⟨by decide, by decide⟩ dX6_beginLevel_8 (fun v8 S8 w8 => ?_)
  · exact hy5
  obtain ⟨rfl, hF8⟩ := w8
  have ha_8 := (hF8.1 _ _ ha_5 (by decide)).1
  have hz_8 := (hF8.1 _ _ hz_5 (by decide)).1
  have ec8_2_ha_8 := hF8.O ha_5 (by decide) (by decide) ec5_2_ha_5
  have hz_5z_8 := (hF8.1 _ _ hz_5z (by decide)).1
  have ec8_3_ha_8 := hF8.O ha_5 (by decide) (by decide) ec5_3_ha_5
  have hz_5zz_8 := (hF8.1 _ _ hz_5zz (by decide)).1
  have ec8_0_ha_8 := hF8.O ha_5 (by decide) (by decide) ec5_0_ha_5
  have ec8_6_ha_8 := hF8.O ha_5 (by decide) (by decide) ec5_6_ha_5
  have ec8_5_ha_8 := hF8.O ha_5 (by decide) (by decide) ec5_5_ha_5
  have ec8_7_ha_8 := hF8.O ha_5 (by decide) (by decide) ec5_7_ha_5
  refine pq_aload_n F dX6_beginLevel_11 rfl rfl ?_
  refine pq_aload_n F dX6_beginLevel_12 rfl rfl ?_
  refine pq_get F ha_8 (by decide) lk_X6_17 ec8_3_ha_8 dX6_beginLevel_13 ?_
  refine pq_callV (As := [_]) F (k_X6_hereQB l D cy _ _ ?_ _ ?_ _ ((hF5.O ha (by decide) (by decide) hB.e6 |> hF8.O ha_5 (by decide) (by decide))) hd0 hd1) ml_X6_59 ha_8 (by decide) rfl (Nat.le_of_ble_eq_true rfl) ⟨Nat.le_of_ble_eq_true rfl, Nat.le_of_ble_eq_true rfl⟩ ⟨Nat.le_of_ble_eq_true rfl, Nat.le_of_ble_eq_true rfl⟩ dX6_beginLevel_16 (fun v16 S16 w16 => ?_)
  · exact ha_8
  · exact hz_5z_8
  obtain ⟨hF16, y16, rfl, hy16, p16⟩ := w16
  have ha_16 := (hF16.1 _ _ ha_8 (by decide)).1
  have hz_16 := (hF16.1 _ _ hz_8 (by decide)).1
  have ec16_2_ha_16 := hF16.O ha_8 (by decide) (by decide) ec8_2_ha_8
  have hz_5z_16 := (hF16.1 _ _ hz_5z_8 (by decide)).1
  have ec16_3_ha_16 := hF16.O ha_8 (by decide) (by decide) ec8_3_ha_8
  have hz_5zz_16 := (hF16.1 _ _ hz_5zz_8 (by decide)).1
  have ec16_0_ha_16 := hF16.O ha_8 (by decide) (by decide) ec8_0_ha_8
  have ec16_6_ha_16 := hF16.O ha_8 (by decide) (by decide) ec8_6_ha_8
  have ec16_5_ha_16 := hF16.O ha_8 (by decide) (by decide) ec8_5_ha_8
  have ec16_7_ha_16 := hF16.O ha_8 (by decide) (by decide) ec8_7_ha_8
  refine pq_callV (As := []) F (k_X2_becomeEmptyText l D cy _ _ ?_) ml_X6_76 hy16 (by decide) rfl (Nat.le_of_ble_eq_true rfl) ⟨Nat.le_of_ble_eq_true rfl, Nat.le_of_ble_eq_true rfl⟩ ⟨by decide, by decide⟩ dX6_beginLevel_19 (fun v19 S19 w19 => ?_)
  · exact hy16
  obtain ⟨rfl, hF19⟩ := w19
  have ha_19 := (hF19.1 _ _ ha_16 (by decide)).1
  have hz_19 := (hF19.1 _ _ hz_16 (by decide)).1
  have ec19_2_ha_19 := hF19.O ha_16 (by decide) (by decide) ec16_2_ha_16
  have hz_5z_19 := (hF19.1 _ _ hz_5z_16 (by decide)).1
  have ec19_3_ha_19 := hF19.O ha_16 (by decide) (by decide) ec16_3_ha_16
  have hz_5zz_19 := (hF19.1 _ _ hz_5zz_16 (by decide)).1
  have ec19_0_ha_19 := hF19.O ha_16 (by decide) (by decide) ec16_0_ha_16
  have ec19_6_ha_19 := hF19.O ha_16 (by decide) (by decide) ec16_6_ha_16
  have ec19_5_ha_19 := hF19.O ha_16 (by decide) (by decide) ec16_5_ha_16
  have ec19_7_ha_19 := hF19.O ha_16 (by decide) (by decide) ec16_7_ha_16
  exact pq_vret F hr hlk hA (Nat.le_refl _) (Nat.le_refl _) (⟨rfl, ((((pq_Fr.rf.cm hF5 (by decide)).cm hF8 (by decide)).cm hF16 (by decide)).cm hF19 (by decide)), hB.fr2 (M := [(190, 0), (191, 0), (5, 2), (230, 0), (231, 0)]) ((((pq_Fr.rf.cm hF5 (by decide)).cm hF8 (by decide)).cm hF16 (by decide)).cm hF19 (by decide)) (by decide) (fun i hi => (by have c2 := hF5.R hB.h2 (by decide); have q2 := hF5.R hB.h3 (by decide); have c3 := hF8.R c2 (by decide); have q3 := hF8.R q2 (by decide); have c4 := hF16.R c3 (by decide); have q4 := hF16.R q3 (by decide); have ck := pq_cl hd0; rw [hF19.Rf c4 (by decide) (by decide), hF16.Rf c3 (by decide) (by decide), hF8.Rf c2 (by decide) (by decide), hF19.Rf q4 (by decide) (by decide)]; by_cases z : i = dp.toNatClampNeg; (rw [z]; exact ⟨⟨_, p5.1⟩, ⟨_, p16.1⟩⟩); (rw [p5.2 i z, p16.2 i z, hF8.Rf q2 (by decide) (by decide), hF5.Rf hB.h3 (by decide) (by decide)]; exact hB.j i (by omega))))⟩) dX6_beginLevel_22

set_option maxHeartbeats 4000000 in
set_option maxRecDepth 100000 in
theorem k_X6_openGroup (l : Launch) (D : va_G) (cy : Nat → ClassId) (S : HS) (a : Nat) (ha : pq_R S a 9) (ch sq tp : Nat) (dp at1 br t : Int32) (hB : pq_Rd S a ch sq tp dp at1 br t dp.toInt) (hat : at1.toInt ≤ t.toInt) : pq_C l D cy yX6_openGroup cX6_openGroup 1 (none) 5 6 34 S [.ref a] (fun v S2 => v = none ∧ pq_Fr [(190, 0), (191, 0), (5, 2), (230, 0), (231, 0), (9, 5), (9, 6), (9, 7)] S S2 ∧ (∃ dp2 at2 br2 : Int32, pq_Rd S2 a ch sq tp dp2 at2 br2 t dp2.toInt ∧ (0 ≤ br2.toInt ∨ (br2 = br ∧ at1.toInt + 1 ≤ at2.toInt)))) := by
  refine pq_start (by decide) (Nat.le_of_ble_eq_true rfl) ?_
  intro p e s m args below meth c A F hr hlk hnm hA
  have lqm1 : (-1 : Int32).toInt = -1 := rfl
  have lq0 : (0 : Int32).toInt = 0 := rfl
  have lq1 : (1 : Int32).toInt = 1 := rfl
  have lq40 : (40 : Int32).toInt = 40 := rfl
  obtain ⟨hd0, hd1, ha0, ha1, ht0, ht1⟩ := hB.b
  refine pq_aload_n F dX6_openGroup_0 rfl rfl ?_
  refine pq_get F ha (by decide) lk_X6_45 hB.e6 dX6_openGroup_1 ?_
  refine pq_bipush (v := 40) F dX6_openGroup_4 (by decide) ?_
  refine pq_icmp_lt (tgt := 18) F dX6_openGroup_6 (by decide) (fun c6 => ?_) (fun c6 => ?_)
  · skip
    refine pq_aload_n F dX6_openGroup_18 rfl rfl ?_
    refine pq_dup F dX6_openGroup_19 rfl ?_
    refine pq_get F ha (by decide) lk_X6_38 hB.e5 dX6_openGroup_20 ?_
    refine pq_iconst (v := 1) F dX6_openGroup_23 (by decide) ?_
    refine pq_iadd F dX6_openGroup_24 ?_
    refine pq_putI F ha (by decide) lp_X6_38 rfl (pq_any1 _) (pq_any2 _) dX6_openGroup_25 ?_
    refine pq_aload_n F dX6_openGroup_28 rfl rfl ?_
    refine pq_dup F dX6_openGroup_29 rfl ?_
    refine pq_get F ha (by decide) lk_X6_45 (pq_kp hB.e6 (by decide)) dX6_openGroup_30 ?_
    refine pq_iconst (v := 1) F dX6_openGroup_33 (by decide) ?_
    refine pq_iadd F dX6_openGroup_34 ?_
    refine pq_putI F ha (by decide) lp_X6_45 rfl (by focus ((try clear hB); (try clear hB2); (try clear hB3); (try clear hB4); (try clear p38); (try clear p71); (try clear p19); (try clear p32); (try clear p45); (try clear p55); (try clear p89); (try clear p102); (try clear p109); (try clear p113); (try clear p27); (try clear p24); (try clear p81); simp only [vp_in_iff, Int32.lt_iff_toInt_lt, Int32.le_iff_toInt_le, ← Int32.toInt_inj, Int32.toInt_add, Int32.toInt_sub, Int32.toInt_mul, Int32.toInt_neg, pq_NuO, pq_NuI, pq_NuJ, pq_NuR, pq_shr6, pq_shr7, pq_shr8, lqm1, lq0, lq1, lq40] at *; (try simp (disch := omega) only [pq_bm] at *); all_goals omega)) (by focus ((try clear hB); (try clear hB2); (try clear hB3); (try clear hB4); (try clear p38); (try clear p71); (try clear p19); (try clear p32); (try clear p45); (try clear p55); (try clear p89); (try clear p102); (try clear p109); (try clear p113); (try clear p27); (try clear p24); (try clear p81); simp only [vp_in_iff, Int32.lt_iff_toInt_lt, Int32.le_iff_toInt_le, ← Int32.toInt_inj, Int32.toInt_add, Int32.toInt_sub, Int32.toInt_mul, Int32.toInt_neg, pq_NuO, pq_NuI, pq_NuJ, pq_NuR, pq_shr6, pq_shr7, pq_shr8, lqm1, lq0, lq1, lq40] at *; (try simp (disch := omega) only [pq_bm] at *); all_goals omega)) dX6_openGroup_35 ?_
    refine pq_aload_n F dX6_openGroup_38 rfl rfl ?_
    refine pq_callV (As := []) F (k_X6_beginLevel l D cy _ _ ?_ _ _ _ _ _ _ _ (((hB.p5 (by focus ((try clear hB); (try clear hB2); (try clear hB3); (try clear hB4); (try clear p38); (try clear p71); (try clear p19); (try clear p32); (try clear p45); (try clear p55); (try clear p89); (try clear p102); (try clear p109); (try clear p113); (try clear p27); (try clear p24); (try clear p81); simp only [vp_in_iff, Int32.lt_iff_toInt_lt, Int32.le_iff_toInt_le, ← Int32.toInt_inj, Int32.toInt_add, Int32.toInt_sub, Int32.toInt_mul, Int32.toInt_neg, pq_NuO, pq_NuI, pq_NuJ, pq_NuR, pq_shr6, pq_shr7, pq_shr8, lqm1, lq0, lq1, lq40] at *; (try simp (disch := omega) only [pq_bm] at *); all_goals omega)) (by focus ((try clear hB); (try clear hB2); (try clear hB3); (try clear hB4); (try clear p38); (try clear p71); (try clear p19); (try clear p32); (try clear p45); (try clear p55); (try clear p89); (try clear p102); (try clear p109); (try clear p113); (try clear p27); (try clear p24); (try clear p81); simp only [vp_in_iff, Int32.lt_iff_toInt_lt, Int32.le_iff_toInt_le, ← Int32.toInt_inj, Int32.toInt_add, Int32.toInt_sub, Int32.toInt_mul, Int32.toInt_neg, pq_NuO, pq_NuI, pq_NuJ, pq_NuR, pq_shr6, pq_shr7, pq_shr8, lqm1, lq0, lq1, lq40] at *; (try simp (disch := omega) only [pq_bm] at *); all_goals omega))).p6 (by focus ((try clear hB); (try clear hB2); (try clear hB3); (try clear hB4); (try clear p38); (try clear p71); (try clear p19); (try clear p32); (try clear p45); (try clear p55); (try clear p89); (try clear p102); (try clear p109); (try clear p113); (try clear p27); (try clear p24); (try clear p81); simp only [vp_in_iff, Int32.lt_iff_toInt_lt, Int32.le_iff_toInt_le, ← Int32.toInt_inj, Int32.toInt_add, Int32.toInt_sub, Int32.toInt_mul, Int32.toInt_neg, pq_NuO, pq_NuI, pq_NuJ, pq_NuR, pq_shr6, pq_shr7, pq_shr8, lqm1, lq0, lq1, lq40] at *; (try simp (disch := omega) only [pq_bm] at *); all_goals omega)) (by focus ((try clear hB); (try clear hB2); (try clear hB3); (try clear hB4); (try clear p38); (try clear p71); (try clear p19); (try clear p32); (try clear p45); (try clear p55); (try clear p89); (try clear p102); (try clear p109); (try clear p113); (try clear p27); (try clear p24); (try clear p81); simp only [vp_in_iff, Int32.lt_iff_toInt_lt, Int32.le_iff_toInt_le, ← Int32.toInt_inj, Int32.toInt_add, Int32.toInt_sub, Int32.toInt_mul, Int32.toInt_neg, pq_NuO, pq_NuI, pq_NuJ, pq_NuR, pq_shr6, pq_shr7, pq_shr8, lqm1, lq0, lq1, lq40] at *; (try simp (disch := omega) only [pq_bm] at *); all_goals omega))).less (by focus ((try clear hB); (try clear hB2); (try clear hB3); (try clear hB4); (try clear p38); (try clear p71); (try clear p19); (try clear p32); (try clear p45); (try clear p55); (try clear p89); (try clear p102); (try clear p109); (try clear p113); (try clear p27); (try clear p24); (try clear p81); simp only [vp_in_iff, Int32.lt_iff_toInt_lt, Int32.le_iff_toInt_le, ← Int32.toInt_inj, Int32.toInt_add, Int32.toInt_sub, Int32.toInt_mul, Int32.toInt_neg, pq_NuO, pq_NuI, pq_NuJ, pq_NuR, pq_shr6, pq_shr7, pq_shr8, lqm1, lq0, lq1, lq40] at *; (try simp (disch := omega) only [pq_bm] at *); all_goals omega)))) ml_X6_48 ha (by decide) rfl (Nat.le_of_ble_eq_true rfl) ⟨Nat.le_of_ble_eq_true rfl, Nat.le_of_ble_eq_true rfl⟩ ⟨Nat.le_of_ble_eq_true rfl, Nat.le_of_ble_eq_true rfl⟩ dX6_openGroup_39 (fun v39 S39 w39 => ?_)
    · exact ha
    obtain ⟨rfl, hF39, p39⟩ := w39
    have ha_39 := (hF39.1 _ _ ha (by decide)).1
    have hz_39 := (hF39.1 _ _ hB.h2 (by decide)).1
    have ec39_2_ha_39 := hF39.O ha (by decide) (by decide) (pq_kp (pq_kp hB.e2 (by decide)) (by decide))
    have hz_39z := (hF39.1 _ _ hB.h3 (by decide)).1
    have ec39_3_ha_39 := hF39.O ha (by decide) (by decide) (pq_kp (pq_kp hB.e3 (by decide)) (by decide))
    have hz_39zz := (hF39.1 _ _ hB.h0 (by decide)).1
    have ec39_0_ha_39 := hF39.O ha (by decide) (by decide) (pq_kp (pq_kp hB.e0 (by decide)) (by decide))
    have ec39_7_ha_39 := hF39.O ha (by decide) (by decide) (pq_kp (pq_kp hB.e7 (by decide)) (by decide))
    have ec39_5_ha_39 := hF39.O ha (by decide) (by decide) (pq_kp pq_ks (by decide))
    have ec39_6_ha_39 := hF39.O ha (by decide) (by decide) pq_ks
    exact pq_vret F hr hlk hA (Nat.le_of_ble_eq_true rfl) (Nat.le_of_ble_eq_true rfl) (⟨rfl, (((pq_Fr.rf.uO ha (by decide)).uO ha (by decide)).cm hF39 (by decide)), _, _, _, p39, Or.inr ⟨rfl, (by focus ((try clear hB); (try clear hB2); (try clear hB3); (try clear hB4); (try clear p38); (try clear p71); (try clear p19); (try clear p32); (try clear p45); (try clear p55); (try clear p89); (try clear p102); (try clear p109); (try clear p113); (try clear p27); (try clear p24); (try clear p81); simp only [vp_in_iff, Int32.lt_iff_toInt_lt, Int32.le_iff_toInt_le, ← Int32.toInt_inj, Int32.toInt_add, Int32.toInt_sub, Int32.toInt_mul, Int32.toInt_neg, pq_NuO, pq_NuI, pq_NuJ, pq_NuR, pq_shr6, pq_shr7, pq_shr8, lqm1, lq0, lq1, lq40] at *; (try simp (disch := omega) only [pq_bm] at *); all_goals omega))⟩⟩) dX6_openGroup_42
  · skip
    refine pq_aload_n F dX6_openGroup_9 rfl rfl ?_
    refine pq_aload_n F dX6_openGroup_10 rfl rfl ?_
    refine pq_get F ha (by decide) lk_X6_38 hB.e5 dX6_openGroup_11 ?_
    refine pq_putI F ha (by decide) lp_X6_42 rfl (pq_any1 _) (pq_any2 _) dX6_openGroup_14 ?_
    exact pq_vret F hr hlk hA (Nat.le_of_ble_eq_true rfl) (Nat.le_of_ble_eq_true rfl) (⟨rfl, (pq_Fr.rf.uO ha (by decide)), _, _, _, hB.p7, Or.inl (by focus ((try clear hB); (try clear hB2); (try clear hB3); (try clear hB4); (try clear p38); (try clear p71); (try clear p19); (try clear p32); (try clear p45); (try clear p55); (try clear p89); (try clear p102); (try clear p109); (try clear p113); (try clear p27); (try clear p24); (try clear p81); simp only [vp_in_iff, Int32.lt_iff_toInt_lt, Int32.le_iff_toInt_le, ← Int32.toInt_inj, Int32.toInt_add, Int32.toInt_sub, Int32.toInt_mul, Int32.toInt_neg, pq_NuO, pq_NuI, pq_NuJ, pq_NuR, pq_shr6, pq_shr7, pq_shr8, lqm1, lq0, lq1, lq40] at *; (try simp (disch := omega) only [pq_bm] at *); all_goals omega))⟩) dX6_openGroup_17

set_option maxHeartbeats 4000000 in
set_option maxRecDepth 100000 in
theorem k_X6_nextChoice (l : Launch) (D : va_G) (cy : Nat → ClassId) (S : HS) (a : Nat) (ha : pq_R S a 9) (ch sq tp : Nat) (dp at1 br t : Int32) (hB : pq_Rd S a ch sq tp dp at1 br t dp.toInt) (hat : at1.toInt ≤ t.toInt) : pq_C l D cy yX6_nextChoice cX6_nextChoice 1 (none) 4 0 0 S [.ref a] (fun v S2 => v = none ∧ pq_Fr [(190, 0), (191, 0), (5, 2), (9, 5)] S S2 ∧ (pq_Rd S2 a ch sq tp dp (at1 + 1) br t dp.toInt)) := by
  refine pq_start (by decide) (Nat.le_of_ble_eq_true rfl) ?_
  intro p e s m args below meth c A F hr hlk hnm hA
  have lqm1 : (-1 : Int32).toInt = -1 := rfl
  have lq0 : (0 : Int32).toInt = 0 := rfl
  have lq1 : (1 : Int32).toInt = 1 := rfl
  obtain ⟨hd0, hd1, ha0, ha1, ht0, ht1⟩ := hB.b
  refine pq_aload_n F dX6_nextChoice_0 rfl rfl ?_
  refine pq_dup F dX6_nextChoice_1 rfl ?_
  refine pq_get F ha (by decide) lk_X6_38 hB.e5 dX6_nextChoice_2 ?_
  refine pq_iconst (v := 1) F dX6_nextChoice_5 (by decide) ?_
  refine pq_iadd F dX6_nextChoice_6 ?_
  refine pq_putI F ha (by decide) lp_X6_38 rfl (pq_any1 _) (pq_any2 _) dX6_nextChoice_7 ?_
  refine pq_aload_n F dX6_nextChoice_10 rfl rfl ?_
  refine pq_aload_n F dX6_nextChoice_11 rfl rfl ?_
  refine pq_get F ha (by decide) lk_X6_11 (pq_kp hB.e2 (by decide)) dX6_nextChoice_12 ?_
  refine pq_callV (As := [_]) F (k_X6_hereC l D cy _ _ ?_ _ ?_ _ (hB.p5 (by focus ((try clear hB); (try clear hB2); (try clear hB3); (try clear hB4); (try clear p38); (try clear p71); (try clear p19); (try clear p32); (try clear p45); (try clear p55); (try clear p89); (try clear p102); (try clear p109); (try clear p113); (try clear p27); (try clear p24); (try clear p81); simp only [vp_in_iff, Int32.lt_iff_toInt_lt, Int32.le_iff_toInt_le, ← Int32.toInt_inj, Int32.toInt_add, Int32.toInt_sub, Int32.toInt_mul, Int32.toInt_neg, pq_NuO, pq_NuI, pq_NuJ, pq_NuR, pq_shr6, pq_shr7, pq_shr8, lqm1, lq0, lq1] at *; (try simp (disch := omega) only [pq_bm] at *); all_goals omega)) (by focus ((try clear hB); (try clear hB2); (try clear hB3); (try clear hB4); (try clear p38); (try clear p71); (try clear p19); (try clear p32); (try clear p45); (try clear p55); (try clear p89); (try clear p102); (try clear p109); (try clear p113); (try clear p27); (try clear p24); (try clear p81); simp only [vp_in_iff, Int32.lt_iff_toInt_lt, Int32.le_iff_toInt_le, ← Int32.toInt_inj, Int32.toInt_add, Int32.toInt_sub, Int32.toInt_mul, Int32.toInt_neg, pq_NuO, pq_NuI, pq_NuJ, pq_NuR, pq_shr6, pq_shr7, pq_shr8, lqm1, lq0, lq1] at *; (try simp (disch := omega) only [pq_bm] at *); all_goals omega))).e6 hd0 hd1 ((hB.p5 (by focus ((try clear hB); (try clear hB2); (try clear hB3); (try clear hB4); (try clear p38); (try clear p71); (try clear p19); (try clear p32); (try clear p45); (try clear p55); (try clear p89); (try clear p102); (try clear p109); (try clear p113); (try clear p27); (try clear p24); (try clear p81); simp only [vp_in_iff, Int32.lt_iff_toInt_lt, Int32.le_iff_toInt_le, ← Int32.toInt_inj, Int32.toInt_add, Int32.toInt_sub, Int32.toInt_mul, Int32.toInt_neg, pq_NuO, pq_NuI, pq_NuJ, pq_NuR, pq_shr6, pq_shr7, pq_shr8, lqm1, lq0, lq1] at *; (try simp (disch := omega) only [pq_bm] at *); all_goals omega)) (by focus ((try clear hB); (try clear hB2); (try clear hB3); (try clear hB4); (try clear p38); (try clear p71); (try clear p19); (try clear p32); (try clear p45); (try clear p55); (try clear p89); (try clear p102); (try clear p109); (try clear p113); (try clear p27); (try clear p24); (try clear p81); simp only [vp_in_iff, Int32.lt_iff_toInt_lt, Int32.le_iff_toInt_le, ← Int32.toInt_inj, Int32.toInt_add, Int32.toInt_sub, Int32.toInt_mul, Int32.toInt_neg, pq_NuO, pq_NuI, pq_NuJ, pq_NuR, pq_shr6, pq_shr7, pq_shr8, lqm1, lq0, lq1] at *; (try simp (disch := omega) only [pq_bm] at *); all_goals omega))).c (Int.le_refl _))) ml_X6_59 ha (by decide) rfl (Nat.le_of_ble_eq_true rfl) ⟨Nat.le_of_ble_eq_true rfl, Nat.le_of_ble_eq_true rfl⟩ ⟨by decide, by decide⟩ dX6_nextChoice_15 (fun v15 S15 w15 => ?_)
  · exact ha
  · exact hB.h2
  obtain ⟨u15, y15, rfl, hy15⟩ := w15
  rw [u15]
  rw [u15] at hy15
  refine pq_aload_n F dX6_nextChoice_18 rfl rfl ?_
  refine pq_aload_n F dX6_nextChoice_19 rfl rfl ?_
  refine pq_get F ha (by decide) lk_X6_17 (pq_kp hB.e3 (by decide)) dX6_nextChoice_20 ?_
  refine pq_callV (As := [_]) F (k_X6_hereQ l D cy _ _ ?_ _ ?_ _ (hB.p5 (by focus ((try clear hB); (try clear hB2); (try clear hB3); (try clear hB4); (try clear p38); (try clear p71); (try clear p19); (try clear p32); (try clear p45); (try clear p55); (try clear p89); (try clear p102); (try clear p109); (try clear p113); (try clear p27); (try clear p24); (try clear p81); simp only [vp_in_iff, Int32.lt_iff_toInt_lt, Int32.le_iff_toInt_le, ← Int32.toInt_inj, Int32.toInt_add, Int32.toInt_sub, Int32.toInt_mul, Int32.toInt_neg, pq_NuO, pq_NuI, pq_NuJ, pq_NuR, pq_shr6, pq_shr7, pq_shr8, lqm1, lq0, lq1] at *; (try simp (disch := omega) only [pq_bm] at *); all_goals omega)) (by focus ((try clear hB); (try clear hB2); (try clear hB3); (try clear hB4); (try clear p38); (try clear p71); (try clear p19); (try clear p32); (try clear p45); (try clear p55); (try clear p89); (try clear p102); (try clear p109); (try clear p113); (try clear p27); (try clear p24); (try clear p81); simp only [vp_in_iff, Int32.lt_iff_toInt_lt, Int32.le_iff_toInt_le, ← Int32.toInt_inj, Int32.toInt_add, Int32.toInt_sub, Int32.toInt_mul, Int32.toInt_neg, pq_NuO, pq_NuI, pq_NuJ, pq_NuR, pq_shr6, pq_shr7, pq_shr8, lqm1, lq0, lq1] at *; (try simp (disch := omega) only [pq_bm] at *); all_goals omega))).e6 hd0 hd1 ((hB.p5 (by focus ((try clear hB); (try clear hB2); (try clear hB3); (try clear hB4); (try clear p38); (try clear p71); (try clear p19); (try clear p32); (try clear p45); (try clear p55); (try clear p89); (try clear p102); (try clear p109); (try clear p113); (try clear p27); (try clear p24); (try clear p81); simp only [vp_in_iff, Int32.lt_iff_toInt_lt, Int32.le_iff_toInt_le, ← Int32.toInt_inj, Int32.toInt_add, Int32.toInt_sub, Int32.toInt_mul, Int32.toInt_neg, pq_NuO, pq_NuI, pq_NuJ, pq_NuR, pq_shr6, pq_shr7, pq_shr8, lqm1, lq0, lq1] at *; (try simp (disch := omega) only [pq_bm] at *); all_goals omega)) (by focus ((try clear hB); (try clear hB2); (try clear hB3); (try clear hB4); (try clear p38); (try clear p71); (try clear p19); (try clear p32); (try clear p45); (try clear p55); (try clear p89); (try clear p102); (try clear p109); (try clear p113); (try clear p27); (try clear p24); (try clear p81); simp only [vp_in_iff, Int32.lt_iff_toInt_lt, Int32.le_iff_toInt_le, ← Int32.toInt_inj, Int32.toInt_add, Int32.toInt_sub, Int32.toInt_mul, Int32.toInt_neg, pq_NuO, pq_NuI, pq_NuJ, pq_NuR, pq_shr6, pq_shr7, pq_shr8, lqm1, lq0, lq1] at *; (try simp (disch := omega) only [pq_bm] at *); all_goals omega))).q (Int.le_refl _))) ml_X6_59 ha (by decide) rfl (Nat.le_of_ble_eq_true rfl) ⟨Nat.le_of_ble_eq_true rfl, Nat.le_of_ble_eq_true rfl⟩ ⟨by decide, by decide⟩ dX6_nextChoice_23 (fun v23 S23 w23 => ?_)
  · exact ha
  · exact hB.h3
  obtain ⟨u23, y23, rfl, hy23⟩ := w23
  rw [u23]
  rw [u23] at hy23
  refine pq_callV (As := [_]) F (k_X2_addChoice l D cy _ _ ?_ _ ?_) ml_X6_63 hy15 (by decide) rfl (Nat.le_of_ble_eq_true rfl) ⟨Nat.le_of_ble_eq_true rfl, Nat.le_of_ble_eq_true rfl⟩ ⟨by decide, by decide⟩ dX6_nextChoice_26 (fun v26 S26 w26 => ?_)
  · exact hy15
  · exact hy23
  obtain ⟨rfl, hF26⟩ := w26
  have ha_26 := (hF26.1 _ _ ha (by decide)).1
  have hz_26 := (hF26.1 _ _ hB.h2 (by decide)).1
  have ec26_2_ha_26 := hF26.O ha (by decide) (by decide) (pq_kp hB.e2 (by decide))
  have hz_26z := (hF26.1 _ _ hB.h3 (by decide)).1
  have ec26_3_ha_26 := hF26.O ha (by decide) (by decide) (pq_kp hB.e3 (by decide))
  have hz_26zz := (hF26.1 _ _ hB.h0 (by decide)).1
  have ec26_0_ha_26 := hF26.O ha (by decide) (by decide) (pq_kp hB.e0 (by decide))
  have ec26_6_ha_26 := hF26.O ha (by decide) (by decide) (pq_kp hB.e6 (by decide))
  have ec26_7_ha_26 := hF26.O ha (by decide) (by decide) (pq_kp hB.e7 (by decide))
  have ec26_5_ha_26 := hF26.O ha (by decide) (by decide) pq_ks
  refine pq_aload_n F dX6_nextChoice_29 rfl rfl ?_
  refine pq_aload_n F dX6_nextChoice_30 rfl rfl ?_
  refine pq_get F ha_26 (by decide) lk_X6_17 ec26_3_ha_26 dX6_nextChoice_31 ?_
  refine pq_callV (As := [_]) F (k_X6_hereQ l D cy _ _ ?_ _ ?_ _ (((hB.p5 (by focus ((try clear hB); (try clear hB2); (try clear hB3); (try clear hB4); (try clear p38); (try clear p71); (try clear p19); (try clear p32); (try clear p45); (try clear p55); (try clear p89); (try clear p102); (try clear p109); (try clear p113); (try clear p27); (try clear p24); (try clear p81); simp only [vp_in_iff, Int32.lt_iff_toInt_lt, Int32.le_iff_toInt_le, ← Int32.toInt_inj, Int32.toInt_add, Int32.toInt_sub, Int32.toInt_mul, Int32.toInt_neg, pq_NuO, pq_NuI, pq_NuJ, pq_NuR, pq_shr6, pq_shr7, pq_shr8, lqm1, lq0, lq1] at *; (try simp (disch := omega) only [pq_bm] at *); all_goals omega)) (by focus ((try clear hB); (try clear hB2); (try clear hB3); (try clear hB4); (try clear p38); (try clear p71); (try clear p19); (try clear p32); (try clear p45); (try clear p55); (try clear p89); (try clear p102); (try clear p109); (try clear p113); (try clear p27); (try clear p24); (try clear p81); simp only [vp_in_iff, Int32.lt_iff_toInt_lt, Int32.le_iff_toInt_le, ← Int32.toInt_inj, Int32.toInt_add, Int32.toInt_sub, Int32.toInt_mul, Int32.toInt_neg, pq_NuO, pq_NuI, pq_NuJ, pq_NuR, pq_shr6, pq_shr7, pq_shr8, lqm1, lq0, lq1] at *; (try simp (disch := omega) only [pq_bm] at *); all_goals omega))).fr hF26 (by decide))).e6 hd0 hd1 ((((hB.p5 (by focus ((try clear hB); (try clear hB2); (try clear hB3); (try clear hB4); (try clear p38); (try clear p71); (try clear p19); (try clear p32); (try clear p45); (try clear p55); (try clear p89); (try clear p102); (try clear p109); (try clear p113); (try clear p27); (try clear p24); (try clear p81); simp only [vp_in_iff, Int32.lt_iff_toInt_lt, Int32.le_iff_toInt_le, ← Int32.toInt_inj, Int32.toInt_add, Int32.toInt_sub, Int32.toInt_mul, Int32.toInt_neg, pq_NuO, pq_NuI, pq_NuJ, pq_NuR, pq_shr6, pq_shr7, pq_shr8, lqm1, lq0, lq1] at *; (try simp (disch := omega) only [pq_bm] at *); all_goals omega)) (by focus ((try clear hB); (try clear hB2); (try clear hB3); (try clear hB4); (try clear p38); (try clear p71); (try clear p19); (try clear p32); (try clear p45); (try clear p55); (try clear p89); (try clear p102); (try clear p109); (try clear p113); (try clear p27); (try clear p24); (try clear p81); simp only [vp_in_iff, Int32.lt_iff_toInt_lt, Int32.le_iff_toInt_le, ← Int32.toInt_inj, Int32.toInt_add, Int32.toInt_sub, Int32.toInt_mul, Int32.toInt_neg, pq_NuO, pq_NuI, pq_NuJ, pq_NuR, pq_shr6, pq_shr7, pq_shr8, lqm1, lq0, lq1] at *; (try simp (disch := omega) only [pq_bm] at *); all_goals omega))).fr hF26 (by decide))).q (Int.le_refl _))) ml_X6_59 ha_26 (by decide) rfl (Nat.le_of_ble_eq_true rfl) ⟨Nat.le_of_ble_eq_true rfl, Nat.le_of_ble_eq_true rfl⟩ ⟨by decide, by decide⟩ dX6_nextChoice_34 (fun v34 S34 w34 => ?_)
  · exact ha_26
  · exact hz_26z
  obtain ⟨u34, y34, rfl, hy34⟩ := w34
  rw [u34]
  rw [u34] at hy34
  refine pq_callV (As := []) F (k_X2_becomeEmptyText l D cy _ _ ?_) ml_X6_76 hy34 (by decide) rfl (Nat.le_of_ble_eq_true rfl) ⟨Nat.le_of_ble_eq_true rfl, Nat.le_of_ble_eq_true rfl⟩ ⟨by decide, by decide⟩ dX6_nextChoice_37 (fun v37 S37 w37 => ?_)
  · exact hy34
  obtain ⟨rfl, hF37⟩ := w37
  have ha_37 := (hF37.1 _ _ ha_26 (by decide)).1
  have hz_37 := (hF37.1 _ _ hz_26 (by decide)).1
  have ec37_2_ha_37 := hF37.O ha_26 (by decide) (by decide) ec26_2_ha_26
  have hz_26z_37 := (hF37.1 _ _ hz_26z (by decide)).1
  have ec37_3_ha_37 := hF37.O ha_26 (by decide) (by decide) ec26_3_ha_26
  have hz_26zz_37 := (hF37.1 _ _ hz_26zz (by decide)).1
  have ec37_0_ha_37 := hF37.O ha_26 (by decide) (by decide) ec26_0_ha_26
  have ec37_6_ha_37 := hF37.O ha_26 (by decide) (by decide) ec26_6_ha_26
  have ec37_7_ha_37 := hF37.O ha_26 (by decide) (by decide) ec26_7_ha_26
  have ec37_5_ha_37 := hF37.O ha_26 (by decide) (by decide) ec26_5_ha_26
  exact pq_vret F hr hlk hA (Nat.le_refl _) (Nat.le_refl _) (⟨rfl, (((pq_Fr.rf.uO ha (by decide)).cm hF26 (by decide)).cm hF37 (by decide)), ((hB.p5 (by focus ((try clear hB); (try clear hB2); (try clear hB3); (try clear hB4); (try clear p38); (try clear p71); (try clear p19); (try clear p32); (try clear p45); (try clear p55); (try clear p89); (try clear p102); (try clear p109); (try clear p113); (try clear p27); (try clear p24); (try clear p81); simp only [vp_in_iff, Int32.lt_iff_toInt_lt, Int32.le_iff_toInt_le, ← Int32.toInt_inj, Int32.toInt_add, Int32.toInt_sub, Int32.toInt_mul, Int32.toInt_neg, pq_NuO, pq_NuI, pq_NuJ, pq_NuR, pq_shr6, pq_shr7, pq_shr8, lqm1, lq0, lq1] at *; (try simp (disch := omega) only [pq_bm] at *); all_goals omega)) (by focus ((try clear hB); (try clear hB2); (try clear hB3); (try clear hB4); (try clear p38); (try clear p71); (try clear p19); (try clear p32); (try clear p45); (try clear p55); (try clear p89); (try clear p102); (try clear p109); (try clear p113); (try clear p27); (try clear p24); (try clear p81); simp only [vp_in_iff, Int32.lt_iff_toInt_lt, Int32.le_iff_toInt_le, ← Int32.toInt_inj, Int32.toInt_add, Int32.toInt_sub, Int32.toInt_mul, Int32.toInt_neg, pq_NuO, pq_NuI, pq_NuJ, pq_NuR, pq_shr6, pq_shr7, pq_shr8, lqm1, lq0, lq1] at *; (try simp (disch := omega) only [pq_bm] at *); all_goals omega))).fr hF26 (by decide)).fr hF37 (by decide)⟩) dX6_nextChoice_40

set_option maxHeartbeats 4000000 in
set_option maxRecDepth 100000 in
theorem k_X6_repeatAndAppend (l : Launch) (D : va_G) (cy : Nat → ClassId) (S : HS) (a : Nat) (ha : pq_R S a 9) (ch sq tp : Nat) (dp at1 br t : Int32) (hB : pq_Rd S a ch sq tp dp at1 br t dp.toInt) : pq_C l D cy yX6_repeatAndAppend cX6_repeatAndAppend 2 (none) 3 0 0 S [.ref a] (fun v S2 => v = none ∧ pq_Fr [(9, 5), (5, 2), (190, 0), (191, 0), (195, 0)] S S2 ∧ (∃ at2 : Int32, pq_Rd S2 a ch sq tp dp at2 br t dp.toInt ∧ at1.toInt ≤ at2.toInt)) := by
  refine pq_start (by decide) (Nat.le_of_ble_eq_true rfl) ?_
  intro p e s m args below meth c A F hr hlk hnm hA
  have lqm1 : (-1 : Int32).toInt = -1 := rfl
  have lq0 : (0 : Int32).toInt = 0 := rfl
  have lq1 : (1 : Int32).toInt = 1 := rfl
  have lq43 : (43 : Int32).toInt = 43 := rfl
  have lq63 : (63 : Int32).toInt = 63 := rfl
  obtain ⟨hd0, hd1, ha0, ha1, ht0, ht1⟩ := hB.b
  have L2 : ∀  (fu : Nat) (S1 : HS) (ag : Int32) (at3 : Int32) (hF : pq_Fr [(9, 5), (5, 2), (190, 0), (191, 0), (195, 0)] S S1) (hB3 : pq_Rd S1 a ch sq tp dp at3 br t dp.toInt) (h31 : at1.toInt ≤ at3.toInt), (3000 - at3.toInt).toNat < fu → pq_At p l e (pq_rm 3 0 0) s m args below meth c (pq_Z below args s D cy S 0 0 (fun v S2 => v = none ∧ pq_Fr [(9, 5), (5, 2), (190, 0), (191, 0), (195, 0)] S S2 ∧ (∃ at2 : Int32, pq_Rd S2 a ch sq tp dp at2 br t dp.toInt ∧ at1.toInt ≤ at2.toInt))) D cy A 2 0 0 2 S1 [some (.ref a), some (.int ag)] [] := by
    intro  fu
    induction fu with
    | zero => intro S1 ag at3 hF hB3 h31 hm; exact absurd hm (Nat.not_lt_zero _)
    | succ fu ih =>
      intro S1 ag at3 hF hB3 h31 hm
      have haL := hF.R ha (by first | decide | omega)
      have hb3 := hB3.b
      refine pq_aload_n F dX6_repeatAndAppend_2 rfl rfl ?_
      refine pq_get F haL (by decide) lk_X6_38 hB3.e5 dX6_repeatAndAppend_3 ?_
      refine pq_aload_n F dX6_repeatAndAppend_6 rfl rfl ?_
      refine pq_get F haL (by decide) lk_X6_25 hB3.e0 dX6_repeatAndAppend_7 ?_
      refine pq_get F hB3.h0 (by decide) lk_X6_51 hB3.et dX6_repeatAndAppend_10 ?_
      refine pq_icmp_ge (tgt := 110) F dX6_repeatAndAppend_13 (by decide) (fun c13 => ?_) (fun c13 => ?_)
      · skip
        refine pq_iload_n F dX6_repeatAndAppend_110 rfl rfl ?_
        refine pq_if_eq (tgt := 135) F dX6_repeatAndAppend_111 (by decide) (fun c111 => ?_) (fun c111 => ?_)
        · skip
          refine pq_aload_n F dX6_repeatAndAppend_135 rfl rfl ?_
          refine pq_getR F haL (by decide) lk_X6_29 rfl dX6_repeatAndAppend_136 (fun r136 e136 h136 => ?_)
          refine pq_aload_n F dX6_repeatAndAppend_139 rfl rfl ?_
          refine pq_aload_n F dX6_repeatAndAppend_140 rfl rfl ?_
          refine pq_get F haL (by decide) lk_X6_17 hB3.e3 dX6_repeatAndAppend_141 ?_
          refine pq_callV (As := [_]) F (k_X6_hereQ l D cy _ _ ?_ _ ?_ _ hB3.e6 hd0 hd1 (hB3.q (Int.le_refl _))) ml_X6_59 haL (by decide) rfl (Nat.le_of_ble_eq_true rfl) ⟨Nat.le_of_ble_eq_true rfl, Nat.le_of_ble_eq_true rfl⟩ ⟨by decide, by decide⟩ dX6_repeatAndAppend_144 (fun v144 S144 w144 => ?_)
          · exact haL
          · exact hB3.h3
          obtain ⟨u144, y144, rfl, hy144⟩ := w144
          rw [u144]
          rw [u144] at hy144
          refine pq_getR F hy144 (by decide) lk_X6_148 rfl dX6_repeatAndAppend_147 (fun r147 e147 h147 => ?_)
          refine pq_aload_n F dX6_repeatAndAppend_150 rfl rfl ?_
          refine pq_getR F haL (by decide) lk_X6_21 rfl dX6_repeatAndAppend_151 (fun r151 e151 h151 => ?_)
          refine pq_getR F h151 (by decide) lk_X6_152 rfl dX6_repeatAndAppend_154 (fun r154 e154 h154 => ?_)
          refine pq_callV (As := [_, _]) F (k_X5_link l D cy _ _ ?_ _ ?_ _ ?_) ml_X6_155 h136 (by decide) rfl (Nat.le_of_ble_eq_true rfl) ⟨Nat.le_of_ble_eq_true rfl, Nat.le_of_ble_eq_true rfl⟩ ⟨by decide, by decide⟩ dX6_repeatAndAppend_157 (fun v157 S157 w157 => ?_)
          · exact h136
          · exact h147
          · exact h154
          obtain ⟨rfl, hF157⟩ := w157
          have haL_157 := (hF157.1 _ _ haL (by decide)).1
          have hz_157 := (hF157.1 _ _ hB3.h2 (by decide)).1
          have ec157_2_haL_157 := hF157.O haL (by decide) (by decide) hB3.e2
          have hz_157z := (hF157.1 _ _ hB3.h3 (by decide)).1
          have ec157_3_haL_157 := hF157.O haL (by decide) (by decide) hB3.e3
          have hz_157zz := (hF157.1 _ _ hB3.h0 (by decide)).1
          have ec157_0_haL_157 := hF157.O haL (by decide) (by decide) hB3.e0
          have ec157_5_haL_157 := hF157.O haL (by decide) (by decide) hB3.e5
          have ec157_1_hz_157zz := hF157.O hB3.h0 (by decide) (by decide) hB3.et
          have h136_157 := (hF157.1 _ _ h136 (by decide)).1
          have ec157_1_haL_157 := hF157.O haL (by decide) (by decide) e136
          have h147_157 := (hF157.1 _ _ h147 (by decide)).1
          have hy144_157 := (hF157.1 _ _ hy144 (by decide)).1
          have ec157_1_hy144_157 := hF157.O hy144 (by decide) (by decide) e147
          have h151_157 := (hF157.1 _ _ h151 (by decide)).1
          have ec157_4_haL_157 := hF157.O haL (by decide) (by decide) e151
          have h154_157 := (hF157.1 _ _ h154 (by decide)).1
          have ec157_0_h151_157 := hF157.O h151 (by decide) (by decide) e154
          refine pq_aload_n F dX6_repeatAndAppend_160 rfl rfl ?_
          refine pq_aload_n F dX6_repeatAndAppend_161 rfl rfl ?_
          refine pq_get F haL_157 (by decide) lk_X6_17 ec157_3_haL_157 dX6_repeatAndAppend_162 ?_
          refine pq_callV (As := [_]) F (k_X6_hereQ l D cy _ _ ?_ _ ?_ _ (hB3.fr hF157 (by decide)).e6 hd0 hd1 ((hB3.fr hF157 (by decide)).q (Int.le_refl _))) ml_X6_59 haL_157 (by decide) rfl (Nat.le_of_ble_eq_true rfl) ⟨Nat.le_of_ble_eq_true rfl, Nat.le_of_ble_eq_true rfl⟩ ⟨by decide, by decide⟩ dX6_repeatAndAppend_165 (fun v165 S165 w165 => ?_)
          · exact haL_157
          · exact hz_157z
          obtain ⟨u165, y165, rfl, hy165⟩ := w165
          rw [u165]
          rw [u165] at hy165
          refine pq_aload_n F dX6_repeatAndAppend_168 rfl rfl ?_
          refine pq_get F haL_157 (by decide) lk_X6_21 ec157_4_haL_157 dX6_repeatAndAppend_169 ?_
          refine pq_callV (As := [_]) F (k_X2_append l D cy _ _ ?_ _ ?_) ml_X6_159 hy165 (by decide) rfl (Nat.le_of_ble_eq_true rfl) ⟨Nat.le_of_ble_eq_true rfl, Nat.le_of_ble_eq_true rfl⟩ ⟨by decide, by decide⟩ dX6_repeatAndAppend_172 (fun v172 S172 w172 => ?_)
          · exact hy165
          · exact h151_157
          obtain ⟨rfl, hF172⟩ := w172
          have haL_172 := (hF172.1 _ _ haL_157 (by decide)).1
          have hz_172 := (hF172.1 _ _ hz_157 (by decide)).1
          have ec172_2_haL_172 := hF172.O haL_157 (by decide) (by decide) ec157_2_haL_157
          have hz_157z_172 := (hF172.1 _ _ hz_157z (by decide)).1
          have ec172_3_haL_172 := hF172.O haL_157 (by decide) (by decide) ec157_3_haL_157
          have hz_157zz_172 := (hF172.1 _ _ hz_157zz (by decide)).1
          have ec172_0_haL_172 := hF172.O haL_157 (by decide) (by decide) ec157_0_haL_157
          have ec172_5_haL_172 := hF172.O haL_157 (by decide) (by decide) ec157_5_haL_157
          have ec172_1_hz_157zz_172 := hF172.O hz_157zz (by decide) (by decide) ec157_1_hz_157zz
          have h136_172 := (hF172.1 _ _ h136_157 (by decide)).1
          have ec172_1_haL_172 := hF172.O haL_157 (by decide) (by decide) ec157_1_haL_157
          have h147_172 := (hF172.1 _ _ h147_157 (by decide)).1
          have hy144_172 := (hF172.1 _ _ hy144_157 (by decide)).1
          have ec172_1_hy144_172 := hF172.O hy144_157 (by decide) (by decide) ec157_1_hy144_157
          have h151_172 := (hF172.1 _ _ h151_157 (by decide)).1
          have ec172_4_haL_172 := hF172.O haL_157 (by decide) (by decide) ec157_4_haL_157
          have h154_172 := (hF172.1 _ _ h154_157 (by decide)).1
          have ec172_0_h151_172 := hF172.O h151_157 (by decide) (by decide) ec157_0_h151_157
          exact pq_vret F hr hlk hA (Nat.le_refl _) (Nat.le_refl _) (⟨rfl, ((hF.cm hF157 (by decide)).cm hF172 (by decide)), at3, (hB3.fr hF157 (by decide)).fr hF172 (by decide), h31⟩) dX6_repeatAndAppend_175
        · skip
          refine pq_aload_n F dX6_repeatAndAppend_114 rfl rfl ?_
          refine pq_getR F haL (by decide) lk_X6_29 rfl dX6_repeatAndAppend_115 (fun r115 e115 h115 => ?_)
          refine pq_aload_n F dX6_repeatAndAppend_118 rfl rfl ?_
          refine pq_getR F haL (by decide) lk_X6_21 rfl dX6_repeatAndAppend_119 (fun r119 e119 h119 => ?_)
          refine pq_getR F h119 (by decide) lk_X6_148 rfl dX6_repeatAndAppend_122 (fun r122 e122 h122 => ?_)
          refine pq_aload_n F dX6_repeatAndAppend_125 rfl rfl ?_
          refine pq_get F haL (by decide) lk_X6_21 e119 dX6_repeatAndAppend_126 ?_
          refine pq_getR F h119 (by decide) lk_X6_152 rfl dX6_repeatAndAppend_129 (fun r129 e129 h129 => ?_)
          refine pq_callV (As := [_, _]) F (k_X5_link l D cy _ _ ?_ _ ?_ _ ?_) ml_X6_155 h115 (by decide) rfl (Nat.le_of_ble_eq_true rfl) ⟨Nat.le_of_ble_eq_true rfl, Nat.le_of_ble_eq_true rfl⟩ ⟨by decide, by decide⟩ dX6_repeatAndAppend_132 (fun v132 S132 w132 => ?_)
          · exact h115
          · exact h122
          · exact h129
          obtain ⟨rfl, hF132⟩ := w132
          have haL_132 := (hF132.1 _ _ haL (by decide)).1
          have hz_132 := (hF132.1 _ _ hB3.h2 (by decide)).1
          have ec132_2_haL_132 := hF132.O haL (by decide) (by decide) hB3.e2
          have hz_132z := (hF132.1 _ _ hB3.h3 (by decide)).1
          have ec132_3_haL_132 := hF132.O haL (by decide) (by decide) hB3.e3
          have hz_132zz := (hF132.1 _ _ hB3.h0 (by decide)).1
          have ec132_0_haL_132 := hF132.O haL (by decide) (by decide) hB3.e0
          have ec132_5_haL_132 := hF132.O haL (by decide) (by decide) hB3.e5
          have ec132_1_hz_132zz := hF132.O hB3.h0 (by decide) (by decide) hB3.et
          have h115_132 := (hF132.1 _ _ h115 (by decide)).1
          have ec132_1_haL_132 := hF132.O haL (by decide) (by decide) e115
          have h119_132 := (hF132.1 _ _ h119 (by decide)).1
          have ec132_4_haL_132 := hF132.O haL (by decide) (by decide) e119
          have h122_132 := (hF132.1 _ _ h122 (by decide)).1
          have ec132_1_h119_132 := hF132.O h119 (by decide) (by decide) e122
          have h129_132 := (hF132.1 _ _ h129 (by decide)).1
          have ec132_0_h119_132 := hF132.O h119 (by decide) (by decide) e129
          refine pq_aload_n F dX6_repeatAndAppend_135 rfl rfl ?_
          refine pq_get F haL_132 (by decide) lk_X6_29 ec132_1_haL_132 dX6_repeatAndAppend_136 ?_
          refine pq_aload_n F dX6_repeatAndAppend_139 rfl rfl ?_
          refine pq_aload_n F dX6_repeatAndAppend_140 rfl rfl ?_
          refine pq_get F haL_132 (by decide) lk_X6_17 ec132_3_haL_132 dX6_repeatAndAppend_141 ?_
          refine pq_callV (As := [_]) F (k_X6_hereQ l D cy _ _ ?_ _ ?_ _ (hB3.fr hF132 (by decide)).e6 hd0 hd1 ((hB3.fr hF132 (by decide)).q (Int.le_refl _))) ml_X6_59 haL_132 (by decide) rfl (Nat.le_of_ble_eq_true rfl) ⟨Nat.le_of_ble_eq_true rfl, Nat.le_of_ble_eq_true rfl⟩ ⟨by decide, by decide⟩ dX6_repeatAndAppend_144 (fun v144 S144 w144 => ?_)
          · exact haL_132
          · exact hz_132z
          obtain ⟨u144, y144, rfl, hy144⟩ := w144
          rw [u144]
          rw [u144] at hy144
          refine pq_getR F hy144 (by decide) lk_X6_148 rfl dX6_repeatAndAppend_147 (fun r147 e147 h147 => ?_)
          refine pq_aload_n F dX6_repeatAndAppend_150 rfl rfl ?_
          refine pq_get F haL_132 (by decide) lk_X6_21 ec132_4_haL_132 dX6_repeatAndAppend_151 ?_
          refine pq_get F h119_132 (by decide) lk_X6_152 ec132_0_h119_132 dX6_repeatAndAppend_154 ?_
          refine pq_callV (As := [_, _]) F (k_X5_link l D cy _ _ ?_ _ ?_ _ ?_) ml_X6_155 h115_132 (by decide) rfl (Nat.le_of_ble_eq_true rfl) ⟨Nat.le_of_ble_eq_true rfl, Nat.le_of_ble_eq_true rfl⟩ ⟨by decide, by decide⟩ dX6_repeatAndAppend_157 (fun v157 S157 w157 => ?_)
          · exact h115_132
          · exact h147
          · exact h129_132
          obtain ⟨rfl, hF157⟩ := w157
          have haL_157 := (hF157.1 _ _ haL_132 (by decide)).1
          have hz_157 := (hF157.1 _ _ hz_132 (by decide)).1
          have ec157_2_haL_157 := hF157.O haL_132 (by decide) (by decide) ec132_2_haL_132
          have hz_132z_157 := (hF157.1 _ _ hz_132z (by decide)).1
          have ec157_3_haL_157 := hF157.O haL_132 (by decide) (by decide) ec132_3_haL_132
          have hz_132zz_157 := (hF157.1 _ _ hz_132zz (by decide)).1
          have ec157_0_haL_157 := hF157.O haL_132 (by decide) (by decide) ec132_0_haL_132
          have ec157_5_haL_157 := hF157.O haL_132 (by decide) (by decide) ec132_5_haL_132
          have ec157_1_hz_132zz_157 := hF157.O hz_132zz (by decide) (by decide) ec132_1_hz_132zz
          have h115_157 := (hF157.1 _ _ h115_132 (by decide)).1
          have ec157_1_haL_157 := hF157.O haL_132 (by decide) (by decide) ec132_1_haL_132
          have h119_157 := (hF157.1 _ _ h119_132 (by decide)).1
          have ec157_4_haL_157 := hF157.O haL_132 (by decide) (by decide) ec132_4_haL_132
          have h122_157 := (hF157.1 _ _ h122_132 (by decide)).1
          have ec157_1_h119_157 := hF157.O h119_132 (by decide) (by decide) ec132_1_h119_132
          have h129_157 := (hF157.1 _ _ h129_132 (by decide)).1
          have ec157_0_h119_157 := hF157.O h119_132 (by decide) (by decide) ec132_0_h119_132
          have h147_157 := (hF157.1 _ _ h147 (by decide)).1
          have hy144_157 := (hF157.1 _ _ hy144 (by decide)).1
          have ec157_1_hy144_157 := hF157.O hy144 (by decide) (by decide) e147
          refine pq_aload_n F dX6_repeatAndAppend_160 rfl rfl ?_
          refine pq_aload_n F dX6_repeatAndAppend_161 rfl rfl ?_
          refine pq_get F haL_157 (by decide) lk_X6_17 ec157_3_haL_157 dX6_repeatAndAppend_162 ?_
          refine pq_callV (As := [_]) F (k_X6_hereQ l D cy _ _ ?_ _ ?_ _ ((hB3.fr hF132 (by decide)).fr hF157 (by decide)).e6 hd0 hd1 (((hB3.fr hF132 (by decide)).fr hF157 (by decide)).q (Int.le_refl _))) ml_X6_59 haL_157 (by decide) rfl (Nat.le_of_ble_eq_true rfl) ⟨Nat.le_of_ble_eq_true rfl, Nat.le_of_ble_eq_true rfl⟩ ⟨by decide, by decide⟩ dX6_repeatAndAppend_165 (fun v165 S165 w165 => ?_)
          · exact haL_157
          · exact hz_132z_157
          obtain ⟨u165, y165, rfl, hy165⟩ := w165
          rw [u165]
          rw [u165] at hy165
          refine pq_aload_n F dX6_repeatAndAppend_168 rfl rfl ?_
          refine pq_get F haL_157 (by decide) lk_X6_21 ec157_4_haL_157 dX6_repeatAndAppend_169 ?_
          refine pq_callV (As := [_]) F (k_X2_append l D cy _ _ ?_ _ ?_) ml_X6_159 hy165 (by decide) rfl (Nat.le_of_ble_eq_true rfl) ⟨Nat.le_of_ble_eq_true rfl, Nat.le_of_ble_eq_true rfl⟩ ⟨by decide, by decide⟩ dX6_repeatAndAppend_172 (fun v172 S172 w172 => ?_)
          · exact hy165
          · exact h119_157
          obtain ⟨rfl, hF172⟩ := w172
          have haL_172 := (hF172.1 _ _ haL_157 (by decide)).1
          have hz_172 := (hF172.1 _ _ hz_157 (by decide)).1
          have ec172_2_haL_172 := hF172.O haL_157 (by decide) (by decide) ec157_2_haL_157
          have hz_132z_172 := (hF172.1 _ _ hz_132z_157 (by decide)).1
          have ec172_3_haL_172 := hF172.O haL_157 (by decide) (by decide) ec157_3_haL_157
          have hz_132zz_172 := (hF172.1 _ _ hz_132zz_157 (by decide)).1
          have ec172_0_haL_172 := hF172.O haL_157 (by decide) (by decide) ec157_0_haL_157
          have ec172_5_haL_172 := hF172.O haL_157 (by decide) (by decide) ec157_5_haL_157
          have ec172_1_hz_132zz_172 := hF172.O hz_132zz_157 (by decide) (by decide) ec157_1_hz_132zz_157
          have h115_172 := (hF172.1 _ _ h115_157 (by decide)).1
          have ec172_1_haL_172 := hF172.O haL_157 (by decide) (by decide) ec157_1_haL_157
          have h119_172 := (hF172.1 _ _ h119_157 (by decide)).1
          have ec172_4_haL_172 := hF172.O haL_157 (by decide) (by decide) ec157_4_haL_157
          have h122_172 := (hF172.1 _ _ h122_157 (by decide)).1
          have ec172_1_h119_172 := hF172.O h119_157 (by decide) (by decide) ec157_1_h119_157
          have h129_172 := (hF172.1 _ _ h129_157 (by decide)).1
          have ec172_0_h119_172 := hF172.O h119_157 (by decide) (by decide) ec157_0_h119_157
          have h147_172 := (hF172.1 _ _ h147_157 (by decide)).1
          have hy144_172 := (hF172.1 _ _ hy144_157 (by decide)).1
          have ec172_1_hy144_172 := hF172.O hy144_157 (by decide) (by decide) ec157_1_hy144_157
          exact pq_vret F hr hlk hA (Nat.le_refl _) (Nat.le_refl _) (⟨rfl, (((hF.cm hF132 (by decide)).cm hF157 (by decide)).cm hF172 (by decide)), at3, ((hB3.fr hF132 (by decide)).fr hF157 (by decide)).fr hF172 (by decide), h31⟩) dX6_repeatAndAppend_175
      · skip
        refine pq_aload_n F dX6_repeatAndAppend_16 rfl rfl ?_
        refine pq_get F haL (by decide) lk_X6_25 hB3.e0 dX6_repeatAndAppend_17 ?_
        refine pq_aload_n F dX6_repeatAndAppend_20 rfl rfl ?_
        refine pq_get F haL (by decide) lk_X6_38 hB3.e5 dX6_repeatAndAppend_21 ?_
        refine pq_callV (As := [_]) F (k_X9_byteAt l D cy _ _ ?_ _) ml_X6_79 hB3.h0 (by decide) rfl (Nat.le_of_ble_eq_true rfl) ⟨Nat.le_of_ble_eq_true rfl, Nat.le_of_ble_eq_true rfl⟩ ⟨by decide, by decide⟩ dX6_repeatAndAppend_24 (fun v24 S24 w24 => ?_)
        · exact hB3.h0
        obtain ⟨u24, y24, rfl, yl24_0, yl24_1, p24⟩ := w24
        rw [u24]
        try rw [u24] at p24
        refine pq_callS (As := [_]) F (k_X6_isRepeat l D cy _ _) ml_X6_140 (Nat.le_of_ble_eq_true rfl) ⟨Nat.le_of_ble_eq_true rfl, Nat.le_of_ble_eq_true rfl⟩ ⟨by decide, by decide⟩ dX6_repeatAndAppend_27 (fun v27 S27 w27 => ?_)
        obtain ⟨u27, y27, rfl, yl27_0, yl27_1, p27⟩ := w27
        rw [u27]
        try rw [u27] at p27
        refine pq_if_eq (tgt := 110) F dX6_repeatAndAppend_30 (by decide) (fun c30 => ?_) (fun c30 => ?_)
        · skip
          refine pq_iload_n F dX6_repeatAndAppend_110 rfl rfl ?_
          refine pq_if_eq (tgt := 135) F dX6_repeatAndAppend_111 (by decide) (fun c111 => ?_) (fun c111 => ?_)
          · skip
            refine pq_aload_n F dX6_repeatAndAppend_135 rfl rfl ?_
            refine pq_getR F haL (by decide) lk_X6_29 rfl dX6_repeatAndAppend_136 (fun r136 e136 h136 => ?_)
            refine pq_aload_n F dX6_repeatAndAppend_139 rfl rfl ?_
            refine pq_aload_n F dX6_repeatAndAppend_140 rfl rfl ?_
            refine pq_get F haL (by decide) lk_X6_17 hB3.e3 dX6_repeatAndAppend_141 ?_
            refine pq_callV (As := [_]) F (k_X6_hereQ l D cy _ _ ?_ _ ?_ _ hB3.e6 hd0 hd1 (hB3.q (Int.le_refl _))) ml_X6_59 haL (by decide) rfl (Nat.le_of_ble_eq_true rfl) ⟨Nat.le_of_ble_eq_true rfl, Nat.le_of_ble_eq_true rfl⟩ ⟨by decide, by decide⟩ dX6_repeatAndAppend_144 (fun v144 S144 w144 => ?_)
            · exact haL
            · exact hB3.h3
            obtain ⟨u144, y144, rfl, hy144⟩ := w144
            rw [u144]
            rw [u144] at hy144
            refine pq_getR F hy144 (by decide) lk_X6_148 rfl dX6_repeatAndAppend_147 (fun r147 e147 h147 => ?_)
            refine pq_aload_n F dX6_repeatAndAppend_150 rfl rfl ?_
            refine pq_getR F haL (by decide) lk_X6_21 rfl dX6_repeatAndAppend_151 (fun r151 e151 h151 => ?_)
            refine pq_getR F h151 (by decide) lk_X6_152 rfl dX6_repeatAndAppend_154 (fun r154 e154 h154 => ?_)
            refine pq_callV (As := [_, _]) F (k_X5_link l D cy _ _ ?_ _ ?_ _ ?_) ml_X6_155 h136 (by decide) rfl (Nat.le_of_ble_eq_true rfl) ⟨Nat.le_of_ble_eq_true rfl, Nat.le_of_ble_eq_true rfl⟩ ⟨by decide, by decide⟩ dX6_repeatAndAppend_157 (fun v157 S157 w157 => ?_)
            · exact h136
            · exact h147
            · exact h154
            obtain ⟨rfl, hF157⟩ := w157
            have haL_157 := (hF157.1 _ _ haL (by decide)).1
            have hz_157 := (hF157.1 _ _ hB3.h2 (by decide)).1
            have ec157_2_haL_157 := hF157.O haL (by decide) (by decide) hB3.e2
            have hz_157z := (hF157.1 _ _ hB3.h3 (by decide)).1
            have ec157_3_haL_157 := hF157.O haL (by decide) (by decide) hB3.e3
            have hz_157zz := (hF157.1 _ _ hB3.h0 (by decide)).1
            have ec157_0_haL_157 := hF157.O haL (by decide) (by decide) hB3.e0
            have ec157_5_haL_157 := hF157.O haL (by decide) (by decide) hB3.e5
            have ec157_1_hz_157zz := hF157.O hB3.h0 (by decide) (by decide) hB3.et
            have h136_157 := (hF157.1 _ _ h136 (by decide)).1
            have ec157_1_haL_157 := hF157.O haL (by decide) (by decide) e136
            have h147_157 := (hF157.1 _ _ h147 (by decide)).1
            have hy144_157 := (hF157.1 _ _ hy144 (by decide)).1
            have ec157_1_hy144_157 := hF157.O hy144 (by decide) (by decide) e147
            have h151_157 := (hF157.1 _ _ h151 (by decide)).1
            have ec157_4_haL_157 := hF157.O haL (by decide) (by decide) e151
            have h154_157 := (hF157.1 _ _ h154 (by decide)).1
            have ec157_0_h151_157 := hF157.O h151 (by decide) (by decide) e154
            refine pq_aload_n F dX6_repeatAndAppend_160 rfl rfl ?_
            refine pq_aload_n F dX6_repeatAndAppend_161 rfl rfl ?_
            refine pq_get F haL_157 (by decide) lk_X6_17 ec157_3_haL_157 dX6_repeatAndAppend_162 ?_
            refine pq_callV (As := [_]) F (k_X6_hereQ l D cy _ _ ?_ _ ?_ _ (hB3.fr hF157 (by decide)).e6 hd0 hd1 ((hB3.fr hF157 (by decide)).q (Int.le_refl _))) ml_X6_59 haL_157 (by decide) rfl (Nat.le_of_ble_eq_true rfl) ⟨Nat.le_of_ble_eq_true rfl, Nat.le_of_ble_eq_true rfl⟩ ⟨by decide, by decide⟩ dX6_repeatAndAppend_165 (fun v165 S165 w165 => ?_)
            · exact haL_157
            · exact hz_157z
            obtain ⟨u165, y165, rfl, hy165⟩ := w165
            rw [u165]
            rw [u165] at hy165
            refine pq_aload_n F dX6_repeatAndAppend_168 rfl rfl ?_
            refine pq_get F haL_157 (by decide) lk_X6_21 ec157_4_haL_157 dX6_repeatAndAppend_169 ?_
            refine pq_callV (As := [_]) F (k_X2_append l D cy _ _ ?_ _ ?_) ml_X6_159 hy165 (by decide) rfl (Nat.le_of_ble_eq_true rfl) ⟨Nat.le_of_ble_eq_true rfl, Nat.le_of_ble_eq_true rfl⟩ ⟨by decide, by decide⟩ dX6_repeatAndAppend_172 (fun v172 S172 w172 => ?_)
            · exact hy165
            · exact h151_157
            obtain ⟨rfl, hF172⟩ := w172
            have haL_172 := (hF172.1 _ _ haL_157 (by decide)).1
            have hz_172 := (hF172.1 _ _ hz_157 (by decide)).1
            have ec172_2_haL_172 := hF172.O haL_157 (by decide) (by decide) ec157_2_haL_157
            have hz_157z_172 := (hF172.1 _ _ hz_157z (by decide)).1
            have ec172_3_haL_172 := hF172.O haL_157 (by decide) (by decide) ec157_3_haL_157
            have hz_157zz_172 := (hF172.1 _ _ hz_157zz (by decide)).1
            have ec172_0_haL_172 := hF172.O haL_157 (by decide) (by decide) ec157_0_haL_157
            have ec172_5_haL_172 := hF172.O haL_157 (by decide) (by decide) ec157_5_haL_157
            have ec172_1_hz_157zz_172 := hF172.O hz_157zz (by decide) (by decide) ec157_1_hz_157zz
            have h136_172 := (hF172.1 _ _ h136_157 (by decide)).1
            have ec172_1_haL_172 := hF172.O haL_157 (by decide) (by decide) ec157_1_haL_157
            have h147_172 := (hF172.1 _ _ h147_157 (by decide)).1
            have hy144_172 := (hF172.1 _ _ hy144_157 (by decide)).1
            have ec172_1_hy144_172 := hF172.O hy144_157 (by decide) (by decide) ec157_1_hy144_157
            have h151_172 := (hF172.1 _ _ h151_157 (by decide)).1
            have ec172_4_haL_172 := hF172.O haL_157 (by decide) (by decide) ec157_4_haL_157
            have h154_172 := (hF172.1 _ _ h154_157 (by decide)).1
            have ec172_0_h151_172 := hF172.O h151_157 (by decide) (by decide) ec157_0_h151_157
            exact pq_vret F hr hlk hA (Nat.le_refl _) (Nat.le_refl _) (⟨rfl, ((hF.cm hF157 (by decide)).cm hF172 (by decide)), at3, (hB3.fr hF157 (by decide)).fr hF172 (by decide), h31⟩) dX6_repeatAndAppend_175
          · skip
            refine pq_aload_n F dX6_repeatAndAppend_114 rfl rfl ?_
            refine pq_getR F haL (by decide) lk_X6_29 rfl dX6_repeatAndAppend_115 (fun r115 e115 h115 => ?_)
            refine pq_aload_n F dX6_repeatAndAppend_118 rfl rfl ?_
            refine pq_getR F haL (by decide) lk_X6_21 rfl dX6_repeatAndAppend_119 (fun r119 e119 h119 => ?_)
            refine pq_getR F h119 (by decide) lk_X6_148 rfl dX6_repeatAndAppend_122 (fun r122 e122 h122 => ?_)
            refine pq_aload_n F dX6_repeatAndAppend_125 rfl rfl ?_
            refine pq_get F haL (by decide) lk_X6_21 e119 dX6_repeatAndAppend_126 ?_
            refine pq_getR F h119 (by decide) lk_X6_152 rfl dX6_repeatAndAppend_129 (fun r129 e129 h129 => ?_)
            refine pq_callV (As := [_, _]) F (k_X5_link l D cy _ _ ?_ _ ?_ _ ?_) ml_X6_155 h115 (by decide) rfl (Nat.le_of_ble_eq_true rfl) ⟨Nat.le_of_ble_eq_true rfl, Nat.le_of_ble_eq_true rfl⟩ ⟨by decide, by decide⟩ dX6_repeatAndAppend_132 (fun v132 S132 w132 => ?_)
            · exact h115
            · exact h122
            · exact h129
            obtain ⟨rfl, hF132⟩ := w132
            have haL_132 := (hF132.1 _ _ haL (by decide)).1
            have hz_132 := (hF132.1 _ _ hB3.h2 (by decide)).1
            have ec132_2_haL_132 := hF132.O haL (by decide) (by decide) hB3.e2
            have hz_132z := (hF132.1 _ _ hB3.h3 (by decide)).1
            have ec132_3_haL_132 := hF132.O haL (by decide) (by decide) hB3.e3
            have hz_132zz := (hF132.1 _ _ hB3.h0 (by decide)).1
            have ec132_0_haL_132 := hF132.O haL (by decide) (by decide) hB3.e0
            have ec132_5_haL_132 := hF132.O haL (by decide) (by decide) hB3.e5
            have ec132_1_hz_132zz := hF132.O hB3.h0 (by decide) (by decide) hB3.et
            have h115_132 := (hF132.1 _ _ h115 (by decide)).1
            have ec132_1_haL_132 := hF132.O haL (by decide) (by decide) e115
            have h119_132 := (hF132.1 _ _ h119 (by decide)).1
            have ec132_4_haL_132 := hF132.O haL (by decide) (by decide) e119
            have h122_132 := (hF132.1 _ _ h122 (by decide)).1
            have ec132_1_h119_132 := hF132.O h119 (by decide) (by decide) e122
            have h129_132 := (hF132.1 _ _ h129 (by decide)).1
            have ec132_0_h119_132 := hF132.O h119 (by decide) (by decide) e129
            refine pq_aload_n F dX6_repeatAndAppend_135 rfl rfl ?_
            refine pq_get F haL_132 (by decide) lk_X6_29 ec132_1_haL_132 dX6_repeatAndAppend_136 ?_
            refine pq_aload_n F dX6_repeatAndAppend_139 rfl rfl ?_
            refine pq_aload_n F dX6_repeatAndAppend_140 rfl rfl ?_
            refine pq_get F haL_132 (by decide) lk_X6_17 ec132_3_haL_132 dX6_repeatAndAppend_141 ?_
            refine pq_callV (As := [_]) F (k_X6_hereQ l D cy _ _ ?_ _ ?_ _ (hB3.fr hF132 (by decide)).e6 hd0 hd1 ((hB3.fr hF132 (by decide)).q (Int.le_refl _))) ml_X6_59 haL_132 (by decide) rfl (Nat.le_of_ble_eq_true rfl) ⟨Nat.le_of_ble_eq_true rfl, Nat.le_of_ble_eq_true rfl⟩ ⟨by decide, by decide⟩ dX6_repeatAndAppend_144 (fun v144 S144 w144 => ?_)
            · exact haL_132
            · exact hz_132z
            obtain ⟨u144, y144, rfl, hy144⟩ := w144
            rw [u144]
            rw [u144] at hy144
            refine pq_getR F hy144 (by decide) lk_X6_148 rfl dX6_repeatAndAppend_147 (fun r147 e147 h147 => ?_)
            refine pq_aload_n F dX6_repeatAndAppend_150 rfl rfl ?_
            refine pq_get F haL_132 (by decide) lk_X6_21 ec132_4_haL_132 dX6_repeatAndAppend_151 ?_
            refine pq_get F h119_132 (by decide) lk_X6_152 ec132_0_h119_132 dX6_repeatAndAppend_154 ?_
            refine pq_callV (As := [_, _]) F (k_X5_link l D cy _ _ ?_ _ ?_ _ ?_) ml_X6_155 h115_132 (by decide) rfl (Nat.le_of_ble_eq_true rfl) ⟨Nat.le_of_ble_eq_true rfl, Nat.le_of_ble_eq_true rfl⟩ ⟨by decide, by decide⟩ dX6_repeatAndAppend_157 (fun v157 S157 w157 => ?_)
            · exact h115_132
            · exact h147
            · exact h129_132
            obtain ⟨rfl, hF157⟩ := w157
            have haL_157 := (hF157.1 _ _ haL_132 (by decide)).1
            have hz_157 := (hF157.1 _ _ hz_132 (by decide)).1
            have ec157_2_haL_157 := hF157.O haL_132 (by decide) (by decide) ec132_2_haL_132
            have hz_132z_157 := (hF157.1 _ _ hz_132z (by decide)).1
            have ec157_3_haL_157 := hF157.O haL_132 (by decide) (by decide) ec132_3_haL_132
            have hz_132zz_157 := (hF157.1 _ _ hz_132zz (by decide)).1
            have ec157_0_haL_157 := hF157.O haL_132 (by decide) (by decide) ec132_0_haL_132
            have ec157_5_haL_157 := hF157.O haL_132 (by decide) (by decide) ec132_5_haL_132
            have ec157_1_hz_132zz_157 := hF157.O hz_132zz (by decide) (by decide) ec132_1_hz_132zz
            have h115_157 := (hF157.1 _ _ h115_132 (by decide)).1
            have ec157_1_haL_157 := hF157.O haL_132 (by decide) (by decide) ec132_1_haL_132
            have h119_157 := (hF157.1 _ _ h119_132 (by decide)).1
            have ec157_4_haL_157 := hF157.O haL_132 (by decide) (by decide) ec132_4_haL_132
            have h122_157 := (hF157.1 _ _ h122_132 (by decide)).1
            have ec157_1_h119_157 := hF157.O h119_132 (by decide) (by decide) ec132_1_h119_132
            have h129_157 := (hF157.1 _ _ h129_132 (by decide)).1
            have ec157_0_h119_157 := hF157.O h119_132 (by decide) (by decide) ec132_0_h119_132
            have h147_157 := (hF157.1 _ _ h147 (by decide)).1
            have hy144_157 := (hF157.1 _ _ hy144 (by decide)).1
            have ec157_1_hy144_157 := hF157.O hy144 (by decide) (by decide) e147
            refine pq_aload_n F dX6_repeatAndAppend_160 rfl rfl ?_
            refine pq_aload_n F dX6_repeatAndAppend_161 rfl rfl ?_
            refine pq_get F haL_157 (by decide) lk_X6_17 ec157_3_haL_157 dX6_repeatAndAppend_162 ?_
            refine pq_callV (As := [_]) F (k_X6_hereQ l D cy _ _ ?_ _ ?_ _ ((hB3.fr hF132 (by decide)).fr hF157 (by decide)).e6 hd0 hd1 (((hB3.fr hF132 (by decide)).fr hF157 (by decide)).q (Int.le_refl _))) ml_X6_59 haL_157 (by decide) rfl (Nat.le_of_ble_eq_true rfl) ⟨Nat.le_of_ble_eq_true rfl, Nat.le_of_ble_eq_true rfl⟩ ⟨by decide, by decide⟩ dX6_repeatAndAppend_165 (fun v165 S165 w165 => ?_)
            · exact haL_157
            · exact hz_132z_157
            obtain ⟨u165, y165, rfl, hy165⟩ := w165
            rw [u165]
            rw [u165] at hy165
            refine pq_aload_n F dX6_repeatAndAppend_168 rfl rfl ?_
            refine pq_get F haL_157 (by decide) lk_X6_21 ec157_4_haL_157 dX6_repeatAndAppend_169 ?_
            refine pq_callV (As := [_]) F (k_X2_append l D cy _ _ ?_ _ ?_) ml_X6_159 hy165 (by decide) rfl (Nat.le_of_ble_eq_true rfl) ⟨Nat.le_of_ble_eq_true rfl, Nat.le_of_ble_eq_true rfl⟩ ⟨by decide, by decide⟩ dX6_repeatAndAppend_172 (fun v172 S172 w172 => ?_)
            · exact hy165
            · exact h119_157
            obtain ⟨rfl, hF172⟩ := w172
            have haL_172 := (hF172.1 _ _ haL_157 (by decide)).1
            have hz_172 := (hF172.1 _ _ hz_157 (by decide)).1
            have ec172_2_haL_172 := hF172.O haL_157 (by decide) (by decide) ec157_2_haL_157
            have hz_132z_172 := (hF172.1 _ _ hz_132z_157 (by decide)).1
            have ec172_3_haL_172 := hF172.O haL_157 (by decide) (by decide) ec157_3_haL_157
            have hz_132zz_172 := (hF172.1 _ _ hz_132zz_157 (by decide)).1
            have ec172_0_haL_172 := hF172.O haL_157 (by decide) (by decide) ec157_0_haL_157
            have ec172_5_haL_172 := hF172.O haL_157 (by decide) (by decide) ec157_5_haL_157
            have ec172_1_hz_132zz_172 := hF172.O hz_132zz_157 (by decide) (by decide) ec157_1_hz_132zz_157
            have h115_172 := (hF172.1 _ _ h115_157 (by decide)).1
            have ec172_1_haL_172 := hF172.O haL_157 (by decide) (by decide) ec157_1_haL_157
            have h119_172 := (hF172.1 _ _ h119_157 (by decide)).1
            have ec172_4_haL_172 := hF172.O haL_157 (by decide) (by decide) ec157_4_haL_157
            have h122_172 := (hF172.1 _ _ h122_157 (by decide)).1
            have ec172_1_h119_172 := hF172.O h119_157 (by decide) (by decide) ec157_1_h119_157
            have h129_172 := (hF172.1 _ _ h129_157 (by decide)).1
            have ec172_0_h119_172 := hF172.O h119_157 (by decide) (by decide) ec157_0_h119_157
            have h147_172 := (hF172.1 _ _ h147_157 (by decide)).1
            have hy144_172 := (hF172.1 _ _ hy144_157 (by decide)).1
            have ec172_1_hy144_172 := hF172.O hy144_157 (by decide) (by decide) ec157_1_hy144_157
            exact pq_vret F hr hlk hA (Nat.le_refl _) (Nat.le_refl _) (⟨rfl, (((hF.cm hF132 (by decide)).cm hF157 (by decide)).cm hF172 (by decide)), at3, ((hB3.fr hF132 (by decide)).fr hF157 (by decide)).fr hF172 (by decide), h31⟩) dX6_repeatAndAppend_175
        · skip
          refine pq_iload_n F dX6_repeatAndAppend_33 rfl rfl ?_
          refine pq_if_ne (tgt := 53) F dX6_repeatAndAppend_34 (by decide) (fun c34 => ?_) (fun c34 => ?_)
          · skip
            refine pq_iconst (v := 1) F dX6_repeatAndAppend_53 (by decide) ?_
            refine pq_goto (tgt := 58) F dX6_repeatAndAppend_54 (by decide) ?_
            refine pq_istore_n F dX6_repeatAndAppend_58 rfl (by decide) ?_
            refine pq_aload_n F dX6_repeatAndAppend_59 rfl rfl ?_
            refine pq_getR F haL (by decide) lk_X6_21 rfl dX6_repeatAndAppend_60 (fun r60 e60 h60 => ?_)
            refine pq_aload_n F dX6_repeatAndAppend_63 rfl rfl ?_
            refine pq_get F haL (by decide) lk_X6_21 e60 dX6_repeatAndAppend_64 ?_
            refine pq_getI F h60 (by decide) lk_X6_144 rfl dX6_repeatAndAppend_67 (fun x67 e67 l67 u67 => ?_)
            refine pq_if_ne (tgt := 89) F dX6_repeatAndAppend_70 (by decide) (fun c70 => ?_) (fun c70 => ?_)
            · skip
              refine pq_iconst (v := 1) F dX6_repeatAndAppend_89 (by decide) ?_
              refine pq_goto (tgt := 94) F dX6_repeatAndAppend_90 (by decide) ?_
              refine pq_putZ F h60 (by decide) lp_X6_144 rfl (by focus ((try clear hB); (try clear hB2); (try clear hB3); (try clear hB4); (try clear p38); (try clear p71); (try clear p19); (try clear p32); (try clear p45); (try clear p55); (try clear p89); (try clear p102); (try clear p109); (try clear p113); (try clear p27); (try clear p24); (try clear p81); (try clear p24); (try clear p27); (try clear p45); (try clear p81); simp only [vp_in_iff, Int32.lt_iff_toInt_lt, Int32.le_iff_toInt_le, ← Int32.toInt_inj, Int32.toInt_add, Int32.toInt_sub, Int32.toInt_mul, Int32.toInt_neg, pq_NuO, pq_NuI, pq_NuJ, pq_NuR, pq_shr6, pq_shr7, pq_shr8, lqm1, lq0, lq1, lq43, lq63] at *; (try simp (disch := omega) only [pq_bm] at *); all_goals omega)) (by focus ((try clear hB); (try clear hB2); (try clear hB3); (try clear hB4); (try clear p38); (try clear p71); (try clear p19); (try clear p32); (try clear p45); (try clear p55); (try clear p89); (try clear p102); (try clear p109); (try clear p113); (try clear p27); (try clear p24); (try clear p81); (try clear p24); (try clear p27); (try clear p45); (try clear p81); simp only [vp_in_iff, Int32.lt_iff_toInt_lt, Int32.le_iff_toInt_le, ← Int32.toInt_inj, Int32.toInt_add, Int32.toInt_sub, Int32.toInt_mul, Int32.toInt_neg, pq_NuO, pq_NuI, pq_NuJ, pq_NuR, pq_shr6, pq_shr7, pq_shr8, lqm1, lq0, lq1, lq43, lq63] at *; (try simp (disch := omega) only [pq_bm] at *); all_goals omega)) dX6_repeatAndAppend_94 ?_
              refine pq_aload_n F dX6_repeatAndAppend_97 rfl rfl ?_
              refine pq_dup F dX6_repeatAndAppend_98 rfl ?_
              refine pq_get F haL (by decide) lk_X6_38 (pq_ko hB3.e5 haL h60 (by decide)) dX6_repeatAndAppend_99 ?_
              refine pq_iconst (v := 1) F dX6_repeatAndAppend_102 (by decide) ?_
              refine pq_iadd F dX6_repeatAndAppend_103 ?_
              refine pq_putI F haL (by decide) lp_X6_38 rfl (pq_any1 _) (pq_any2 _) dX6_repeatAndAppend_104 ?_
              refine pq_goto (tgt := 2) F dX6_repeatAndAppend_107 (by decide) ?_
              exact pq_fgm [true, true] (ih _ _ _ ((hF.uO h60 (by decide)).uO haL (by decide)) ((hB3.po h60 (by decide) (by decide)).p5 (by focus ((try clear hB); (try clear hB2); (try clear hB3); (try clear hB4); (try clear p38); (try clear p71); (try clear p19); (try clear p32); (try clear p45); (try clear p55); (try clear p89); (try clear p102); (try clear p109); (try clear p113); (try clear p27); (try clear p24); (try clear p81); (try clear p24); (try clear p27); (try clear p45); (try clear p81); simp only [vp_in_iff, Int32.lt_iff_toInt_lt, Int32.le_iff_toInt_le, ← Int32.toInt_inj, Int32.toInt_add, Int32.toInt_sub, Int32.toInt_mul, Int32.toInt_neg, pq_NuO, pq_NuI, pq_NuJ, pq_NuR, pq_shr6, pq_shr7, pq_shr8, lqm1, lq0, lq1, lq43, lq63] at *; (try simp (disch := omega) only [pq_bm] at *); all_goals omega)) (by focus ((try clear hB); (try clear hB2); (try clear hB3); (try clear hB4); (try clear p38); (try clear p71); (try clear p19); (try clear p32); (try clear p45); (try clear p55); (try clear p89); (try clear p102); (try clear p109); (try clear p113); (try clear p27); (try clear p24); (try clear p81); (try clear p24); (try clear p27); (try clear p45); (try clear p81); simp only [vp_in_iff, Int32.lt_iff_toInt_lt, Int32.le_iff_toInt_le, ← Int32.toInt_inj, Int32.toInt_add, Int32.toInt_sub, Int32.toInt_mul, Int32.toInt_neg, pq_NuO, pq_NuI, pq_NuJ, pq_NuR, pq_shr6, pq_shr7, pq_shr8, lqm1, lq0, lq1, lq43, lq63] at *; (try simp (disch := omega) only [pq_bm] at *); all_goals omega))) (by focus ((try clear hB); (try clear hB2); (try clear hB3); (try clear hB4); (try clear p38); (try clear p71); (try clear p19); (try clear p32); (try clear p45); (try clear p55); (try clear p89); (try clear p102); (try clear p109); (try clear p113); (try clear p27); (try clear p24); (try clear p81); (try clear p24); (try clear p27); (try clear p45); (try clear p81); simp only [vp_in_iff, Int32.lt_iff_toInt_lt, Int32.le_iff_toInt_le, ← Int32.toInt_inj, Int32.toInt_add, Int32.toInt_sub, Int32.toInt_mul, Int32.toInt_neg, pq_NuO, pq_NuI, pq_NuJ, pq_NuR, pq_shr6, pq_shr7, pq_shr8, lqm1, lq0, lq1, lq43, lq63] at *; (try simp (disch := omega) only [pq_bm] at *); all_goals omega)) (by focus ((try clear hB); (try clear hB2); (try clear hB3); (try clear hB4); (try clear p38); (try clear p71); (try clear p19); (try clear p32); (try clear p45); (try clear p55); (try clear p89); (try clear p102); (try clear p109); (try clear p113); (try clear p27); (try clear p24); (try clear p81); (try clear p24); (try clear p27); (try clear p45); (try clear p81); simp only [vp_in_iff, Int32.lt_iff_toInt_lt, Int32.le_iff_toInt_le, ← Int32.toInt_inj, Int32.toInt_add, Int32.toInt_sub, Int32.toInt_mul, Int32.toInt_neg, pq_NuO, pq_NuI, pq_NuJ, pq_NuR, pq_shr6, pq_shr7, pq_shr8, lqm1, lq0, lq1, lq43, lq63] at *; (try simp (disch := omega) only [pq_bm] at *); all_goals omega)))
            · skip
              refine pq_aload_n F dX6_repeatAndAppend_73 rfl rfl ?_
              refine pq_get F haL (by decide) lk_X6_25 hB3.e0 dX6_repeatAndAppend_74 ?_
              refine pq_aload_n F dX6_repeatAndAppend_77 rfl rfl ?_
              refine pq_get F haL (by decide) lk_X6_38 hB3.e5 dX6_repeatAndAppend_78 ?_
              refine pq_callV (As := [_]) F (k_X9_byteAt l D cy _ _ ?_ _) ml_X6_79 hB3.h0 (by decide) rfl (Nat.le_of_ble_eq_true rfl) ⟨Nat.le_of_ble_eq_true rfl, Nat.le_of_ble_eq_true rfl⟩ ⟨by decide, by decide⟩ dX6_repeatAndAppend_81 (fun v81 S81 w81 => ?_)
              · exact hB3.h0
              obtain ⟨u81, y81, rfl, yl81_0, yl81_1, p81⟩ := w81
              rw [u81]
              try rw [u81] at p81
              refine pq_bipush (v := 43) F dX6_repeatAndAppend_84 (by decide) ?_
              refine pq_icmp_eq (tgt := 93) F dX6_repeatAndAppend_86 (by decide) (fun c86 => ?_) (fun c86 => ?_)
              · skip
                refine pq_iconst (v := 0) F dX6_repeatAndAppend_93 (by decide) ?_
                refine pq_putZ F h60 (by decide) lp_X6_144 rfl (by focus ((try clear hB); (try clear hB2); (try clear hB3); (try clear hB4); (try clear p38); (try clear p71); (try clear p19); (try clear p32); (try clear p45); (try clear p55); (try clear p89); (try clear p102); (try clear p109); (try clear p113); (try clear p27); (try clear p24); (try clear p81); (try clear p24); (try clear p27); (try clear p45); (try clear p81); simp only [vp_in_iff, Int32.lt_iff_toInt_lt, Int32.le_iff_toInt_le, ← Int32.toInt_inj, Int32.toInt_add, Int32.toInt_sub, Int32.toInt_mul, Int32.toInt_neg, pq_NuO, pq_NuI, pq_NuJ, pq_NuR, pq_shr6, pq_shr7, pq_shr8, lqm1, lq0, lq1, lq43, lq63] at *; (try simp (disch := omega) only [pq_bm] at *); all_goals omega)) (by focus ((try clear hB); (try clear hB2); (try clear hB3); (try clear hB4); (try clear p38); (try clear p71); (try clear p19); (try clear p32); (try clear p45); (try clear p55); (try clear p89); (try clear p102); (try clear p109); (try clear p113); (try clear p27); (try clear p24); (try clear p81); (try clear p24); (try clear p27); (try clear p45); (try clear p81); simp only [vp_in_iff, Int32.lt_iff_toInt_lt, Int32.le_iff_toInt_le, ← Int32.toInt_inj, Int32.toInt_add, Int32.toInt_sub, Int32.toInt_mul, Int32.toInt_neg, pq_NuO, pq_NuI, pq_NuJ, pq_NuR, pq_shr6, pq_shr7, pq_shr8, lqm1, lq0, lq1, lq43, lq63] at *; (try simp (disch := omega) only [pq_bm] at *); all_goals omega)) dX6_repeatAndAppend_94 ?_
                refine pq_aload_n F dX6_repeatAndAppend_97 rfl rfl ?_
                refine pq_dup F dX6_repeatAndAppend_98 rfl ?_
                refine pq_get F haL (by decide) lk_X6_38 (pq_ko hB3.e5 haL h60 (by decide)) dX6_repeatAndAppend_99 ?_
                refine pq_iconst (v := 1) F dX6_repeatAndAppend_102 (by decide) ?_
                refine pq_iadd F dX6_repeatAndAppend_103 ?_
                refine pq_putI F haL (by decide) lp_X6_38 rfl (pq_any1 _) (pq_any2 _) dX6_repeatAndAppend_104 ?_
                refine pq_goto (tgt := 2) F dX6_repeatAndAppend_107 (by decide) ?_
                exact pq_fgm [true, true] (ih _ _ _ ((hF.uO h60 (by decide)).uO haL (by decide)) ((hB3.po h60 (by decide) (by decide)).p5 (by focus ((try clear hB); (try clear hB2); (try clear hB3); (try clear hB4); (try clear p38); (try clear p71); (try clear p19); (try clear p32); (try clear p45); (try clear p55); (try clear p89); (try clear p102); (try clear p109); (try clear p113); (try clear p27); (try clear p24); (try clear p81); (try clear p24); (try clear p27); (try clear p45); (try clear p81); simp only [vp_in_iff, Int32.lt_iff_toInt_lt, Int32.le_iff_toInt_le, ← Int32.toInt_inj, Int32.toInt_add, Int32.toInt_sub, Int32.toInt_mul, Int32.toInt_neg, pq_NuO, pq_NuI, pq_NuJ, pq_NuR, pq_shr6, pq_shr7, pq_shr8, lqm1, lq0, lq1, lq43, lq63] at *; (try simp (disch := omega) only [pq_bm] at *); all_goals omega)) (by focus ((try clear hB); (try clear hB2); (try clear hB3); (try clear hB4); (try clear p38); (try clear p71); (try clear p19); (try clear p32); (try clear p45); (try clear p55); (try clear p89); (try clear p102); (try clear p109); (try clear p113); (try clear p27); (try clear p24); (try clear p81); (try clear p24); (try clear p27); (try clear p45); (try clear p81); simp only [vp_in_iff, Int32.lt_iff_toInt_lt, Int32.le_iff_toInt_le, ← Int32.toInt_inj, Int32.toInt_add, Int32.toInt_sub, Int32.toInt_mul, Int32.toInt_neg, pq_NuO, pq_NuI, pq_NuJ, pq_NuR, pq_shr6, pq_shr7, pq_shr8, lqm1, lq0, lq1, lq43, lq63] at *; (try simp (disch := omega) only [pq_bm] at *); all_goals omega))) (by focus ((try clear hB); (try clear hB2); (try clear hB3); (try clear hB4); (try clear p38); (try clear p71); (try clear p19); (try clear p32); (try clear p45); (try clear p55); (try clear p89); (try clear p102); (try clear p109); (try clear p113); (try clear p27); (try clear p24); (try clear p81); (try clear p24); (try clear p27); (try clear p45); (try clear p81); simp only [vp_in_iff, Int32.lt_iff_toInt_lt, Int32.le_iff_toInt_le, ← Int32.toInt_inj, Int32.toInt_add, Int32.toInt_sub, Int32.toInt_mul, Int32.toInt_neg, pq_NuO, pq_NuI, pq_NuJ, pq_NuR, pq_shr6, pq_shr7, pq_shr8, lqm1, lq0, lq1, lq43, lq63] at *; (try simp (disch := omega) only [pq_bm] at *); all_goals omega)) (by focus ((try clear hB); (try clear hB2); (try clear hB3); (try clear hB4); (try clear p38); (try clear p71); (try clear p19); (try clear p32); (try clear p45); (try clear p55); (try clear p89); (try clear p102); (try clear p109); (try clear p113); (try clear p27); (try clear p24); (try clear p81); (try clear p24); (try clear p27); (try clear p45); (try clear p81); simp only [vp_in_iff, Int32.lt_iff_toInt_lt, Int32.le_iff_toInt_le, ← Int32.toInt_inj, Int32.toInt_add, Int32.toInt_sub, Int32.toInt_mul, Int32.toInt_neg, pq_NuO, pq_NuI, pq_NuJ, pq_NuR, pq_shr6, pq_shr7, pq_shr8, lqm1, lq0, lq1, lq43, lq63] at *; (try simp (disch := omega) only [pq_bm] at *); all_goals omega)))
              · skip
                refine pq_iconst (v := 1) F dX6_repeatAndAppend_89 (by decide) ?_
                refine pq_goto (tgt := 94) F dX6_repeatAndAppend_90 (by decide) ?_
                refine pq_putZ F h60 (by decide) lp_X6_144 rfl (by focus ((try clear hB); (try clear hB2); (try clear hB3); (try clear hB4); (try clear p38); (try clear p71); (try clear p19); (try clear p32); (try clear p45); (try clear p55); (try clear p89); (try clear p102); (try clear p109); (try clear p113); (try clear p27); (try clear p24); (try clear p81); (try clear p24); (try clear p27); (try clear p45); (try clear p81); simp only [vp_in_iff, Int32.lt_iff_toInt_lt, Int32.le_iff_toInt_le, ← Int32.toInt_inj, Int32.toInt_add, Int32.toInt_sub, Int32.toInt_mul, Int32.toInt_neg, pq_NuO, pq_NuI, pq_NuJ, pq_NuR, pq_shr6, pq_shr7, pq_shr8, lqm1, lq0, lq1, lq43, lq63] at *; (try simp (disch := omega) only [pq_bm] at *); all_goals omega)) (by focus ((try clear hB); (try clear hB2); (try clear hB3); (try clear hB4); (try clear p38); (try clear p71); (try clear p19); (try clear p32); (try clear p45); (try clear p55); (try clear p89); (try clear p102); (try clear p109); (try clear p113); (try clear p27); (try clear p24); (try clear p81); (try clear p24); (try clear p27); (try clear p45); (try clear p81); simp only [vp_in_iff, Int32.lt_iff_toInt_lt, Int32.le_iff_toInt_le, ← Int32.toInt_inj, Int32.toInt_add, Int32.toInt_sub, Int32.toInt_mul, Int32.toInt_neg, pq_NuO, pq_NuI, pq_NuJ, pq_NuR, pq_shr6, pq_shr7, pq_shr8, lqm1, lq0, lq1, lq43, lq63] at *; (try simp (disch := omega) only [pq_bm] at *); all_goals omega)) dX6_repeatAndAppend_94 ?_
                refine pq_aload_n F dX6_repeatAndAppend_97 rfl rfl ?_
                refine pq_dup F dX6_repeatAndAppend_98 rfl ?_
                refine pq_get F haL (by decide) lk_X6_38 (pq_ko hB3.e5 haL h60 (by decide)) dX6_repeatAndAppend_99 ?_
                refine pq_iconst (v := 1) F dX6_repeatAndAppend_102 (by decide) ?_
                refine pq_iadd F dX6_repeatAndAppend_103 ?_
                refine pq_putI F haL (by decide) lp_X6_38 rfl (pq_any1 _) (pq_any2 _) dX6_repeatAndAppend_104 ?_
                refine pq_goto (tgt := 2) F dX6_repeatAndAppend_107 (by decide) ?_
                exact pq_fgm [true, true] (ih _ _ _ ((hF.uO h60 (by decide)).uO haL (by decide)) ((hB3.po h60 (by decide) (by decide)).p5 (by focus ((try clear hB); (try clear hB2); (try clear hB3); (try clear hB4); (try clear p38); (try clear p71); (try clear p19); (try clear p32); (try clear p45); (try clear p55); (try clear p89); (try clear p102); (try clear p109); (try clear p113); (try clear p27); (try clear p24); (try clear p81); (try clear p24); (try clear p27); (try clear p45); (try clear p81); simp only [vp_in_iff, Int32.lt_iff_toInt_lt, Int32.le_iff_toInt_le, ← Int32.toInt_inj, Int32.toInt_add, Int32.toInt_sub, Int32.toInt_mul, Int32.toInt_neg, pq_NuO, pq_NuI, pq_NuJ, pq_NuR, pq_shr6, pq_shr7, pq_shr8, lqm1, lq0, lq1, lq43, lq63] at *; (try simp (disch := omega) only [pq_bm] at *); all_goals omega)) (by focus ((try clear hB); (try clear hB2); (try clear hB3); (try clear hB4); (try clear p38); (try clear p71); (try clear p19); (try clear p32); (try clear p45); (try clear p55); (try clear p89); (try clear p102); (try clear p109); (try clear p113); (try clear p27); (try clear p24); (try clear p81); (try clear p24); (try clear p27); (try clear p45); (try clear p81); simp only [vp_in_iff, Int32.lt_iff_toInt_lt, Int32.le_iff_toInt_le, ← Int32.toInt_inj, Int32.toInt_add, Int32.toInt_sub, Int32.toInt_mul, Int32.toInt_neg, pq_NuO, pq_NuI, pq_NuJ, pq_NuR, pq_shr6, pq_shr7, pq_shr8, lqm1, lq0, lq1, lq43, lq63] at *; (try simp (disch := omega) only [pq_bm] at *); all_goals omega))) (by focus ((try clear hB); (try clear hB2); (try clear hB3); (try clear hB4); (try clear p38); (try clear p71); (try clear p19); (try clear p32); (try clear p45); (try clear p55); (try clear p89); (try clear p102); (try clear p109); (try clear p113); (try clear p27); (try clear p24); (try clear p81); (try clear p24); (try clear p27); (try clear p45); (try clear p81); simp only [vp_in_iff, Int32.lt_iff_toInt_lt, Int32.le_iff_toInt_le, ← Int32.toInt_inj, Int32.toInt_add, Int32.toInt_sub, Int32.toInt_mul, Int32.toInt_neg, pq_NuO, pq_NuI, pq_NuJ, pq_NuR, pq_shr6, pq_shr7, pq_shr8, lqm1, lq0, lq1, lq43, lq63] at *; (try simp (disch := omega) only [pq_bm] at *); all_goals omega)) (by focus ((try clear hB); (try clear hB2); (try clear hB3); (try clear hB4); (try clear p38); (try clear p71); (try clear p19); (try clear p32); (try clear p45); (try clear p55); (try clear p89); (try clear p102); (try clear p109); (try clear p113); (try clear p27); (try clear p24); (try clear p81); (try clear p24); (try clear p27); (try clear p45); (try clear p81); simp only [vp_in_iff, Int32.lt_iff_toInt_lt, Int32.le_iff_toInt_le, ← Int32.toInt_inj, Int32.toInt_add, Int32.toInt_sub, Int32.toInt_mul, Int32.toInt_neg, pq_NuO, pq_NuI, pq_NuJ, pq_NuR, pq_shr6, pq_shr7, pq_shr8, lqm1, lq0, lq1, lq43, lq63] at *; (try simp (disch := omega) only [pq_bm] at *); all_goals omega)))
          · skip
            refine pq_aload_n F dX6_repeatAndAppend_37 rfl rfl ?_
            refine pq_get F haL (by decide) lk_X6_25 hB3.e0 dX6_repeatAndAppend_38 ?_
            refine pq_aload_n F dX6_repeatAndAppend_41 rfl rfl ?_
            refine pq_get F haL (by decide) lk_X6_38 hB3.e5 dX6_repeatAndAppend_42 ?_
            refine pq_callV (As := [_]) F (k_X9_byteAt l D cy _ _ ?_ _) ml_X6_79 hB3.h0 (by decide) rfl (Nat.le_of_ble_eq_true rfl) ⟨Nat.le_of_ble_eq_true rfl, Nat.le_of_ble_eq_true rfl⟩ ⟨by decide, by decide⟩ dX6_repeatAndAppend_45 (fun v45 S45 w45 => ?_)
            · exact hB3.h0
            obtain ⟨u45, y45, rfl, yl45_0, yl45_1, p45⟩ := w45
            rw [u45]
            try rw [u45] at p45
            refine pq_bipush (v := 63) F dX6_repeatAndAppend_48 (by decide) ?_
            refine pq_icmp_eq (tgt := 57) F dX6_repeatAndAppend_50 (by decide) (fun c50 => ?_) (fun c50 => ?_)
            · skip
              refine pq_iconst (v := 0) F dX6_repeatAndAppend_57 (by decide) ?_
              refine pq_istore_n F dX6_repeatAndAppend_58 rfl (by decide) ?_
              refine pq_aload_n F dX6_repeatAndAppend_59 rfl rfl ?_
              refine pq_getR F haL (by decide) lk_X6_21 rfl dX6_repeatAndAppend_60 (fun r60 e60 h60 => ?_)
              refine pq_aload_n F dX6_repeatAndAppend_63 rfl rfl ?_
              refine pq_get F haL (by decide) lk_X6_21 e60 dX6_repeatAndAppend_64 ?_
              refine pq_getI F h60 (by decide) lk_X6_144 rfl dX6_repeatAndAppend_67 (fun x67 e67 l67 u67 => ?_)
              refine pq_if_ne (tgt := 89) F dX6_repeatAndAppend_70 (by decide) (fun c70 => ?_) (fun c70 => ?_)
              · skip
                refine pq_iconst (v := 1) F dX6_repeatAndAppend_89 (by decide) ?_
                refine pq_goto (tgt := 94) F dX6_repeatAndAppend_90 (by decide) ?_
                refine pq_putZ F h60 (by decide) lp_X6_144 rfl (by focus ((try clear hB); (try clear hB2); (try clear hB3); (try clear hB4); (try clear p38); (try clear p71); (try clear p19); (try clear p32); (try clear p45); (try clear p55); (try clear p89); (try clear p102); (try clear p109); (try clear p113); (try clear p27); (try clear p24); (try clear p81); (try clear p24); (try clear p27); (try clear p45); (try clear p81); simp only [vp_in_iff, Int32.lt_iff_toInt_lt, Int32.le_iff_toInt_le, ← Int32.toInt_inj, Int32.toInt_add, Int32.toInt_sub, Int32.toInt_mul, Int32.toInt_neg, pq_NuO, pq_NuI, pq_NuJ, pq_NuR, pq_shr6, pq_shr7, pq_shr8, lqm1, lq0, lq1, lq43, lq63] at *; (try simp (disch := omega) only [pq_bm] at *); all_goals omega)) (by focus ((try clear hB); (try clear hB2); (try clear hB3); (try clear hB4); (try clear p38); (try clear p71); (try clear p19); (try clear p32); (try clear p45); (try clear p55); (try clear p89); (try clear p102); (try clear p109); (try clear p113); (try clear p27); (try clear p24); (try clear p81); (try clear p24); (try clear p27); (try clear p45); (try clear p81); simp only [vp_in_iff, Int32.lt_iff_toInt_lt, Int32.le_iff_toInt_le, ← Int32.toInt_inj, Int32.toInt_add, Int32.toInt_sub, Int32.toInt_mul, Int32.toInt_neg, pq_NuO, pq_NuI, pq_NuJ, pq_NuR, pq_shr6, pq_shr7, pq_shr8, lqm1, lq0, lq1, lq43, lq63] at *; (try simp (disch := omega) only [pq_bm] at *); all_goals omega)) dX6_repeatAndAppend_94 ?_
                refine pq_aload_n F dX6_repeatAndAppend_97 rfl rfl ?_
                refine pq_dup F dX6_repeatAndAppend_98 rfl ?_
                refine pq_get F haL (by decide) lk_X6_38 (pq_ko hB3.e5 haL h60 (by decide)) dX6_repeatAndAppend_99 ?_
                refine pq_iconst (v := 1) F dX6_repeatAndAppend_102 (by decide) ?_
                refine pq_iadd F dX6_repeatAndAppend_103 ?_
                refine pq_putI F haL (by decide) lp_X6_38 rfl (pq_any1 _) (pq_any2 _) dX6_repeatAndAppend_104 ?_
                refine pq_goto (tgt := 2) F dX6_repeatAndAppend_107 (by decide) ?_
                exact pq_fgm [true, true] (ih _ _ _ ((hF.uO h60 (by decide)).uO haL (by decide)) ((hB3.po h60 (by decide) (by decide)).p5 (by focus ((try clear hB); (try clear hB2); (try clear hB3); (try clear hB4); (try clear p38); (try clear p71); (try clear p19); (try clear p32); (try clear p45); (try clear p55); (try clear p89); (try clear p102); (try clear p109); (try clear p113); (try clear p27); (try clear p24); (try clear p81); (try clear p24); (try clear p27); (try clear p45); (try clear p81); simp only [vp_in_iff, Int32.lt_iff_toInt_lt, Int32.le_iff_toInt_le, ← Int32.toInt_inj, Int32.toInt_add, Int32.toInt_sub, Int32.toInt_mul, Int32.toInt_neg, pq_NuO, pq_NuI, pq_NuJ, pq_NuR, pq_shr6, pq_shr7, pq_shr8, lqm1, lq0, lq1, lq43, lq63] at *; (try simp (disch := omega) only [pq_bm] at *); all_goals omega)) (by focus ((try clear hB); (try clear hB2); (try clear hB3); (try clear hB4); (try clear p38); (try clear p71); (try clear p19); (try clear p32); (try clear p45); (try clear p55); (try clear p89); (try clear p102); (try clear p109); (try clear p113); (try clear p27); (try clear p24); (try clear p81); (try clear p24); (try clear p27); (try clear p45); (try clear p81); simp only [vp_in_iff, Int32.lt_iff_toInt_lt, Int32.le_iff_toInt_le, ← Int32.toInt_inj, Int32.toInt_add, Int32.toInt_sub, Int32.toInt_mul, Int32.toInt_neg, pq_NuO, pq_NuI, pq_NuJ, pq_NuR, pq_shr6, pq_shr7, pq_shr8, lqm1, lq0, lq1, lq43, lq63] at *; (try simp (disch := omega) only [pq_bm] at *); all_goals omega))) (by focus ((try clear hB); (try clear hB2); (try clear hB3); (try clear hB4); (try clear p38); (try clear p71); (try clear p19); (try clear p32); (try clear p45); (try clear p55); (try clear p89); (try clear p102); (try clear p109); (try clear p113); (try clear p27); (try clear p24); (try clear p81); (try clear p24); (try clear p27); (try clear p45); (try clear p81); simp only [vp_in_iff, Int32.lt_iff_toInt_lt, Int32.le_iff_toInt_le, ← Int32.toInt_inj, Int32.toInt_add, Int32.toInt_sub, Int32.toInt_mul, Int32.toInt_neg, pq_NuO, pq_NuI, pq_NuJ, pq_NuR, pq_shr6, pq_shr7, pq_shr8, lqm1, lq0, lq1, lq43, lq63] at *; (try simp (disch := omega) only [pq_bm] at *); all_goals omega)) (by focus ((try clear hB); (try clear hB2); (try clear hB3); (try clear hB4); (try clear p38); (try clear p71); (try clear p19); (try clear p32); (try clear p45); (try clear p55); (try clear p89); (try clear p102); (try clear p109); (try clear p113); (try clear p27); (try clear p24); (try clear p81); (try clear p24); (try clear p27); (try clear p45); (try clear p81); simp only [vp_in_iff, Int32.lt_iff_toInt_lt, Int32.le_iff_toInt_le, ← Int32.toInt_inj, Int32.toInt_add, Int32.toInt_sub, Int32.toInt_mul, Int32.toInt_neg, pq_NuO, pq_NuI, pq_NuJ, pq_NuR, pq_shr6, pq_shr7, pq_shr8, lqm1, lq0, lq1, lq43, lq63] at *; (try simp (disch := omega) only [pq_bm] at *); all_goals omega)))
              · skip
                refine pq_aload_n F dX6_repeatAndAppend_73 rfl rfl ?_
                refine pq_get F haL (by decide) lk_X6_25 hB3.e0 dX6_repeatAndAppend_74 ?_
                refine pq_aload_n F dX6_repeatAndAppend_77 rfl rfl ?_
                refine pq_get F haL (by decide) lk_X6_38 hB3.e5 dX6_repeatAndAppend_78 ?_
                refine pq_callV (As := [_]) F (k_X9_byteAt l D cy _ _ ?_ _) ml_X6_79 hB3.h0 (by decide) rfl (Nat.le_of_ble_eq_true rfl) ⟨Nat.le_of_ble_eq_true rfl, Nat.le_of_ble_eq_true rfl⟩ ⟨by decide, by decide⟩ dX6_repeatAndAppend_81 (fun v81 S81 w81 => ?_)
                · exact hB3.h0
                obtain ⟨u81, y81, rfl, yl81_0, yl81_1, p81⟩ := w81
                rw [u81]
                try rw [u81] at p81
                refine pq_bipush (v := 43) F dX6_repeatAndAppend_84 (by decide) ?_
                refine pq_icmp_eq (tgt := 93) F dX6_repeatAndAppend_86 (by decide) (fun c86 => ?_) (fun c86 => ?_)
                · skip
                  refine pq_iconst (v := 0) F dX6_repeatAndAppend_93 (by decide) ?_
                  refine pq_putZ F h60 (by decide) lp_X6_144 rfl (by focus ((try clear hB); (try clear hB2); (try clear hB3); (try clear hB4); (try clear p38); (try clear p71); (try clear p19); (try clear p32); (try clear p45); (try clear p55); (try clear p89); (try clear p102); (try clear p109); (try clear p113); (try clear p27); (try clear p24); (try clear p81); (try clear p24); (try clear p27); (try clear p45); (try clear p81); simp only [vp_in_iff, Int32.lt_iff_toInt_lt, Int32.le_iff_toInt_le, ← Int32.toInt_inj, Int32.toInt_add, Int32.toInt_sub, Int32.toInt_mul, Int32.toInt_neg, pq_NuO, pq_NuI, pq_NuJ, pq_NuR, pq_shr6, pq_shr7, pq_shr8, lqm1, lq0, lq1, lq43, lq63] at *; (try simp (disch := omega) only [pq_bm] at *); all_goals omega)) (by focus ((try clear hB); (try clear hB2); (try clear hB3); (try clear hB4); (try clear p38); (try clear p71); (try clear p19); (try clear p32); (try clear p45); (try clear p55); (try clear p89); (try clear p102); (try clear p109); (try clear p113); (try clear p27); (try clear p24); (try clear p81); (try clear p24); (try clear p27); (try clear p45); (try clear p81); simp only [vp_in_iff, Int32.lt_iff_toInt_lt, Int32.le_iff_toInt_le, ← Int32.toInt_inj, Int32.toInt_add, Int32.toInt_sub, Int32.toInt_mul, Int32.toInt_neg, pq_NuO, pq_NuI, pq_NuJ, pq_NuR, pq_shr6, pq_shr7, pq_shr8, lqm1, lq0, lq1, lq43, lq63] at *; (try simp (disch := omega) only [pq_bm] at *); all_goals omega)) dX6_repeatAndAppend_94 ?_
                  refine pq_aload_n F dX6_repeatAndAppend_97 rfl rfl ?_
                  refine pq_dup F dX6_repeatAndAppend_98 rfl ?_
                  refine pq_get F haL (by decide) lk_X6_38 (pq_ko hB3.e5 haL h60 (by decide)) dX6_repeatAndAppend_99 ?_
                  refine pq_iconst (v := 1) F dX6_repeatAndAppend_102 (by decide) ?_
                  refine pq_iadd F dX6_repeatAndAppend_103 ?_
                  refine pq_putI F haL (by decide) lp_X6_38 rfl (pq_any1 _) (pq_any2 _) dX6_repeatAndAppend_104 ?_
                  refine pq_goto (tgt := 2) F dX6_repeatAndAppend_107 (by decide) ?_
                  exact pq_fgm [true, true] (ih _ _ _ ((hF.uO h60 (by decide)).uO haL (by decide)) ((hB3.po h60 (by decide) (by decide)).p5 (by focus ((try clear hB); (try clear hB2); (try clear hB3); (try clear hB4); (try clear p38); (try clear p71); (try clear p19); (try clear p32); (try clear p45); (try clear p55); (try clear p89); (try clear p102); (try clear p109); (try clear p113); (try clear p27); (try clear p24); (try clear p81); (try clear p24); (try clear p27); (try clear p45); (try clear p81); simp only [vp_in_iff, Int32.lt_iff_toInt_lt, Int32.le_iff_toInt_le, ← Int32.toInt_inj, Int32.toInt_add, Int32.toInt_sub, Int32.toInt_mul, Int32.toInt_neg, pq_NuO, pq_NuI, pq_NuJ, pq_NuR, pq_shr6, pq_shr7, pq_shr8, lqm1, lq0, lq1, lq43, lq63] at *; (try simp (disch := omega) only [pq_bm] at *); all_goals omega)) (by focus ((try clear hB); (try clear hB2); (try clear hB3); (try clear hB4); (try clear p38); (try clear p71); (try clear p19); (try clear p32); (try clear p45); (try clear p55); (try clear p89); (try clear p102); (try clear p109); (try clear p113); (try clear p27); (try clear p24); (try clear p81); (try clear p24); (try clear p27); (try clear p45); (try clear p81); simp only [vp_in_iff, Int32.lt_iff_toInt_lt, Int32.le_iff_toInt_le, ← Int32.toInt_inj, Int32.toInt_add, Int32.toInt_sub, Int32.toInt_mul, Int32.toInt_neg, pq_NuO, pq_NuI, pq_NuJ, pq_NuR, pq_shr6, pq_shr7, pq_shr8, lqm1, lq0, lq1, lq43, lq63] at *; (try simp (disch := omega) only [pq_bm] at *); all_goals omega))) (by focus ((try clear hB); (try clear hB2); (try clear hB3); (try clear hB4); (try clear p38); (try clear p71); (try clear p19); (try clear p32); (try clear p45); (try clear p55); (try clear p89); (try clear p102); (try clear p109); (try clear p113); (try clear p27); (try clear p24); (try clear p81); (try clear p24); (try clear p27); (try clear p45); (try clear p81); simp only [vp_in_iff, Int32.lt_iff_toInt_lt, Int32.le_iff_toInt_le, ← Int32.toInt_inj, Int32.toInt_add, Int32.toInt_sub, Int32.toInt_mul, Int32.toInt_neg, pq_NuO, pq_NuI, pq_NuJ, pq_NuR, pq_shr6, pq_shr7, pq_shr8, lqm1, lq0, lq1, lq43, lq63] at *; (try simp (disch := omega) only [pq_bm] at *); all_goals omega)) (by focus ((try clear hB); (try clear hB2); (try clear hB3); (try clear hB4); (try clear p38); (try clear p71); (try clear p19); (try clear p32); (try clear p45); (try clear p55); (try clear p89); (try clear p102); (try clear p109); (try clear p113); (try clear p27); (try clear p24); (try clear p81); (try clear p24); (try clear p27); (try clear p45); (try clear p81); simp only [vp_in_iff, Int32.lt_iff_toInt_lt, Int32.le_iff_toInt_le, ← Int32.toInt_inj, Int32.toInt_add, Int32.toInt_sub, Int32.toInt_mul, Int32.toInt_neg, pq_NuO, pq_NuI, pq_NuJ, pq_NuR, pq_shr6, pq_shr7, pq_shr8, lqm1, lq0, lq1, lq43, lq63] at *; (try simp (disch := omega) only [pq_bm] at *); all_goals omega)))
                · skip
                  refine pq_iconst (v := 1) F dX6_repeatAndAppend_89 (by decide) ?_
                  refine pq_goto (tgt := 94) F dX6_repeatAndAppend_90 (by decide) ?_
                  refine pq_putZ F h60 (by decide) lp_X6_144 rfl (by focus ((try clear hB); (try clear hB2); (try clear hB3); (try clear hB4); (try clear p38); (try clear p71); (try clear p19); (try clear p32); (try clear p45); (try clear p55); (try clear p89); (try clear p102); (try clear p109); (try clear p113); (try clear p27); (try clear p24); (try clear p81); (try clear p24); (try clear p27); (try clear p45); (try clear p81); simp only [vp_in_iff, Int32.lt_iff_toInt_lt, Int32.le_iff_toInt_le, ← Int32.toInt_inj, Int32.toInt_add, Int32.toInt_sub, Int32.toInt_mul, Int32.toInt_neg, pq_NuO, pq_NuI, pq_NuJ, pq_NuR, pq_shr6, pq_shr7, pq_shr8, lqm1, lq0, lq1, lq43, lq63] at *; (try simp (disch := omega) only [pq_bm] at *); all_goals omega)) (by focus ((try clear hB); (try clear hB2); (try clear hB3); (try clear hB4); (try clear p38); (try clear p71); (try clear p19); (try clear p32); (try clear p45); (try clear p55); (try clear p89); (try clear p102); (try clear p109); (try clear p113); (try clear p27); (try clear p24); (try clear p81); (try clear p24); (try clear p27); (try clear p45); (try clear p81); simp only [vp_in_iff, Int32.lt_iff_toInt_lt, Int32.le_iff_toInt_le, ← Int32.toInt_inj, Int32.toInt_add, Int32.toInt_sub, Int32.toInt_mul, Int32.toInt_neg, pq_NuO, pq_NuI, pq_NuJ, pq_NuR, pq_shr6, pq_shr7, pq_shr8, lqm1, lq0, lq1, lq43, lq63] at *; (try simp (disch := omega) only [pq_bm] at *); all_goals omega)) dX6_repeatAndAppend_94 ?_
                  refine pq_aload_n F dX6_repeatAndAppend_97 rfl rfl ?_
                  refine pq_dup F dX6_repeatAndAppend_98 rfl ?_
                  refine pq_get F haL (by decide) lk_X6_38 (pq_ko hB3.e5 haL h60 (by decide)) dX6_repeatAndAppend_99 ?_
                  refine pq_iconst (v := 1) F dX6_repeatAndAppend_102 (by decide) ?_
                  refine pq_iadd F dX6_repeatAndAppend_103 ?_
                  refine pq_putI F haL (by decide) lp_X6_38 rfl (pq_any1 _) (pq_any2 _) dX6_repeatAndAppend_104 ?_
                  refine pq_goto (tgt := 2) F dX6_repeatAndAppend_107 (by decide) ?_
                  exact pq_fgm [true, true] (ih _ _ _ ((hF.uO h60 (by decide)).uO haL (by decide)) ((hB3.po h60 (by decide) (by decide)).p5 (by focus ((try clear hB); (try clear hB2); (try clear hB3); (try clear hB4); (try clear p38); (try clear p71); (try clear p19); (try clear p32); (try clear p45); (try clear p55); (try clear p89); (try clear p102); (try clear p109); (try clear p113); (try clear p27); (try clear p24); (try clear p81); (try clear p24); (try clear p27); (try clear p45); (try clear p81); simp only [vp_in_iff, Int32.lt_iff_toInt_lt, Int32.le_iff_toInt_le, ← Int32.toInt_inj, Int32.toInt_add, Int32.toInt_sub, Int32.toInt_mul, Int32.toInt_neg, pq_NuO, pq_NuI, pq_NuJ, pq_NuR, pq_shr6, pq_shr7, pq_shr8, lqm1, lq0, lq1, lq43, lq63] at *; (try simp (disch := omega) only [pq_bm] at *); all_goals omega)) (by focus ((try clear hB); (try clear hB2); (try clear hB3); (try clear hB4); (try clear p38); (try clear p71); (try clear p19); (try clear p32); (try clear p45); (try clear p55); (try clear p89); (try clear p102); (try clear p109); (try clear p113); (try clear p27); (try clear p24); (try clear p81); (try clear p24); (try clear p27); (try clear p45); (try clear p81); simp only [vp_in_iff, Int32.lt_iff_toInt_lt, Int32.le_iff_toInt_le, ← Int32.toInt_inj, Int32.toInt_add, Int32.toInt_sub, Int32.toInt_mul, Int32.toInt_neg, pq_NuO, pq_NuI, pq_NuJ, pq_NuR, pq_shr6, pq_shr7, pq_shr8, lqm1, lq0, lq1, lq43, lq63] at *; (try simp (disch := omega) only [pq_bm] at *); all_goals omega))) (by focus ((try clear hB); (try clear hB2); (try clear hB3); (try clear hB4); (try clear p38); (try clear p71); (try clear p19); (try clear p32); (try clear p45); (try clear p55); (try clear p89); (try clear p102); (try clear p109); (try clear p113); (try clear p27); (try clear p24); (try clear p81); (try clear p24); (try clear p27); (try clear p45); (try clear p81); simp only [vp_in_iff, Int32.lt_iff_toInt_lt, Int32.le_iff_toInt_le, ← Int32.toInt_inj, Int32.toInt_add, Int32.toInt_sub, Int32.toInt_mul, Int32.toInt_neg, pq_NuO, pq_NuI, pq_NuJ, pq_NuR, pq_shr6, pq_shr7, pq_shr8, lqm1, lq0, lq1, lq43, lq63] at *; (try simp (disch := omega) only [pq_bm] at *); all_goals omega)) (by focus ((try clear hB); (try clear hB2); (try clear hB3); (try clear hB4); (try clear p38); (try clear p71); (try clear p19); (try clear p32); (try clear p45); (try clear p55); (try clear p89); (try clear p102); (try clear p109); (try clear p113); (try clear p27); (try clear p24); (try clear p81); (try clear p24); (try clear p27); (try clear p45); (try clear p81); simp only [vp_in_iff, Int32.lt_iff_toInt_lt, Int32.le_iff_toInt_le, ← Int32.toInt_inj, Int32.toInt_add, Int32.toInt_sub, Int32.toInt_mul, Int32.toInt_neg, pq_NuO, pq_NuI, pq_NuJ, pq_NuR, pq_shr6, pq_shr7, pq_shr8, lqm1, lq0, lq1, lq43, lq63] at *; (try simp (disch := omega) only [pq_bm] at *); all_goals omega)))
            · skip
              refine pq_iconst (v := 1) F dX6_repeatAndAppend_53 (by decide) ?_
              refine pq_goto (tgt := 58) F dX6_repeatAndAppend_54 (by decide) ?_
              refine pq_istore_n F dX6_repeatAndAppend_58 rfl (by decide) ?_
              refine pq_aload_n F dX6_repeatAndAppend_59 rfl rfl ?_
              refine pq_getR F haL (by decide) lk_X6_21 rfl dX6_repeatAndAppend_60 (fun r60 e60 h60 => ?_)
              refine pq_aload_n F dX6_repeatAndAppend_63 rfl rfl ?_
              refine pq_get F haL (by decide) lk_X6_21 e60 dX6_repeatAndAppend_64 ?_
              refine pq_getI F h60 (by decide) lk_X6_144 rfl dX6_repeatAndAppend_67 (fun x67 e67 l67 u67 => ?_)
              refine pq_if_ne (tgt := 89) F dX6_repeatAndAppend_70 (by decide) (fun c70 => ?_) (fun c70 => ?_)
              · skip
                refine pq_iconst (v := 1) F dX6_repeatAndAppend_89 (by decide) ?_
                refine pq_goto (tgt := 94) F dX6_repeatAndAppend_90 (by decide) ?_
                refine pq_putZ F h60 (by decide) lp_X6_144 rfl (by focus ((try clear hB); (try clear hB2); (try clear hB3); (try clear hB4); (try clear p38); (try clear p71); (try clear p19); (try clear p32); (try clear p45); (try clear p55); (try clear p89); (try clear p102); (try clear p109); (try clear p113); (try clear p27); (try clear p24); (try clear p81); (try clear p24); (try clear p27); (try clear p45); (try clear p81); simp only [vp_in_iff, Int32.lt_iff_toInt_lt, Int32.le_iff_toInt_le, ← Int32.toInt_inj, Int32.toInt_add, Int32.toInt_sub, Int32.toInt_mul, Int32.toInt_neg, pq_NuO, pq_NuI, pq_NuJ, pq_NuR, pq_shr6, pq_shr7, pq_shr8, lqm1, lq0, lq1, lq43, lq63] at *; (try simp (disch := omega) only [pq_bm] at *); all_goals omega)) (by focus ((try clear hB); (try clear hB2); (try clear hB3); (try clear hB4); (try clear p38); (try clear p71); (try clear p19); (try clear p32); (try clear p45); (try clear p55); (try clear p89); (try clear p102); (try clear p109); (try clear p113); (try clear p27); (try clear p24); (try clear p81); (try clear p24); (try clear p27); (try clear p45); (try clear p81); simp only [vp_in_iff, Int32.lt_iff_toInt_lt, Int32.le_iff_toInt_le, ← Int32.toInt_inj, Int32.toInt_add, Int32.toInt_sub, Int32.toInt_mul, Int32.toInt_neg, pq_NuO, pq_NuI, pq_NuJ, pq_NuR, pq_shr6, pq_shr7, pq_shr8, lqm1, lq0, lq1, lq43, lq63] at *; (try simp (disch := omega) only [pq_bm] at *); all_goals omega)) dX6_repeatAndAppend_94 ?_
                refine pq_aload_n F dX6_repeatAndAppend_97 rfl rfl ?_
                refine pq_dup F dX6_repeatAndAppend_98 rfl ?_
                refine pq_get F haL (by decide) lk_X6_38 (pq_ko hB3.e5 haL h60 (by decide)) dX6_repeatAndAppend_99 ?_
                refine pq_iconst (v := 1) F dX6_repeatAndAppend_102 (by decide) ?_
                refine pq_iadd F dX6_repeatAndAppend_103 ?_
                refine pq_putI F haL (by decide) lp_X6_38 rfl (pq_any1 _) (pq_any2 _) dX6_repeatAndAppend_104 ?_
                refine pq_goto (tgt := 2) F dX6_repeatAndAppend_107 (by decide) ?_
                exact pq_fgm [true, true] (ih _ _ _ ((hF.uO h60 (by decide)).uO haL (by decide)) ((hB3.po h60 (by decide) (by decide)).p5 (by focus ((try clear hB); (try clear hB2); (try clear hB3); (try clear hB4); (try clear p38); (try clear p71); (try clear p19); (try clear p32); (try clear p45); (try clear p55); (try clear p89); (try clear p102); (try clear p109); (try clear p113); (try clear p27); (try clear p24); (try clear p81); (try clear p24); (try clear p27); (try clear p45); (try clear p81); simp only [vp_in_iff, Int32.lt_iff_toInt_lt, Int32.le_iff_toInt_le, ← Int32.toInt_inj, Int32.toInt_add, Int32.toInt_sub, Int32.toInt_mul, Int32.toInt_neg, pq_NuO, pq_NuI, pq_NuJ, pq_NuR, pq_shr6, pq_shr7, pq_shr8, lqm1, lq0, lq1, lq43, lq63] at *; (try simp (disch := omega) only [pq_bm] at *); all_goals omega)) (by focus ((try clear hB); (try clear hB2); (try clear hB3); (try clear hB4); (try clear p38); (try clear p71); (try clear p19); (try clear p32); (try clear p45); (try clear p55); (try clear p89); (try clear p102); (try clear p109); (try clear p113); (try clear p27); (try clear p24); (try clear p81); (try clear p24); (try clear p27); (try clear p45); (try clear p81); simp only [vp_in_iff, Int32.lt_iff_toInt_lt, Int32.le_iff_toInt_le, ← Int32.toInt_inj, Int32.toInt_add, Int32.toInt_sub, Int32.toInt_mul, Int32.toInt_neg, pq_NuO, pq_NuI, pq_NuJ, pq_NuR, pq_shr6, pq_shr7, pq_shr8, lqm1, lq0, lq1, lq43, lq63] at *; (try simp (disch := omega) only [pq_bm] at *); all_goals omega))) (by focus ((try clear hB); (try clear hB2); (try clear hB3); (try clear hB4); (try clear p38); (try clear p71); (try clear p19); (try clear p32); (try clear p45); (try clear p55); (try clear p89); (try clear p102); (try clear p109); (try clear p113); (try clear p27); (try clear p24); (try clear p81); (try clear p24); (try clear p27); (try clear p45); (try clear p81); simp only [vp_in_iff, Int32.lt_iff_toInt_lt, Int32.le_iff_toInt_le, ← Int32.toInt_inj, Int32.toInt_add, Int32.toInt_sub, Int32.toInt_mul, Int32.toInt_neg, pq_NuO, pq_NuI, pq_NuJ, pq_NuR, pq_shr6, pq_shr7, pq_shr8, lqm1, lq0, lq1, lq43, lq63] at *; (try simp (disch := omega) only [pq_bm] at *); all_goals omega)) (by focus ((try clear hB); (try clear hB2); (try clear hB3); (try clear hB4); (try clear p38); (try clear p71); (try clear p19); (try clear p32); (try clear p45); (try clear p55); (try clear p89); (try clear p102); (try clear p109); (try clear p113); (try clear p27); (try clear p24); (try clear p81); (try clear p24); (try clear p27); (try clear p45); (try clear p81); simp only [vp_in_iff, Int32.lt_iff_toInt_lt, Int32.le_iff_toInt_le, ← Int32.toInt_inj, Int32.toInt_add, Int32.toInt_sub, Int32.toInt_mul, Int32.toInt_neg, pq_NuO, pq_NuI, pq_NuJ, pq_NuR, pq_shr6, pq_shr7, pq_shr8, lqm1, lq0, lq1, lq43, lq63] at *; (try simp (disch := omega) only [pq_bm] at *); all_goals omega)))
              · skip
                refine pq_aload_n F dX6_repeatAndAppend_73 rfl rfl ?_
                refine pq_get F haL (by decide) lk_X6_25 hB3.e0 dX6_repeatAndAppend_74 ?_
                refine pq_aload_n F dX6_repeatAndAppend_77 rfl rfl ?_
                refine pq_get F haL (by decide) lk_X6_38 hB3.e5 dX6_repeatAndAppend_78 ?_
                refine pq_callV (As := [_]) F (k_X9_byteAt l D cy _ _ ?_ _) ml_X6_79 hB3.h0 (by decide) rfl (Nat.le_of_ble_eq_true rfl) ⟨Nat.le_of_ble_eq_true rfl, Nat.le_of_ble_eq_true rfl⟩ ⟨by decide, by decide⟩ dX6_repeatAndAppend_81 (fun v81 S81 w81 => ?_)
                · exact hB3.h0
                obtain ⟨u81, y81, rfl, yl81_0, yl81_1, p81⟩ := w81
                rw [u81]
                try rw [u81] at p81
                refine pq_bipush (v := 43) F dX6_repeatAndAppend_84 (by decide) ?_
                refine pq_icmp_eq (tgt := 93) F dX6_repeatAndAppend_86 (by decide) (fun c86 => ?_) (fun c86 => ?_)
                · skip
                  refine pq_iconst (v := 0) F dX6_repeatAndAppend_93 (by decide) ?_
                  refine pq_putZ F h60 (by decide) lp_X6_144 rfl (by focus ((try clear hB); (try clear hB2); (try clear hB3); (try clear hB4); (try clear p38); (try clear p71); (try clear p19); (try clear p32); (try clear p45); (try clear p55); (try clear p89); (try clear p102); (try clear p109); (try clear p113); (try clear p27); (try clear p24); (try clear p81); (try clear p24); (try clear p27); (try clear p45); (try clear p81); simp only [vp_in_iff, Int32.lt_iff_toInt_lt, Int32.le_iff_toInt_le, ← Int32.toInt_inj, Int32.toInt_add, Int32.toInt_sub, Int32.toInt_mul, Int32.toInt_neg, pq_NuO, pq_NuI, pq_NuJ, pq_NuR, pq_shr6, pq_shr7, pq_shr8, lqm1, lq0, lq1, lq43, lq63] at *; (try simp (disch := omega) only [pq_bm] at *); all_goals omega)) (by focus ((try clear hB); (try clear hB2); (try clear hB3); (try clear hB4); (try clear p38); (try clear p71); (try clear p19); (try clear p32); (try clear p45); (try clear p55); (try clear p89); (try clear p102); (try clear p109); (try clear p113); (try clear p27); (try clear p24); (try clear p81); (try clear p24); (try clear p27); (try clear p45); (try clear p81); simp only [vp_in_iff, Int32.lt_iff_toInt_lt, Int32.le_iff_toInt_le, ← Int32.toInt_inj, Int32.toInt_add, Int32.toInt_sub, Int32.toInt_mul, Int32.toInt_neg, pq_NuO, pq_NuI, pq_NuJ, pq_NuR, pq_shr6, pq_shr7, pq_shr8, lqm1, lq0, lq1, lq43, lq63] at *; (try simp (disch := omega) only [pq_bm] at *); all_goals omega)) dX6_repeatAndAppend_94 ?_
                  refine pq_aload_n F dX6_repeatAndAppend_97 rfl rfl ?_
                  refine pq_dup F dX6_repeatAndAppend_98 rfl ?_
                  refine pq_get F haL (by decide) lk_X6_38 (pq_ko hB3.e5 haL h60 (by decide)) dX6_repeatAndAppend_99 ?_
                  refine pq_iconst (v := 1) F dX6_repeatAndAppend_102 (by decide) ?_
                  refine pq_iadd F dX6_repeatAndAppend_103 ?_
                  refine pq_putI F haL (by decide) lp_X6_38 rfl (pq_any1 _) (pq_any2 _) dX6_repeatAndAppend_104 ?_
                  refine pq_goto (tgt := 2) F dX6_repeatAndAppend_107 (by decide) ?_
                  exact pq_fgm [true, true] (ih _ _ _ ((hF.uO h60 (by decide)).uO haL (by decide)) ((hB3.po h60 (by decide) (by decide)).p5 (by focus ((try clear hB); (try clear hB2); (try clear hB3); (try clear hB4); (try clear p38); (try clear p71); (try clear p19); (try clear p32); (try clear p45); (try clear p55); (try clear p89); (try clear p102); (try clear p109); (try clear p113); (try clear p27); (try clear p24); (try clear p81); (try clear p24); (try clear p27); (try clear p45); (try clear p81); simp only [vp_in_iff, Int32.lt_iff_toInt_lt, Int32.le_iff_toInt_le, ← Int32.toInt_inj, Int32.toInt_add, Int32.toInt_sub, Int32.toInt_mul, Int32.toInt_neg, pq_NuO, pq_NuI, pq_NuJ, pq_NuR, pq_shr6, pq_shr7, pq_shr8, lqm1, lq0, lq1, lq43, lq63] at *; (try simp (disch := omega) only [pq_bm] at *); all_goals omega)) (by focus ((try clear hB); (try clear hB2); (try clear hB3); (try clear hB4); (try clear p38); (try clear p71); (try clear p19); (try clear p32); (try clear p45); (try clear p55); (try clear p89); (try clear p102); (try clear p109); (try clear p113); (try clear p27); (try clear p24); (try clear p81); (try clear p24); (try clear p27); (try clear p45); (try clear p81); simp only [vp_in_iff, Int32.lt_iff_toInt_lt, Int32.le_iff_toInt_le, ← Int32.toInt_inj, Int32.toInt_add, Int32.toInt_sub, Int32.toInt_mul, Int32.toInt_neg, pq_NuO, pq_NuI, pq_NuJ, pq_NuR, pq_shr6, pq_shr7, pq_shr8, lqm1, lq0, lq1, lq43, lq63] at *; (try simp (disch := omega) only [pq_bm] at *); all_goals omega))) (by focus ((try clear hB); (try clear hB2); (try clear hB3); (try clear hB4); (try clear p38); (try clear p71); (try clear p19); (try clear p32); (try clear p45); (try clear p55); (try clear p89); (try clear p102); (try clear p109); (try clear p113); (try clear p27); (try clear p24); (try clear p81); (try clear p24); (try clear p27); (try clear p45); (try clear p81); simp only [vp_in_iff, Int32.lt_iff_toInt_lt, Int32.le_iff_toInt_le, ← Int32.toInt_inj, Int32.toInt_add, Int32.toInt_sub, Int32.toInt_mul, Int32.toInt_neg, pq_NuO, pq_NuI, pq_NuJ, pq_NuR, pq_shr6, pq_shr7, pq_shr8, lqm1, lq0, lq1, lq43, lq63] at *; (try simp (disch := omega) only [pq_bm] at *); all_goals omega)) (by focus ((try clear hB); (try clear hB2); (try clear hB3); (try clear hB4); (try clear p38); (try clear p71); (try clear p19); (try clear p32); (try clear p45); (try clear p55); (try clear p89); (try clear p102); (try clear p109); (try clear p113); (try clear p27); (try clear p24); (try clear p81); (try clear p24); (try clear p27); (try clear p45); (try clear p81); simp only [vp_in_iff, Int32.lt_iff_toInt_lt, Int32.le_iff_toInt_le, ← Int32.toInt_inj, Int32.toInt_add, Int32.toInt_sub, Int32.toInt_mul, Int32.toInt_neg, pq_NuO, pq_NuI, pq_NuJ, pq_NuR, pq_shr6, pq_shr7, pq_shr8, lqm1, lq0, lq1, lq43, lq63] at *; (try simp (disch := omega) only [pq_bm] at *); all_goals omega)))
                · skip
                  refine pq_iconst (v := 1) F dX6_repeatAndAppend_89 (by decide) ?_
                  refine pq_goto (tgt := 94) F dX6_repeatAndAppend_90 (by decide) ?_
                  refine pq_putZ F h60 (by decide) lp_X6_144 rfl (by focus ((try clear hB); (try clear hB2); (try clear hB3); (try clear hB4); (try clear p38); (try clear p71); (try clear p19); (try clear p32); (try clear p45); (try clear p55); (try clear p89); (try clear p102); (try clear p109); (try clear p113); (try clear p27); (try clear p24); (try clear p81); (try clear p24); (try clear p27); (try clear p45); (try clear p81); simp only [vp_in_iff, Int32.lt_iff_toInt_lt, Int32.le_iff_toInt_le, ← Int32.toInt_inj, Int32.toInt_add, Int32.toInt_sub, Int32.toInt_mul, Int32.toInt_neg, pq_NuO, pq_NuI, pq_NuJ, pq_NuR, pq_shr6, pq_shr7, pq_shr8, lqm1, lq0, lq1, lq43, lq63] at *; (try simp (disch := omega) only [pq_bm] at *); all_goals omega)) (by focus ((try clear hB); (try clear hB2); (try clear hB3); (try clear hB4); (try clear p38); (try clear p71); (try clear p19); (try clear p32); (try clear p45); (try clear p55); (try clear p89); (try clear p102); (try clear p109); (try clear p113); (try clear p27); (try clear p24); (try clear p81); (try clear p24); (try clear p27); (try clear p45); (try clear p81); simp only [vp_in_iff, Int32.lt_iff_toInt_lt, Int32.le_iff_toInt_le, ← Int32.toInt_inj, Int32.toInt_add, Int32.toInt_sub, Int32.toInt_mul, Int32.toInt_neg, pq_NuO, pq_NuI, pq_NuJ, pq_NuR, pq_shr6, pq_shr7, pq_shr8, lqm1, lq0, lq1, lq43, lq63] at *; (try simp (disch := omega) only [pq_bm] at *); all_goals omega)) dX6_repeatAndAppend_94 ?_
                  refine pq_aload_n F dX6_repeatAndAppend_97 rfl rfl ?_
                  refine pq_dup F dX6_repeatAndAppend_98 rfl ?_
                  refine pq_get F haL (by decide) lk_X6_38 (pq_ko hB3.e5 haL h60 (by decide)) dX6_repeatAndAppend_99 ?_
                  refine pq_iconst (v := 1) F dX6_repeatAndAppend_102 (by decide) ?_
                  refine pq_iadd F dX6_repeatAndAppend_103 ?_
                  refine pq_putI F haL (by decide) lp_X6_38 rfl (pq_any1 _) (pq_any2 _) dX6_repeatAndAppend_104 ?_
                  refine pq_goto (tgt := 2) F dX6_repeatAndAppend_107 (by decide) ?_
                  exact pq_fgm [true, true] (ih _ _ _ ((hF.uO h60 (by decide)).uO haL (by decide)) ((hB3.po h60 (by decide) (by decide)).p5 (by focus ((try clear hB); (try clear hB2); (try clear hB3); (try clear hB4); (try clear p38); (try clear p71); (try clear p19); (try clear p32); (try clear p45); (try clear p55); (try clear p89); (try clear p102); (try clear p109); (try clear p113); (try clear p27); (try clear p24); (try clear p81); (try clear p24); (try clear p27); (try clear p45); (try clear p81); simp only [vp_in_iff, Int32.lt_iff_toInt_lt, Int32.le_iff_toInt_le, ← Int32.toInt_inj, Int32.toInt_add, Int32.toInt_sub, Int32.toInt_mul, Int32.toInt_neg, pq_NuO, pq_NuI, pq_NuJ, pq_NuR, pq_shr6, pq_shr7, pq_shr8, lqm1, lq0, lq1, lq43, lq63] at *; (try simp (disch := omega) only [pq_bm] at *); all_goals omega)) (by focus ((try clear hB); (try clear hB2); (try clear hB3); (try clear hB4); (try clear p38); (try clear p71); (try clear p19); (try clear p32); (try clear p45); (try clear p55); (try clear p89); (try clear p102); (try clear p109); (try clear p113); (try clear p27); (try clear p24); (try clear p81); (try clear p24); (try clear p27); (try clear p45); (try clear p81); simp only [vp_in_iff, Int32.lt_iff_toInt_lt, Int32.le_iff_toInt_le, ← Int32.toInt_inj, Int32.toInt_add, Int32.toInt_sub, Int32.toInt_mul, Int32.toInt_neg, pq_NuO, pq_NuI, pq_NuJ, pq_NuR, pq_shr6, pq_shr7, pq_shr8, lqm1, lq0, lq1, lq43, lq63] at *; (try simp (disch := omega) only [pq_bm] at *); all_goals omega))) (by focus ((try clear hB); (try clear hB2); (try clear hB3); (try clear hB4); (try clear p38); (try clear p71); (try clear p19); (try clear p32); (try clear p45); (try clear p55); (try clear p89); (try clear p102); (try clear p109); (try clear p113); (try clear p27); (try clear p24); (try clear p81); (try clear p24); (try clear p27); (try clear p45); (try clear p81); simp only [vp_in_iff, Int32.lt_iff_toInt_lt, Int32.le_iff_toInt_le, ← Int32.toInt_inj, Int32.toInt_add, Int32.toInt_sub, Int32.toInt_mul, Int32.toInt_neg, pq_NuO, pq_NuI, pq_NuJ, pq_NuR, pq_shr6, pq_shr7, pq_shr8, lqm1, lq0, lq1, lq43, lq63] at *; (try simp (disch := omega) only [pq_bm] at *); all_goals omega)) (by focus ((try clear hB); (try clear hB2); (try clear hB3); (try clear hB4); (try clear p38); (try clear p71); (try clear p19); (try clear p32); (try clear p45); (try clear p55); (try clear p89); (try clear p102); (try clear p109); (try clear p113); (try clear p27); (try clear p24); (try clear p81); (try clear p24); (try clear p27); (try clear p45); (try clear p81); simp only [vp_in_iff, Int32.lt_iff_toInt_lt, Int32.le_iff_toInt_le, ← Int32.toInt_inj, Int32.toInt_add, Int32.toInt_sub, Int32.toInt_mul, Int32.toInt_neg, pq_NuO, pq_NuI, pq_NuJ, pq_NuR, pq_shr6, pq_shr7, pq_shr8, lqm1, lq0, lq1, lq43, lq63] at *; (try simp (disch := omega) only [pq_bm] at *); all_goals omega)))
  refine pq_iconst (v := 0) F dX6_repeatAndAppend_0 (by decide) ?_
  refine pq_istore_n F dX6_repeatAndAppend_1 rfl (by decide) ?_
  exact pq_fgm [true, true] (L2  100000 _ _ _ pq_Fr.rf hB (by focus ((try clear hB); (try clear hB2); (try clear hB3); (try clear hB4); (try clear p38); (try clear p71); (try clear p19); (try clear p32); (try clear p45); (try clear p55); (try clear p89); (try clear p102); (try clear p109); (try clear p113); (try clear p27); (try clear p24); (try clear p81); (try clear p24); (try clear p27); (try clear p45); (try clear p81); simp only [vp_in_iff, Int32.lt_iff_toInt_lt, Int32.le_iff_toInt_le, ← Int32.toInt_inj, Int32.toInt_add, Int32.toInt_sub, Int32.toInt_mul, Int32.toInt_neg, pq_NuO, pq_NuI, pq_NuJ, pq_NuR, pq_shr6, pq_shr7, pq_shr8, lqm1, lq0, lq1, lq43, lq63] at *; (try simp (disch := omega) only [pq_bm] at *); all_goals omega)) (by focus ((try clear hB); (try clear hB2); (try clear hB3); (try clear hB4); (try clear p38); (try clear p71); (try clear p19); (try clear p32); (try clear p45); (try clear p55); (try clear p89); (try clear p102); (try clear p109); (try clear p113); (try clear p27); (try clear p24); (try clear p81); (try clear p24); (try clear p27); (try clear p45); (try clear p81); simp only [vp_in_iff, Int32.lt_iff_toInt_lt, Int32.le_iff_toInt_le, ← Int32.toInt_inj, Int32.toInt_add, Int32.toInt_sub, Int32.toInt_mul, Int32.toInt_neg, pq_NuO, pq_NuI, pq_NuJ, pq_NuR, pq_shr6, pq_shr7, pq_shr8, lqm1, lq0, lq1, lq43, lq63] at *; (try simp (disch := omega) only [pq_bm] at *); all_goals omega)))

set_option maxHeartbeats 4000000 in
set_option maxRecDepth 100000 in
theorem k_X6_addPlace (l : Launch) (D : va_G) (cy : Nat → ClassId) (S : HS) (a : Nat) (ha : pq_R S a 9) (ch sq tp : Nat) (dp at1 br t : Int32) (hB : pq_Rd S a ch sq tp dp at1 br t dp.toInt) (pl : Nat) (tt : Int32) (e1 : hO S a 1 = .ref pl) (hpl : pq_R S pl 8) (ep8 : hO S pl 3 = .int tt) (h80 : 0 ≤ tt.toInt) (h81 : tt.toInt < 400) : pq_C l D cy yX6_addPlace cX6_addPlace 1 (none) 4 0 0 S [.ref a] (fun v S2 => v = none ∧ pq_Fr [(9, 5), (5, 2), (190, 0), (191, 0), (195, 0), (194, 0), (8, 3)] S S2 ∧ (∃ at2 : Int32, pq_Rd S2 a ch sq tp dp at2 br t dp.toInt ∧ at1.toInt ≤ at2.toInt)) := by
  refine pq_start (by decide) (Nat.le_of_ble_eq_true rfl) ?_
  intro p e s m args below meth c A F hr hlk hnm hA
  have lqm1 : (-1 : Int32).toInt = -1 := rfl
  have lq0 : (0 : Int32).toInt = 0 := rfl
  have lq1 : (1 : Int32).toInt = 1 := rfl
  obtain ⟨hd0, hd1, ha0, ha1, ht0, ht1⟩ := hB.b
  refine pq_aload_n F dX6_addPlace_0 rfl rfl ?_
  refine pq_get F ha (by decide) lk_X6_42 hB.e7 dX6_addPlace_1 ?_
  refine pq_if_ge (tgt := 33) F dX6_addPlace_4 (by decide) (fun c4 => ?_) (fun c4 => ?_)
  · skip
    exact pq_vret F hr hlk hA (Nat.le_refl _) (Nat.le_refl _) (⟨rfl, pq_Fr.rf, at1, hB, Int.le_refl _⟩) dX6_addPlace_33
  · skip
    refine pq_aload_n F dX6_addPlace_7 rfl rfl ?_
    refine pq_getR F ha (by decide) lk_X6_21 rfl dX6_addPlace_8 (fun r8 e8 h8 => ?_)
    refine pq_aload_n F dX6_addPlace_11 rfl rfl ?_
    refine pq_get F ha (by decide) lk_X6_29 e1 dX6_addPlace_12 ?_
    refine pq_aload_n F dX6_addPlace_15 rfl rfl ?_
    refine pq_getJ F ha (by decide) lk_X6_96 rfl dX6_addPlace_16 (fun x16 e16 => ?_)
    refine pq_aload_n F dX6_addPlace_19 rfl rfl ?_
    refine pq_getJ F ha (by decide) lk_X6_100 rfl dX6_addPlace_20 (fun x20 e20 => ?_)
    refine pq_callV (As := [_, _]) F (k_X5_add l D cy _ _ ?_ _ _ _ ep8 ?_ ?_) ml_X6_132 hpl (by decide) rfl (Nat.le_of_ble_eq_true rfl) ⟨Nat.le_of_ble_eq_true rfl, Nat.le_of_ble_eq_true rfl⟩ ⟨by decide, by decide⟩ dX6_addPlace_23 (fun v23 S23 w23 => ?_)
    · exact hpl
    · focus ((try clear hB); (try clear hB2); (try clear hB3); (try clear hB4); (try clear p38); (try clear p71); (try clear p19); (try clear p32); (try clear p45); (try clear p55); (try clear p89); (try clear p102); (try clear p109); (try clear p113); (try clear p27); (try clear p24); (try clear p81); simp only [vp_in_iff, Int32.lt_iff_toInt_lt, Int32.le_iff_toInt_le, ← Int32.toInt_inj, Int32.toInt_add, Int32.toInt_sub, Int32.toInt_mul, Int32.toInt_neg, pq_NuO, pq_NuI, pq_NuJ, pq_NuR, pq_shr6, pq_shr7, pq_shr8, lqm1, lq0, lq1] at *; (try simp (disch := omega) only [pq_bm] at *); all_goals omega)
    · focus ((try clear hB); (try clear hB2); (try clear hB3); (try clear hB4); (try clear p38); (try clear p71); (try clear p19); (try clear p32); (try clear p45); (try clear p55); (try clear p89); (try clear p102); (try clear p109); (try clear p113); (try clear p27); (try clear p24); (try clear p81); simp only [vp_in_iff, Int32.lt_iff_toInt_lt, Int32.le_iff_toInt_le, ← Int32.toInt_inj, Int32.toInt_add, Int32.toInt_sub, Int32.toInt_mul, Int32.toInt_neg, pq_NuO, pq_NuI, pq_NuJ, pq_NuR, pq_shr6, pq_shr7, pq_shr8, lqm1, lq0, lq1] at *; (try simp (disch := omega) only [pq_bm] at *); all_goals omega)
    obtain ⟨hF23, y23, rfl, yl23_0, yl23_1⟩ := w23
    have ha_23 := (hF23.1 _ _ ha (by decide)).1
    have h8_23 := (hF23.1 _ _ h8 (by decide)).1
    have hz_23 := (hF23.1 _ _ hB.h2 (by decide)).1
    have ec23_2_ha_23 := hF23.O ha (by decide) (by decide) hB.e2
    have hz_23z := (hF23.1 _ _ hB.h3 (by decide)).1
    have ec23_3_ha_23 := hF23.O ha (by decide) (by decide) hB.e3
    have hz_23zz := (hF23.1 _ _ hB.h0 (by decide)).1
    have ec23_0_ha_23 := hF23.O ha (by decide) (by decide) hB.e0
    have ec23_6_ha_23 := hF23.O ha (by decide) (by decide) hB.e6
    have ec23_5_ha_23 := hF23.O ha (by decide) (by decide) hB.e5
    have ec23_7_ha_23 := hF23.O ha (by decide) (by decide) hB.e7
    have hpl_23 := (hF23.1 _ _ hpl (by decide)).1
    have ec23_1_ha_23 := hF23.O ha (by decide) (by decide) e1
    have ec23_4_ha_23 := hF23.O ha (by decide) (by decide) e8
    have ec23_8_ha_23 := hF23.O ha (by decide) (by decide) e16
    have ec23_9_ha_23 := hF23.O ha (by decide) (by decide) e20
    refine pq_callV (As := [_]) F (k_X2_becomePlace l D cy _ _ ?_ _ ?_ ?_) ml_X6_136 h8_23 (by decide) rfl (Nat.le_of_ble_eq_true rfl) ⟨Nat.le_of_ble_eq_true rfl, Nat.le_of_ble_eq_true rfl⟩ ⟨by decide, by decide⟩ dX6_addPlace_26 (fun v26 S26 w26 => ?_)
    · exact h8_23
    · focus ((try clear hB); (try clear hB2); (try clear hB3); (try clear hB4); (try clear p38); (try clear p71); (try clear p19); (try clear p32); (try clear p45); (try clear p55); (try clear p89); (try clear p102); (try clear p109); (try clear p113); (try clear p27); (try clear p24); (try clear p81); simp only [vp_in_iff, Int32.lt_iff_toInt_lt, Int32.le_iff_toInt_le, ← Int32.toInt_inj, Int32.toInt_add, Int32.toInt_sub, Int32.toInt_mul, Int32.toInt_neg, pq_NuO, pq_NuI, pq_NuJ, pq_NuR, pq_shr6, pq_shr7, pq_shr8, lqm1, lq0, lq1] at *; (try simp (disch := omega) only [pq_bm] at *); all_goals omega)
    · focus ((try clear hB); (try clear hB2); (try clear hB3); (try clear hB4); (try clear p38); (try clear p71); (try clear p19); (try clear p32); (try clear p45); (try clear p55); (try clear p89); (try clear p102); (try clear p109); (try clear p113); (try clear p27); (try clear p24); (try clear p81); simp only [vp_in_iff, Int32.lt_iff_toInt_lt, Int32.le_iff_toInt_le, ← Int32.toInt_inj, Int32.toInt_add, Int32.toInt_sub, Int32.toInt_mul, Int32.toInt_neg, pq_NuO, pq_NuI, pq_NuJ, pq_NuR, pq_shr6, pq_shr7, pq_shr8, lqm1, lq0, lq1] at *; (try simp (disch := omega) only [pq_bm] at *); all_goals omega)
    obtain ⟨rfl, hF26⟩ := w26
    have ha_26 := (hF26.1 _ _ ha_23 (by decide)).1
    have hz_26 := (hF26.1 _ _ hz_23 (by decide)).1
    have ec26_2_ha_26 := hF26.O ha_23 (by decide) (by decide) ec23_2_ha_23
    have hz_23z_26 := (hF26.1 _ _ hz_23z (by decide)).1
    have ec26_3_ha_26 := hF26.O ha_23 (by decide) (by decide) ec23_3_ha_23
    have hz_23zz_26 := (hF26.1 _ _ hz_23zz (by decide)).1
    have ec26_0_ha_26 := hF26.O ha_23 (by decide) (by decide) ec23_0_ha_23
    have ec26_6_ha_26 := hF26.O ha_23 (by decide) (by decide) ec23_6_ha_23
    have ec26_5_ha_26 := hF26.O ha_23 (by decide) (by decide) ec23_5_ha_23
    have ec26_7_ha_26 := hF26.O ha_23 (by decide) (by decide) ec23_7_ha_23
    have hpl_26 := (hF26.1 _ _ hpl_23 (by decide)).1
    have ec26_1_ha_26 := hF26.O ha_23 (by decide) (by decide) ec23_1_ha_23
    have h8_26 := (hF26.1 _ _ h8_23 (by decide)).1
    have ec26_4_ha_26 := hF26.O ha_23 (by decide) (by decide) ec23_4_ha_23
    have ec26_8_ha_26 := hF26.O ha_23 (by decide) (by decide) ec23_8_ha_23
    have ec26_9_ha_26 := hF26.O ha_23 (by decide) (by decide) ec23_9_ha_23
    refine pq_aload_n F dX6_addPlace_29 rfl rfl ?_
    refine pq_callV (As := []) F (k_X6_repeatAndAppend l D cy _ _ ?_ _ _ _ _ _ _ _ ((hB.fr hF23 (by decide)).fr hF26 (by decide))) ml_X6_115 ha_26 (by decide) rfl (Nat.le_of_ble_eq_true rfl) ⟨Nat.le_of_ble_eq_true rfl, Nat.le_of_ble_eq_true rfl⟩ ⟨by decide, by decide⟩ dX6_addPlace_30 (fun v30 S30 w30 => ?_)
    · exact ha_26
    obtain ⟨rfl, hF30, p30⟩ := w30
    have ha_30 := (hF30.1 _ _ ha_26 (by decide)).1
    have hz_30 := (hF30.1 _ _ hz_26 (by decide)).1
    have ec30_2_ha_30 := hF30.O ha_26 (by decide) (by decide) ec26_2_ha_26
    have hz_23z_30 := (hF30.1 _ _ hz_23z_26 (by decide)).1
    have ec30_3_ha_30 := hF30.O ha_26 (by decide) (by decide) ec26_3_ha_26
    have hz_23zz_30 := (hF30.1 _ _ hz_23zz_26 (by decide)).1
    have ec30_0_ha_30 := hF30.O ha_26 (by decide) (by decide) ec26_0_ha_26
    have ec30_6_ha_30 := hF30.O ha_26 (by decide) (by decide) ec26_6_ha_26
    have ec30_7_ha_30 := hF30.O ha_26 (by decide) (by decide) ec26_7_ha_26
    have hpl_30 := (hF30.1 _ _ hpl_26 (by decide)).1
    have ec30_1_ha_30 := hF30.O ha_26 (by decide) (by decide) ec26_1_ha_26
    have h8_30 := (hF30.1 _ _ h8_26 (by decide)).1
    have ec30_4_ha_30 := hF30.O ha_26 (by decide) (by decide) ec26_4_ha_26
    have ec30_8_ha_30 := hF30.O ha_26 (by decide) (by decide) ec26_8_ha_26
    have ec30_9_ha_30 := hF30.O ha_26 (by decide) (by decide) ec26_9_ha_26
    exact pq_vret F hr hlk hA (Nat.le_refl _) (Nat.le_refl _) (⟨rfl, (((pq_Fr.rf.cm hF23 (by decide)).cm hF26 (by decide)).cm hF30 (by decide)), p30⟩) dX6_addPlace_33

set_option maxHeartbeats 4000000 in
set_option maxRecDepth 100000 in
theorem k_X6_closeGroup (l : Launch) (D : va_G) (cy : Nat → ClassId) (S : HS) (a : Nat) (ha : pq_R S a 9) (ch sq tp : Nat) (dp at1 br t : Int32) (hB : pq_Rd S a ch sq tp dp at1 br t dp.toInt) (hat : at1.toInt ≤ t.toInt) : pq_C l D cy yX6_closeGroup cX6_closeGroup 1 (none) 4 0 0 S [.ref a] (fun v S2 => v = none ∧ pq_Fr [(9, 5), (9, 6), (9, 7), (5, 2), (190, 0), (191, 0), (195, 0)] S S2 ∧ (∃ dp2 at2 br2 : Int32, pq_Rd S2 a ch sq tp dp2 at2 br2 t dp2.toInt ∧ (0 ≤ br2.toInt ∨ (br2 = br ∧ at1.toInt + 1 ≤ at2.toInt)))) := by
  refine pq_start (by decide) (Nat.le_of_ble_eq_true rfl) ?_
  intro p e s m args below meth c A F hr hlk hnm hA
  have lqm1 : (-1 : Int32).toInt = -1 := rfl
  have lq0 : (0 : Int32).toInt = 0 := rfl
  have lq1 : (1 : Int32).toInt = 1 := rfl
  obtain ⟨hd0, hd1, ha0, ha1, ht0, ht1⟩ := hB.b
  refine pq_aload_n F dX6_closeGroup_0 rfl rfl ?_
  refine pq_get F ha (by decide) lk_X6_45 hB.e6 dX6_closeGroup_1 ?_
  refine pq_if_gt (tgt := 16) F dX6_closeGroup_4 (by decide) (fun c4 => ?_) (fun c4 => ?_)
  · skip
    refine pq_aload_n F dX6_closeGroup_16 rfl rfl ?_
    refine pq_dup F dX6_closeGroup_17 rfl ?_
    refine pq_get F ha (by decide) lk_X6_38 hB.e5 dX6_closeGroup_18 ?_
    refine pq_iconst (v := 1) F dX6_closeGroup_21 (by decide) ?_
    refine pq_iadd F dX6_closeGroup_22 ?_
    refine pq_putI F ha (by decide) lp_X6_38 rfl (pq_any1 _) (pq_any2 _) dX6_closeGroup_23 ?_
    refine pq_aload_n F dX6_closeGroup_26 rfl rfl ?_
    refine pq_aload_n F dX6_closeGroup_27 rfl rfl ?_
    refine pq_get F ha (by decide) lk_X6_11 (pq_kp hB.e2 (by decide)) dX6_closeGroup_28 ?_
    refine pq_callV (As := [_]) F (k_X6_hereC l D cy _ _ ?_ _ ?_ _ (hB.p5 (by focus ((try clear hB); (try clear hB2); (try clear hB3); (try clear hB4); (try clear p38); (try clear p71); (try clear p19); (try clear p32); (try clear p45); (try clear p55); (try clear p89); (try clear p102); (try clear p109); (try clear p113); (try clear p27); (try clear p24); (try clear p81); simp only [vp_in_iff, Int32.lt_iff_toInt_lt, Int32.le_iff_toInt_le, ← Int32.toInt_inj, Int32.toInt_add, Int32.toInt_sub, Int32.toInt_mul, Int32.toInt_neg, pq_NuO, pq_NuI, pq_NuJ, pq_NuR, pq_shr6, pq_shr7, pq_shr8, lqm1, lq0, lq1] at *; (try simp (disch := omega) only [pq_bm] at *); all_goals omega)) (by focus ((try clear hB); (try clear hB2); (try clear hB3); (try clear hB4); (try clear p38); (try clear p71); (try clear p19); (try clear p32); (try clear p45); (try clear p55); (try clear p89); (try clear p102); (try clear p109); (try clear p113); (try clear p27); (try clear p24); (try clear p81); simp only [vp_in_iff, Int32.lt_iff_toInt_lt, Int32.le_iff_toInt_le, ← Int32.toInt_inj, Int32.toInt_add, Int32.toInt_sub, Int32.toInt_mul, Int32.toInt_neg, pq_NuO, pq_NuI, pq_NuJ, pq_NuR, pq_shr6, pq_shr7, pq_shr8, lqm1, lq0, lq1] at *; (try simp (disch := omega) only [pq_bm] at *); all_goals omega))).e6 hd0 hd1 ((hB.p5 (by focus ((try clear hB); (try clear hB2); (try clear hB3); (try clear hB4); (try clear p38); (try clear p71); (try clear p19); (try clear p32); (try clear p45); (try clear p55); (try clear p89); (try clear p102); (try clear p109); (try clear p113); (try clear p27); (try clear p24); (try clear p81); simp only [vp_in_iff, Int32.lt_iff_toInt_lt, Int32.le_iff_toInt_le, ← Int32.toInt_inj, Int32.toInt_add, Int32.toInt_sub, Int32.toInt_mul, Int32.toInt_neg, pq_NuO, pq_NuI, pq_NuJ, pq_NuR, pq_shr6, pq_shr7, pq_shr8, lqm1, lq0, lq1] at *; (try simp (disch := omega) only [pq_bm] at *); all_goals omega)) (by focus ((try clear hB); (try clear hB2); (try clear hB3); (try clear hB4); (try clear p38); (try clear p71); (try clear p19); (try clear p32); (try clear p45); (try clear p55); (try clear p89); (try clear p102); (try clear p109); (try clear p113); (try clear p27); (try clear p24); (try clear p81); simp only [vp_in_iff, Int32.lt_iff_toInt_lt, Int32.le_iff_toInt_le, ← Int32.toInt_inj, Int32.toInt_add, Int32.toInt_sub, Int32.toInt_mul, Int32.toInt_neg, pq_NuO, pq_NuI, pq_NuJ, pq_NuR, pq_shr6, pq_shr7, pq_shr8, lqm1, lq0, lq1] at *; (try simp (disch := omega) only [pq_bm] at *); all_goals omega))).c (Int.le_refl _))) ml_X6_59 ha (by decide) rfl (Nat.le_of_ble_eq_true rfl) ⟨Nat.le_of_ble_eq_true rfl, Nat.le_of_ble_eq_true rfl⟩ ⟨by decide, by decide⟩ dX6_closeGroup_31 (fun v31 S31 w31 => ?_)
    · exact ha
    · exact hB.h2
    obtain ⟨u31, y31, rfl, hy31⟩ := w31
    rw [u31]
    rw [u31] at hy31
    refine pq_aload_n F dX6_closeGroup_34 rfl rfl ?_
    refine pq_aload_n F dX6_closeGroup_35 rfl rfl ?_
    refine pq_get F ha (by decide) lk_X6_17 (pq_kp hB.e3 (by decide)) dX6_closeGroup_36 ?_
    refine pq_callV (As := [_]) F (k_X6_hereQ l D cy _ _ ?_ _ ?_ _ (hB.p5 (by focus ((try clear hB); (try clear hB2); (try clear hB3); (try clear hB4); (try clear p38); (try clear p71); (try clear p19); (try clear p32); (try clear p45); (try clear p55); (try clear p89); (try clear p102); (try clear p109); (try clear p113); (try clear p27); (try clear p24); (try clear p81); simp only [vp_in_iff, Int32.lt_iff_toInt_lt, Int32.le_iff_toInt_le, ← Int32.toInt_inj, Int32.toInt_add, Int32.toInt_sub, Int32.toInt_mul, Int32.toInt_neg, pq_NuO, pq_NuI, pq_NuJ, pq_NuR, pq_shr6, pq_shr7, pq_shr8, lqm1, lq0, lq1] at *; (try simp (disch := omega) only [pq_bm] at *); all_goals omega)) (by focus ((try clear hB); (try clear hB2); (try clear hB3); (try clear hB4); (try clear p38); (try clear p71); (try clear p19); (try clear p32); (try clear p45); (try clear p55); (try clear p89); (try clear p102); (try clear p109); (try clear p113); (try clear p27); (try clear p24); (try clear p81); simp only [vp_in_iff, Int32.lt_iff_toInt_lt, Int32.le_iff_toInt_le, ← Int32.toInt_inj, Int32.toInt_add, Int32.toInt_sub, Int32.toInt_mul, Int32.toInt_neg, pq_NuO, pq_NuI, pq_NuJ, pq_NuR, pq_shr6, pq_shr7, pq_shr8, lqm1, lq0, lq1] at *; (try simp (disch := omega) only [pq_bm] at *); all_goals omega))).e6 hd0 hd1 ((hB.p5 (by focus ((try clear hB); (try clear hB2); (try clear hB3); (try clear hB4); (try clear p38); (try clear p71); (try clear p19); (try clear p32); (try clear p45); (try clear p55); (try clear p89); (try clear p102); (try clear p109); (try clear p113); (try clear p27); (try clear p24); (try clear p81); simp only [vp_in_iff, Int32.lt_iff_toInt_lt, Int32.le_iff_toInt_le, ← Int32.toInt_inj, Int32.toInt_add, Int32.toInt_sub, Int32.toInt_mul, Int32.toInt_neg, pq_NuO, pq_NuI, pq_NuJ, pq_NuR, pq_shr6, pq_shr7, pq_shr8, lqm1, lq0, lq1] at *; (try simp (disch := omega) only [pq_bm] at *); all_goals omega)) (by focus ((try clear hB); (try clear hB2); (try clear hB3); (try clear hB4); (try clear p38); (try clear p71); (try clear p19); (try clear p32); (try clear p45); (try clear p55); (try clear p89); (try clear p102); (try clear p109); (try clear p113); (try clear p27); (try clear p24); (try clear p81); simp only [vp_in_iff, Int32.lt_iff_toInt_lt, Int32.le_iff_toInt_le, ← Int32.toInt_inj, Int32.toInt_add, Int32.toInt_sub, Int32.toInt_mul, Int32.toInt_neg, pq_NuO, pq_NuI, pq_NuJ, pq_NuR, pq_shr6, pq_shr7, pq_shr8, lqm1, lq0, lq1] at *; (try simp (disch := omega) only [pq_bm] at *); all_goals omega))).q (Int.le_refl _))) ml_X6_59 ha (by decide) rfl (Nat.le_of_ble_eq_true rfl) ⟨Nat.le_of_ble_eq_true rfl, Nat.le_of_ble_eq_true rfl⟩ ⟨by decide, by decide⟩ dX6_closeGroup_39 (fun v39 S39 w39 => ?_)
    · exact ha
    · exact hB.h3
    obtain ⟨u39, y39, rfl, hy39⟩ := w39
    rw [u39]
    rw [u39] at hy39
    refine pq_callV (As := [_]) F (k_X2_addChoice l D cy _ _ ?_ _ ?_) ml_X6_63 hy31 (by decide) rfl (Nat.le_of_ble_eq_true rfl) ⟨Nat.le_of_ble_eq_true rfl, Nat.le_of_ble_eq_true rfl⟩ ⟨by decide, by decide⟩ dX6_closeGroup_42 (fun v42 S42 w42 => ?_)
    · exact hy31
    · exact hy39
    obtain ⟨rfl, hF42⟩ := w42
    have ha_42 := (hF42.1 _ _ ha (by decide)).1
    have hz_42 := (hF42.1 _ _ hB.h2 (by decide)).1
    have ec42_2_ha_42 := hF42.O ha (by decide) (by decide) (pq_kp hB.e2 (by decide))
    have hz_42z := (hF42.1 _ _ hB.h3 (by decide)).1
    have ec42_3_ha_42 := hF42.O ha (by decide) (by decide) (pq_kp hB.e3 (by decide))
    have hz_42zz := (hF42.1 _ _ hB.h0 (by decide)).1
    have ec42_0_ha_42 := hF42.O ha (by decide) (by decide) (pq_kp hB.e0 (by decide))
    have ec42_6_ha_42 := hF42.O ha (by decide) (by decide) (pq_kp hB.e6 (by decide))
    have ec42_7_ha_42 := hF42.O ha (by decide) (by decide) (pq_kp hB.e7 (by decide))
    have ec42_5_ha_42 := hF42.O ha (by decide) (by decide) pq_ks
    refine pq_aload_n F dX6_closeGroup_45 rfl rfl ?_
    refine pq_getR F ha_42 (by decide) lk_X6_21 rfl dX6_closeGroup_46 (fun r46 e46 h46 => ?_)
    refine pq_aload_n F dX6_closeGroup_49 rfl rfl ?_
    refine pq_aload_n F dX6_closeGroup_50 rfl rfl ?_
    refine pq_get F ha_42 (by decide) lk_X6_11 ec42_2_ha_42 dX6_closeGroup_51 ?_
    refine pq_callV (As := [_]) F (k_X6_hereC l D cy _ _ ?_ _ ?_ _ (((hB.p5 (by focus ((try clear hB); (try clear hB2); (try clear hB3); (try clear hB4); (try clear p38); (try clear p71); (try clear p19); (try clear p32); (try clear p45); (try clear p55); (try clear p89); (try clear p102); (try clear p109); (try clear p113); (try clear p27); (try clear p24); (try clear p81); simp only [vp_in_iff, Int32.lt_iff_toInt_lt, Int32.le_iff_toInt_le, ← Int32.toInt_inj, Int32.toInt_add, Int32.toInt_sub, Int32.toInt_mul, Int32.toInt_neg, pq_NuO, pq_NuI, pq_NuJ, pq_NuR, pq_shr6, pq_shr7, pq_shr8, lqm1, lq0, lq1] at *; (try simp (disch := omega) only [pq_bm] at *); all_goals omega)) (by focus ((try clear hB); (try clear hB2); (try clear hB3); (try clear hB4); (try clear p38); (try clear p71); (try clear p19); (try clear p32); (try clear p45); (try clear p55); (try clear p89); (try clear p102); (try clear p109); (try clear p113); (try clear p27); (try clear p24); (try clear p81); simp only [vp_in_iff, Int32.lt_iff_toInt_lt, Int32.le_iff_toInt_le, ← Int32.toInt_inj, Int32.toInt_add, Int32.toInt_sub, Int32.toInt_mul, Int32.toInt_neg, pq_NuO, pq_NuI, pq_NuJ, pq_NuR, pq_shr6, pq_shr7, pq_shr8, lqm1, lq0, lq1] at *; (try simp (disch := omega) only [pq_bm] at *); all_goals omega))).fr hF42 (by decide))).e6 hd0 hd1 ((((hB.p5 (by focus ((try clear hB); (try clear hB2); (try clear hB3); (try clear hB4); (try clear p38); (try clear p71); (try clear p19); (try clear p32); (try clear p45); (try clear p55); (try clear p89); (try clear p102); (try clear p109); (try clear p113); (try clear p27); (try clear p24); (try clear p81); simp only [vp_in_iff, Int32.lt_iff_toInt_lt, Int32.le_iff_toInt_le, ← Int32.toInt_inj, Int32.toInt_add, Int32.toInt_sub, Int32.toInt_mul, Int32.toInt_neg, pq_NuO, pq_NuI, pq_NuJ, pq_NuR, pq_shr6, pq_shr7, pq_shr8, lqm1, lq0, lq1] at *; (try simp (disch := omega) only [pq_bm] at *); all_goals omega)) (by focus ((try clear hB); (try clear hB2); (try clear hB3); (try clear hB4); (try clear p38); (try clear p71); (try clear p19); (try clear p32); (try clear p45); (try clear p55); (try clear p89); (try clear p102); (try clear p109); (try clear p113); (try clear p27); (try clear p24); (try clear p81); simp only [vp_in_iff, Int32.lt_iff_toInt_lt, Int32.le_iff_toInt_le, ← Int32.toInt_inj, Int32.toInt_add, Int32.toInt_sub, Int32.toInt_mul, Int32.toInt_neg, pq_NuO, pq_NuI, pq_NuJ, pq_NuR, pq_shr6, pq_shr7, pq_shr8, lqm1, lq0, lq1] at *; (try simp (disch := omega) only [pq_bm] at *); all_goals omega))).fr hF42 (by decide))).c (Int.le_refl _))) ml_X6_59 ha_42 (by decide) rfl (Nat.le_of_ble_eq_true rfl) ⟨Nat.le_of_ble_eq_true rfl, Nat.le_of_ble_eq_true rfl⟩ ⟨by decide, by decide⟩ dX6_closeGroup_54 (fun v54 S54 w54 => ?_)
    · exact ha_42
    · exact hz_42
    obtain ⟨u54, y54, rfl, hy54⟩ := w54
    rw [u54]
    rw [u54] at hy54
    refine pq_callV (As := [_]) F (k_X2_become l D cy _ _ ?_ _ ?_) ml_X6_70 h46 (by decide) rfl (Nat.le_of_ble_eq_true rfl) ⟨Nat.le_of_ble_eq_true rfl, Nat.le_of_ble_eq_true rfl⟩ ⟨by decide, by decide⟩ dX6_closeGroup_57 (fun v57 S57 w57 => ?_)
    · exact h46
    · exact hy54
    obtain ⟨rfl, hF57⟩ := w57
    have ha_57 := (hF57.1 _ _ ha_42 (by decide)).1
    have hz_57 := (hF57.1 _ _ hz_42 (by decide)).1
    have ec57_2_ha_57 := hF57.O ha_42 (by decide) (by decide) ec42_2_ha_42
    have hz_42z_57 := (hF57.1 _ _ hz_42z (by decide)).1
    have ec57_3_ha_57 := hF57.O ha_42 (by decide) (by decide) ec42_3_ha_42
    have hz_42zz_57 := (hF57.1 _ _ hz_42zz (by decide)).1
    have ec57_0_ha_57 := hF57.O ha_42 (by decide) (by decide) ec42_0_ha_42
    have ec57_6_ha_57 := hF57.O ha_42 (by decide) (by decide) ec42_6_ha_42
    have ec57_7_ha_57 := hF57.O ha_42 (by decide) (by decide) ec42_7_ha_42
    have ec57_5_ha_57 := hF57.O ha_42 (by decide) (by decide) ec42_5_ha_42
    have h46_57 := (hF57.1 _ _ h46 (by decide)).1
    have ec57_4_ha_57 := hF57.O ha_42 (by decide) (by decide) e46
    refine pq_aload_n F dX6_closeGroup_60 rfl rfl ?_
    refine pq_dup F dX6_closeGroup_61 rfl ?_
    refine pq_get F ha_57 (by decide) lk_X6_45 ec57_6_ha_57 dX6_closeGroup_62 ?_
    refine pq_iconst (v := 1) F dX6_closeGroup_65 (by decide) ?_
    refine pq_isub F dX6_closeGroup_66 ?_
    refine pq_putI F ha_57 (by decide) lp_X6_45 rfl (by focus ((try clear hB); (try clear hB2); (try clear hB3); (try clear hB4); (try clear p38); (try clear p71); (try clear p19); (try clear p32); (try clear p45); (try clear p55); (try clear p89); (try clear p102); (try clear p109); (try clear p113); (try clear p27); (try clear p24); (try clear p81); simp only [vp_in_iff, Int32.lt_iff_toInt_lt, Int32.le_iff_toInt_le, ← Int32.toInt_inj, Int32.toInt_add, Int32.toInt_sub, Int32.toInt_mul, Int32.toInt_neg, pq_NuO, pq_NuI, pq_NuJ, pq_NuR, pq_shr6, pq_shr7, pq_shr8, lqm1, lq0, lq1] at *; (try simp (disch := omega) only [pq_bm] at *); all_goals omega)) (by focus ((try clear hB); (try clear hB2); (try clear hB3); (try clear hB4); (try clear p38); (try clear p71); (try clear p19); (try clear p32); (try clear p45); (try clear p55); (try clear p89); (try clear p102); (try clear p109); (try clear p113); (try clear p27); (try clear p24); (try clear p81); simp only [vp_in_iff, Int32.lt_iff_toInt_lt, Int32.le_iff_toInt_le, ← Int32.toInt_inj, Int32.toInt_add, Int32.toInt_sub, Int32.toInt_mul, Int32.toInt_neg, pq_NuO, pq_NuI, pq_NuJ, pq_NuR, pq_shr6, pq_shr7, pq_shr8, lqm1, lq0, lq1] at *; (try simp (disch := omega) only [pq_bm] at *); all_goals omega)) dX6_closeGroup_67 ?_
    refine pq_aload_n F dX6_closeGroup_70 rfl rfl ?_
    refine pq_callV (As := []) F (k_X6_repeatAndAppend l D cy _ _ ?_ _ _ _ _ _ _ _ (((((hB.p5 (by focus ((try clear hB); (try clear hB2); (try clear hB3); (try clear hB4); (try clear p38); (try clear p71); (try clear p19); (try clear p32); (try clear p45); (try clear p55); (try clear p89); (try clear p102); (try clear p109); (try clear p113); (try clear p27); (try clear p24); (try clear p81); simp only [vp_in_iff, Int32.lt_iff_toInt_lt, Int32.le_iff_toInt_le, ← Int32.toInt_inj, Int32.toInt_add, Int32.toInt_sub, Int32.toInt_mul, Int32.toInt_neg, pq_NuO, pq_NuI, pq_NuJ, pq_NuR, pq_shr6, pq_shr7, pq_shr8, lqm1, lq0, lq1] at *; (try simp (disch := omega) only [pq_bm] at *); all_goals omega)) (by focus ((try clear hB); (try clear hB2); (try clear hB3); (try clear hB4); (try clear p38); (try clear p71); (try clear p19); (try clear p32); (try clear p45); (try clear p55); (try clear p89); (try clear p102); (try clear p109); (try clear p113); (try clear p27); (try clear p24); (try clear p81); simp only [vp_in_iff, Int32.lt_iff_toInt_lt, Int32.le_iff_toInt_le, ← Int32.toInt_inj, Int32.toInt_add, Int32.toInt_sub, Int32.toInt_mul, Int32.toInt_neg, pq_NuO, pq_NuI, pq_NuJ, pq_NuR, pq_shr6, pq_shr7, pq_shr8, lqm1, lq0, lq1] at *; (try simp (disch := omega) only [pq_bm] at *); all_goals omega))).fr hF42 (by decide)).fr hF57 (by decide)).p6 (by focus ((try clear hB); (try clear hB2); (try clear hB3); (try clear hB4); (try clear p38); (try clear p71); (try clear p19); (try clear p32); (try clear p45); (try clear p55); (try clear p89); (try clear p102); (try clear p109); (try clear p113); (try clear p27); (try clear p24); (try clear p81); simp only [vp_in_iff, Int32.lt_iff_toInt_lt, Int32.le_iff_toInt_le, ← Int32.toInt_inj, Int32.toInt_add, Int32.toInt_sub, Int32.toInt_mul, Int32.toInt_neg, pq_NuO, pq_NuI, pq_NuJ, pq_NuR, pq_shr6, pq_shr7, pq_shr8, lqm1, lq0, lq1] at *; (try simp (disch := omega) only [pq_bm] at *); all_goals omega)) (by focus ((try clear hB); (try clear hB2); (try clear hB3); (try clear hB4); (try clear p38); (try clear p71); (try clear p19); (try clear p32); (try clear p45); (try clear p55); (try clear p89); (try clear p102); (try clear p109); (try clear p113); (try clear p27); (try clear p24); (try clear p81); simp only [vp_in_iff, Int32.lt_iff_toInt_lt, Int32.le_iff_toInt_le, ← Int32.toInt_inj, Int32.toInt_add, Int32.toInt_sub, Int32.toInt_mul, Int32.toInt_neg, pq_NuO, pq_NuI, pq_NuJ, pq_NuR, pq_shr6, pq_shr7, pq_shr8, lqm1, lq0, lq1] at *; (try simp (disch := omega) only [pq_bm] at *); all_goals omega))).less (by focus ((try clear hB); (try clear hB2); (try clear hB3); (try clear hB4); (try clear p38); (try clear p71); (try clear p19); (try clear p32); (try clear p45); (try clear p55); (try clear p89); (try clear p102); (try clear p109); (try clear p113); (try clear p27); (try clear p24); (try clear p81); simp only [vp_in_iff, Int32.lt_iff_toInt_lt, Int32.le_iff_toInt_le, ← Int32.toInt_inj, Int32.toInt_add, Int32.toInt_sub, Int32.toInt_mul, Int32.toInt_neg, pq_NuO, pq_NuI, pq_NuJ, pq_NuR, pq_shr6, pq_shr7, pq_shr8, lqm1, lq0, lq1] at *; (try simp (disch := omega) only [pq_bm] at *); all_goals omega)))) ml_X6_115 ha_57 (by decide) rfl (Nat.le_of_ble_eq_true rfl) ⟨Nat.le_of_ble_eq_true rfl, Nat.le_of_ble_eq_true rfl⟩ ⟨by decide, by decide⟩ dX6_closeGroup_71 (fun v71 S71 w71 => ?_)
    · exact ha_57
    obtain ⟨rfl, hF71, p71⟩ := w71
    have ha_71 := (hF71.1 _ _ ha_57 (by decide)).1
    have hz_71 := (hF71.1 _ _ hz_57 (by decide)).1
    have ec71_2_ha_71 := hF71.O ha_57 (by decide) (by decide) (pq_kp ec57_2_ha_57 (by decide))
    have hz_42z_71 := (hF71.1 _ _ hz_42z_57 (by decide)).1
    have ec71_3_ha_71 := hF71.O ha_57 (by decide) (by decide) (pq_kp ec57_3_ha_57 (by decide))
    have hz_42zz_71 := (hF71.1 _ _ hz_42zz_57 (by decide)).1
    have ec71_0_ha_71 := hF71.O ha_57 (by decide) (by decide) (pq_kp ec57_0_ha_57 (by decide))
    have ec71_7_ha_71 := hF71.O ha_57 (by decide) (by decide) (pq_kp ec57_7_ha_57 (by decide))
    have h46_71 := (hF71.1 _ _ h46_57 (by decide)).1
    have ec71_4_ha_71 := hF71.O ha_57 (by decide) (by decide) (pq_kp ec57_4_ha_57 (by decide))
    have ec71_6_ha_71 := hF71.O ha_57 (by decide) (by decide) pq_ks
    obtain ⟨at3, hB3, hr3⟩ := p71
    exact pq_vret F hr hlk hA (Nat.le_refl _) (Nat.le_refl _) (⟨rfl, (((((pq_Fr.rf.uO ha (by decide)).cm hF42 (by decide)).cm hF57 (by decide)).uO ha_57 (by decide)).cm hF71 (by decide)), _, _, _, hB3, Or.inr ⟨rfl, (by focus ((try clear hB); (try clear hB2); (try clear hB3); (try clear hB4); (try clear p38); (try clear p71); (try clear p19); (try clear p32); (try clear p45); (try clear p55); (try clear p89); (try clear p102); (try clear p109); (try clear p113); (try clear p27); (try clear p24); (try clear p81); simp only [vp_in_iff, Int32.lt_iff_toInt_lt, Int32.le_iff_toInt_le, ← Int32.toInt_inj, Int32.toInt_add, Int32.toInt_sub, Int32.toInt_mul, Int32.toInt_neg, pq_NuO, pq_NuI, pq_NuJ, pq_NuR, pq_shr6, pq_shr7, pq_shr8, lqm1, lq0, lq1] at *; (try simp (disch := omega) only [pq_bm] at *); all_goals omega))⟩⟩) dX6_closeGroup_74
  · skip
    refine pq_aload_n F dX6_closeGroup_7 rfl rfl ?_
    refine pq_aload_n F dX6_closeGroup_8 rfl rfl ?_
    refine pq_get F ha (by decide) lk_X6_38 hB.e5 dX6_closeGroup_9 ?_
    refine pq_putI F ha (by decide) lp_X6_42 rfl (pq_any1 _) (pq_any2 _) dX6_closeGroup_12 ?_
    exact pq_vret F hr hlk hA (Nat.le_refl _) (Nat.le_refl _) (⟨rfl, (pq_Fr.rf.uO ha (by decide)), _, _, _, hB.p7, Or.inl (by focus ((try clear hB); (try clear hB2); (try clear hB3); (try clear hB4); (try clear p38); (try clear p71); (try clear p19); (try clear p32); (try clear p45); (try clear p55); (try clear p89); (try clear p102); (try clear p109); (try clear p113); (try clear p27); (try clear p24); (try clear p81); simp only [vp_in_iff, Int32.lt_iff_toInt_lt, Int32.le_iff_toInt_le, ← Int32.toInt_inj, Int32.toInt_add, Int32.toInt_sub, Int32.toInt_mul, Int32.toInt_neg, pq_NuO, pq_NuI, pq_NuJ, pq_NuR, pq_shr6, pq_shr7, pq_shr8, lqm1, lq0, lq1] at *; (try simp (disch := omega) only [pq_bm] at *); all_goals omega))⟩) dX6_closeGroup_15

set_option maxHeartbeats 4000000 in
set_option maxRecDepth 100000 in
theorem k_X6_readNext (l : Launch) (D : va_G) (cy : Nat → ClassId) (S : HS) (a : Nat) (ha : pq_R S a 9) (ch sq tp : Nat) (dp at1 br t : Int32) (hB : pq_Rd S a ch sq tp dp at1 br t dp.toInt) (hat : at1.toInt < t.toInt) (hbr : br.toInt < 0) : pq_C l D cy yX6_readNext cX6_readNext 2 (none) 9 6 34 S [.ref a] (fun v S2 => v = none ∧ pq_Fr [(9, 5), (9, 6), (9, 7), (9, 8), (9, 9), (5, 2), (190, 0), (191, 0), (195, 0), (194, 0), (8, 3), (230, 0), (231, 0)] S S2 ∧ (∃ dp2 at2 br2 : Int32, pq_Rd S2 a ch sq tp dp2 at2 br2 t dp2.toInt ∧ (0 ≤ br2.toInt ∨ at1.toInt + 1 ≤ at2.toInt))) := by
  refine pq_start (by decide) (Nat.le_of_ble_eq_true rfl) ?_
  intro p e s m args below meth c A F hr hlk hnm hA
  have lqm1 : (-1 : Int32).toInt = -1 := rfl
  have lq0 : (0 : Int32).toInt = 0 := rfl
  have lq1 : (1 : Int32).toInt = 1 := rfl
  have lq40 : (40 : Int32).toInt = 40 := rfl
  have lq41 : (41 : Int32).toInt = 41 := rfl
  have lq46 : (46 : Int32).toInt = 46 := rfl
  have lq91 : (91 : Int32).toInt = 91 := rfl
  have lq124 : (124 : Int32).toInt = 124 := rfl
  obtain ⟨hd0, hd1, ha0, ha1, ht0, ht1⟩ := hB.b
  refine pq_aload_n F dX6_readNext_0 rfl rfl ?_
  refine pq_get F ha (by decide) lk_X6_25 hB.e0 dX6_readNext_1 ?_
  refine pq_aload_n F dX6_readNext_4 rfl rfl ?_
  refine pq_get F ha (by decide) lk_X6_38 hB.e5 dX6_readNext_5 ?_
  refine pq_callV (As := [_]) F (k_X9_byteAt l D cy _ _ ?_ _) ml_X6_79 hB.h0 (by decide) rfl (Nat.le_of_ble_eq_true rfl) ⟨Nat.le_of_ble_eq_true rfl, Nat.le_of_ble_eq_true rfl⟩ ⟨by decide, by decide⟩ dX6_readNext_8 (fun v8 S8 w8 => ?_)
  · exact hB.h0
  obtain ⟨u8, y8, rfl, yl8_0, yl8_1, p8⟩ := w8
  rw [u8]
  try rw [u8] at p8
  refine pq_istore_n F dX6_readNext_11 rfl (by decide) ?_
  refine pq_iload_n F dX6_readNext_12 rfl rfl ?_
  refine pq_bipush (v := 40) F dX6_readNext_13 (by decide) ?_
  refine pq_icmp_ne (tgt := 25) F dX6_readNext_15 (by decide) (fun c15 => ?_) (fun c15 => ?_)
  · skip
    refine pq_iload_n F dX6_readNext_25 rfl rfl ?_
    refine pq_bipush (v := 41) F dX6_readNext_26 (by decide) ?_
    refine pq_icmp_ne (tgt := 38) F dX6_readNext_28 (by decide) (fun c28 => ?_) (fun c28 => ?_)
    · skip
      refine pq_iload_n F dX6_readNext_38 rfl rfl ?_
      refine pq_bipush (v := 124) F dX6_readNext_39 (by decide) ?_
      refine pq_icmp_ne (tgt := 51) F dX6_readNext_41 (by decide) (fun c41 => ?_) (fun c41 => ?_)
      · skip
        refine pq_aload_n F dX6_readNext_51 rfl rfl ?_
        refine pq_getR F ha (by decide) lk_X6_29 rfl dX6_readNext_52 (fun r52 e52 h52 => ?_)
        refine pq_callV (As := []) F (k_X5_isFull l D cy _ _ ?_) ml_X6_92 h52 (by decide) rfl (Nat.le_of_ble_eq_true rfl) ⟨Nat.le_of_ble_eq_true rfl, Nat.le_of_ble_eq_true rfl⟩ ⟨by decide, by decide⟩ dX6_readNext_55 (fun v55 S55 w55 => ?_)
        · exact h52
        obtain ⟨u55, y55, rfl, yl55_0, yl55_1, p55⟩ := w55
        rw [u55]
        try rw [u55] at p55
        refine pq_if_eq (tgt := 72) F dX6_readNext_58 (by decide) (fun c58 => ?_) (fun c58 => ?_)
        · skip
          refine pq_peekI (k := 3) h52 (by decide) rfl (fun tt ett htt0 htt1 => ?_)
          have ht8 := p55 c58 tt ett
          refine pq_aload_n F dX6_readNext_72 rfl rfl ?_
          refine pq_lconst (v := 0) F dX6_readNext_73 (by decide) ?_
          refine pq_put F ha (by decide) lp_X6_96 rfl rfl (⟨_, rfl⟩) dX6_readNext_74 ?_
          refine pq_aload_n F dX6_readNext_77 rfl rfl ?_
          refine pq_lconst (v := 0) F dX6_readNext_78 (by decide) ?_
          refine pq_put F ha (by decide) lp_X6_100 rfl rfl (⟨_, rfl⟩) dX6_readNext_79 ?_
          refine pq_iload_n F dX6_readNext_82 rfl rfl ?_
          refine pq_bipush (v := 91) F dX6_readNext_83 (by decide) ?_
          refine pq_icmp_ne (tgt := 95) F dX6_readNext_85 (by decide) (fun c85 => ?_) (fun c85 => ?_)
          · skip
            refine pq_iload_n F dX6_readNext_95 rfl rfl ?_
            refine pq_bipush (v := 46) F dX6_readNext_96 (by decide) ?_
            refine pq_icmp_ne (tgt := 108) F dX6_readNext_98 (by decide) (fun c98 => ?_) (fun c98 => ?_)
            · skip
              refine pq_aload_n F dX6_readNext_108 rfl rfl ?_
              refine pq_callV (As := []) F (k_X6_readCharacter l D cy _ _ ?_ _ _ _ _ _ _ _ ((hB.p8 (Or.inl rfl)).p8 (Or.inr rfl)) ?_ ?_) ml_X6_109 ha (by decide) rfl (Nat.le_of_ble_eq_true rfl) ⟨Nat.le_of_ble_eq_true rfl, Nat.le_of_ble_eq_true rfl⟩ ⟨by decide, by decide⟩ dX6_readNext_109 (fun v109 S109 w109 => ?_)
              · exact ha
              · focus ((try clear hB); (try clear hB2); (try clear hB3); (try clear hB4); (try clear p38); (try clear p71); (try clear p19); (try clear p32); (try clear p45); (try clear p55); (try clear p89); (try clear p102); (try clear p109); (try clear p113); (try clear p27); (try clear p24); (try clear p81); (try clear p8); (try clear p19); (try clear p32); (try clear p45); (try clear p55); (try clear p102); (try clear p113); simp only [vp_in_iff, Int32.lt_iff_toInt_lt, Int32.le_iff_toInt_le, ← Int32.toInt_inj, Int32.toInt_add, Int32.toInt_sub, Int32.toInt_mul, Int32.toInt_neg, pq_NuO, pq_NuI, pq_NuJ, pq_NuR, pq_shr6, pq_shr7, pq_shr8, lqm1, lq0, lq1, lq40, lq41, lq46, lq91, lq124] at *; (try simp (disch := omega) only [pq_bm] at *); all_goals omega)
              · focus ((try clear hB); (try clear hB2); (try clear hB3); (try clear hB4); (try clear p38); (try clear p71); (try clear p19); (try clear p32); (try clear p45); (try clear p55); (try clear p89); (try clear p102); (try clear p109); (try clear p113); (try clear p27); (try clear p24); (try clear p81); (try clear p8); (try clear p19); (try clear p32); (try clear p45); (try clear p55); (try clear p102); (try clear p113); simp only [vp_in_iff, Int32.lt_iff_toInt_lt, Int32.le_iff_toInt_le, ← Int32.toInt_inj, Int32.toInt_add, Int32.toInt_sub, Int32.toInt_mul, Int32.toInt_neg, pq_NuO, pq_NuI, pq_NuJ, pq_NuR, pq_shr6, pq_shr7, pq_shr8, lqm1, lq0, lq1, lq40, lq41, lq46, lq91, lq124] at *; (try simp (disch := omega) only [pq_bm] at *); all_goals omega)
              obtain ⟨rfl, hF109, p109⟩ := w109
              have ha_109 := (hF109.1 _ _ ha (by decide)).1
              have hz_109 := (hF109.1 _ _ hB.h2 (by decide)).1
              have ec109_2_ha_109 := hF109.O ha (by decide) (by decide) (pq_kp (pq_kp hB.e2 (by decide)) (by decide))
              have hz_109z := (hF109.1 _ _ hB.h3 (by decide)).1
              have ec109_3_ha_109 := hF109.O ha (by decide) (by decide) (pq_kp (pq_kp hB.e3 (by decide)) (by decide))
              have hz_109zz := (hF109.1 _ _ hB.h0 (by decide)).1
              have ec109_0_ha_109 := hF109.O ha (by decide) (by decide) (pq_kp (pq_kp hB.e0 (by decide)) (by decide))
              have ec109_6_ha_109 := hF109.O ha (by decide) (by decide) (pq_kp (pq_kp hB.e6 (by decide)) (by decide))
              have ec109_1_hz_109zz := hF109.O hB.h0 (by decide) (by decide) (pq_ko (pq_ko hB.et hB.h0 ha (by decide)) hB.h0 ha (by decide))
              have h52_109 := (hF109.1 _ _ h52 (by decide)).1
              have ec109_1_ha_109 := hF109.O ha (by decide) (by decide) (pq_kp (pq_kp e52 (by decide)) (by decide))
              have ec109_3_h52_109 := hF109.O h52 (by decide) (by decide) (pq_ko (pq_ko ett h52 ha (by decide)) h52 ha (by decide))
              obtain ⟨at2, br2, hB2, hq⟩ := p109
              refine pq_aload_n F dX6_readNext_112 rfl rfl ?_
              refine pq_callV (As := []) F (k_X6_addPlace l D cy _ _ ?_ _ _ _ _ _ _ _ hB2 r52 tt ec109_1_ha_109 h52_109 ec109_3_h52_109 ?_ ?_) ml_X6_112 ha_109 (by decide) rfl (Nat.le_of_ble_eq_true rfl) ⟨Nat.le_of_ble_eq_true rfl, Nat.le_of_ble_eq_true rfl⟩ ⟨by decide, by decide⟩ dX6_readNext_113 (fun v113 S113 w113 => ?_)
              · exact ha_109
              · focus ((try clear hB); (try clear hB2); (try clear hB3); (try clear hB4); (try clear p38); (try clear p71); (try clear p19); (try clear p32); (try clear p45); (try clear p55); (try clear p89); (try clear p102); (try clear p109); (try clear p113); (try clear p27); (try clear p24); (try clear p81); (try clear p8); (try clear p19); (try clear p32); (try clear p45); (try clear p55); (try clear p102); (try clear p113); simp only [vp_in_iff, Int32.lt_iff_toInt_lt, Int32.le_iff_toInt_le, ← Int32.toInt_inj, Int32.toInt_add, Int32.toInt_sub, Int32.toInt_mul, Int32.toInt_neg, pq_NuO, pq_NuI, pq_NuJ, pq_NuR, pq_shr6, pq_shr7, pq_shr8, lqm1, lq0, lq1, lq40, lq41, lq46, lq91, lq124] at *; (try simp (disch := omega) only [pq_bm] at *); all_goals omega)
              · focus ((try clear hB); (try clear hB2); (try clear hB3); (try clear hB4); (try clear p38); (try clear p71); (try clear p19); (try clear p32); (try clear p45); (try clear p55); (try clear p89); (try clear p102); (try clear p109); (try clear p113); (try clear p27); (try clear p24); (try clear p81); (try clear p8); (try clear p19); (try clear p32); (try clear p45); (try clear p55); (try clear p102); (try clear p113); simp only [vp_in_iff, Int32.lt_iff_toInt_lt, Int32.le_iff_toInt_le, ← Int32.toInt_inj, Int32.toInt_add, Int32.toInt_sub, Int32.toInt_mul, Int32.toInt_neg, pq_NuO, pq_NuI, pq_NuJ, pq_NuR, pq_shr6, pq_shr7, pq_shr8, lqm1, lq0, lq1, lq40, lq41, lq46, lq91, lq124] at *; (try simp (disch := omega) only [pq_bm] at *); all_goals omega)
              obtain ⟨rfl, hF113, p113⟩ := w113
              have ha_113 := (hF113.1 _ _ ha_109 (by decide)).1
              have hz_113 := (hF113.1 _ _ hz_109 (by decide)).1
              have ec113_2_ha_113 := hF113.O ha_109 (by decide) (by decide) ec109_2_ha_109
              have hz_109z_113 := (hF113.1 _ _ hz_109z (by decide)).1
              have ec113_3_ha_113 := hF113.O ha_109 (by decide) (by decide) ec109_3_ha_109
              have hz_109zz_113 := (hF113.1 _ _ hz_109zz (by decide)).1
              have ec113_0_ha_113 := hF113.O ha_109 (by decide) (by decide) ec109_0_ha_109
              have ec113_6_ha_113 := hF113.O ha_109 (by decide) (by decide) ec109_6_ha_109
              have ec113_1_hz_109zz_113 := hF113.O hz_109zz (by decide) (by decide) ec109_1_hz_109zz
              have h52_113 := (hF113.1 _ _ h52_109 (by decide)).1
              have ec113_1_ha_113 := hF113.O ha_109 (by decide) (by decide) ec109_1_ha_109
              obtain ⟨at3, hB3, hr3⟩ := p113
              exact pq_vret F hr hlk hA (Nat.le_of_ble_eq_true rfl) (Nat.le_of_ble_eq_true rfl) (⟨rfl, ((((pq_Fr.rf.uO ha (by decide)).uO ha (by decide)).cm hF109 (by decide)).cm hF113 (by decide)), _, _, _, hB3, (by focus ((try clear hB); (try clear hB2); (try clear hB3); (try clear hB4); (try clear p38); (try clear p71); (try clear p19); (try clear p32); (try clear p45); (try clear p55); (try clear p89); (try clear p102); (try clear p109); (try clear p113); (try clear p27); (try clear p24); (try clear p81); (try clear p8); (try clear p19); (try clear p32); (try clear p45); (try clear p55); (try clear p102); (try clear p113); simp only [vp_in_iff, Int32.lt_iff_toInt_lt, Int32.le_iff_toInt_le, ← Int32.toInt_inj, Int32.toInt_add, Int32.toInt_sub, Int32.toInt_mul, Int32.toInt_neg, pq_NuO, pq_NuI, pq_NuJ, pq_NuR, pq_shr6, pq_shr7, pq_shr8, lqm1, lq0, lq1, lq40, lq41, lq46, lq91, lq124] at *; (try simp (disch := omega) only [pq_bm] at *); all_goals omega))⟩) dX6_readNext_116
            · skip
              refine pq_aload_n F dX6_readNext_101 rfl rfl ?_
              refine pq_callV (As := []) F (k_X6_readAny l D cy _ _ ?_ _ _ _ _ _ _ _ ((hB.p8 (Or.inl rfl)).p8 (Or.inr rfl)) ?_) ml_X6_106 ha (by decide) rfl (Nat.le_of_ble_eq_true rfl) ⟨Nat.le_of_ble_eq_true rfl, Nat.le_of_ble_eq_true rfl⟩ ⟨by decide, by decide⟩ dX6_readNext_102 (fun v102 S102 w102 => ?_)
              · exact ha
              · focus ((try clear hB); (try clear hB2); (try clear hB3); (try clear hB4); (try clear p38); (try clear p71); (try clear p19); (try clear p32); (try clear p45); (try clear p55); (try clear p89); (try clear p102); (try clear p109); (try clear p113); (try clear p27); (try clear p24); (try clear p81); (try clear p8); (try clear p19); (try clear p32); (try clear p45); (try clear p55); (try clear p102); (try clear p113); simp only [vp_in_iff, Int32.lt_iff_toInt_lt, Int32.le_iff_toInt_le, ← Int32.toInt_inj, Int32.toInt_add, Int32.toInt_sub, Int32.toInt_mul, Int32.toInt_neg, pq_NuO, pq_NuI, pq_NuJ, pq_NuR, pq_shr6, pq_shr7, pq_shr8, lqm1, lq0, lq1, lq40, lq41, lq46, lq91, lq124] at *; (try simp (disch := omega) only [pq_bm] at *); all_goals omega)
              obtain ⟨rfl, hF102, p102⟩ := w102
              have ha_102 := (hF102.1 _ _ ha (by decide)).1
              have hz_102 := (hF102.1 _ _ hB.h2 (by decide)).1
              have ec102_2_ha_102 := hF102.O ha (by decide) (by decide) (pq_kp (pq_kp hB.e2 (by decide)) (by decide))
              have hz_102z := (hF102.1 _ _ hB.h3 (by decide)).1
              have ec102_3_ha_102 := hF102.O ha (by decide) (by decide) (pq_kp (pq_kp hB.e3 (by decide)) (by decide))
              have hz_102zz := (hF102.1 _ _ hB.h0 (by decide)).1
              have ec102_0_ha_102 := hF102.O ha (by decide) (by decide) (pq_kp (pq_kp hB.e0 (by decide)) (by decide))
              have ec102_6_ha_102 := hF102.O ha (by decide) (by decide) (pq_kp (pq_kp hB.e6 (by decide)) (by decide))
              have ec102_7_ha_102 := hF102.O ha (by decide) (by decide) (pq_kp (pq_kp hB.e7 (by decide)) (by decide))
              have ec102_1_hz_102zz := hF102.O hB.h0 (by decide) (by decide) (pq_ko (pq_ko hB.et hB.h0 ha (by decide)) hB.h0 ha (by decide))
              have h52_102 := (hF102.1 _ _ h52 (by decide)).1
              have ec102_1_ha_102 := hF102.O ha (by decide) (by decide) (pq_kp (pq_kp e52 (by decide)) (by decide))
              have ec102_3_h52_102 := hF102.O h52 (by decide) (by decide) (pq_ko (pq_ko ett h52 ha (by decide)) h52 ha (by decide))
              have hB2 := p102
              refine pq_goto (tgt := 112) F dX6_readNext_105 (by decide) ?_
              refine pq_aload_n F dX6_readNext_112 rfl rfl ?_
              refine pq_callV (As := []) F (k_X6_addPlace l D cy _ _ ?_ _ _ _ _ _ _ _ hB2 r52 tt ec102_1_ha_102 h52_102 ec102_3_h52_102 ?_ ?_) ml_X6_112 ha_102 (by decide) rfl (Nat.le_of_ble_eq_true rfl) ⟨Nat.le_of_ble_eq_true rfl, Nat.le_of_ble_eq_true rfl⟩ ⟨by decide, by decide⟩ dX6_readNext_113 (fun v113 S113 w113 => ?_)
              · exact ha_102
              · focus ((try clear hB); (try clear hB2); (try clear hB3); (try clear hB4); (try clear p38); (try clear p71); (try clear p19); (try clear p32); (try clear p45); (try clear p55); (try clear p89); (try clear p102); (try clear p109); (try clear p113); (try clear p27); (try clear p24); (try clear p81); (try clear p8); (try clear p19); (try clear p32); (try clear p45); (try clear p55); (try clear p102); (try clear p113); simp only [vp_in_iff, Int32.lt_iff_toInt_lt, Int32.le_iff_toInt_le, ← Int32.toInt_inj, Int32.toInt_add, Int32.toInt_sub, Int32.toInt_mul, Int32.toInt_neg, pq_NuO, pq_NuI, pq_NuJ, pq_NuR, pq_shr6, pq_shr7, pq_shr8, lqm1, lq0, lq1, lq40, lq41, lq46, lq91, lq124] at *; (try simp (disch := omega) only [pq_bm] at *); all_goals omega)
              · focus ((try clear hB); (try clear hB2); (try clear hB3); (try clear hB4); (try clear p38); (try clear p71); (try clear p19); (try clear p32); (try clear p45); (try clear p55); (try clear p89); (try clear p102); (try clear p109); (try clear p113); (try clear p27); (try clear p24); (try clear p81); (try clear p8); (try clear p19); (try clear p32); (try clear p45); (try clear p55); (try clear p102); (try clear p113); simp only [vp_in_iff, Int32.lt_iff_toInt_lt, Int32.le_iff_toInt_le, ← Int32.toInt_inj, Int32.toInt_add, Int32.toInt_sub, Int32.toInt_mul, Int32.toInt_neg, pq_NuO, pq_NuI, pq_NuJ, pq_NuR, pq_shr6, pq_shr7, pq_shr8, lqm1, lq0, lq1, lq40, lq41, lq46, lq91, lq124] at *; (try simp (disch := omega) only [pq_bm] at *); all_goals omega)
              obtain ⟨rfl, hF113, p113⟩ := w113
              have ha_113 := (hF113.1 _ _ ha_102 (by decide)).1
              have hz_113 := (hF113.1 _ _ hz_102 (by decide)).1
              have ec113_2_ha_113 := hF113.O ha_102 (by decide) (by decide) ec102_2_ha_102
              have hz_102z_113 := (hF113.1 _ _ hz_102z (by decide)).1
              have ec113_3_ha_113 := hF113.O ha_102 (by decide) (by decide) ec102_3_ha_102
              have hz_102zz_113 := (hF113.1 _ _ hz_102zz (by decide)).1
              have ec113_0_ha_113 := hF113.O ha_102 (by decide) (by decide) ec102_0_ha_102
              have ec113_6_ha_113 := hF113.O ha_102 (by decide) (by decide) ec102_6_ha_102
              have ec113_7_ha_113 := hF113.O ha_102 (by decide) (by decide) ec102_7_ha_102
              have ec113_1_hz_102zz_113 := hF113.O hz_102zz (by decide) (by decide) ec102_1_hz_102zz
              have h52_113 := (hF113.1 _ _ h52_102 (by decide)).1
              have ec113_1_ha_113 := hF113.O ha_102 (by decide) (by decide) ec102_1_ha_102
              obtain ⟨at3, hB3, hr3⟩ := p113
              exact pq_vret F hr hlk hA (Nat.le_of_ble_eq_true rfl) (Nat.le_of_ble_eq_true rfl) (⟨rfl, ((((pq_Fr.rf.uO ha (by decide)).uO ha (by decide)).cm hF102 (by decide)).cm hF113 (by decide)), _, _, _, hB3, (by focus ((try clear hB); (try clear hB2); (try clear hB3); (try clear hB4); (try clear p38); (try clear p71); (try clear p19); (try clear p32); (try clear p45); (try clear p55); (try clear p89); (try clear p102); (try clear p109); (try clear p113); (try clear p27); (try clear p24); (try clear p81); (try clear p8); (try clear p19); (try clear p32); (try clear p45); (try clear p55); (try clear p102); (try clear p113); simp only [vp_in_iff, Int32.lt_iff_toInt_lt, Int32.le_iff_toInt_le, ← Int32.toInt_inj, Int32.toInt_add, Int32.toInt_sub, Int32.toInt_mul, Int32.toInt_neg, pq_NuO, pq_NuI, pq_NuJ, pq_NuR, pq_shr6, pq_shr7, pq_shr8, lqm1, lq0, lq1, lq40, lq41, lq46, lq91, lq124] at *; (try simp (disch := omega) only [pq_bm] at *); all_goals omega))⟩) dX6_readNext_116
          · skip
            refine pq_aload_n F dX6_readNext_88 rfl rfl ?_
            refine pq_callV (As := []) F (k_X6_readClass l D cy _ _ ?_ _ _ _ _ _ _ _ ((hB.p8 (Or.inl rfl)).p8 (Or.inr rfl)) ?_ ?_) ml_X6_103 ha (by decide) rfl (Nat.le_of_ble_eq_true rfl) ⟨Nat.le_of_ble_eq_true rfl, Nat.le_of_ble_eq_true rfl⟩ ⟨by decide, by decide⟩ dX6_readNext_89 (fun v89 S89 w89 => ?_)
            · exact ha
            · focus ((try clear hB); (try clear hB2); (try clear hB3); (try clear hB4); (try clear p38); (try clear p71); (try clear p19); (try clear p32); (try clear p45); (try clear p55); (try clear p89); (try clear p102); (try clear p109); (try clear p113); (try clear p27); (try clear p24); (try clear p81); (try clear p8); (try clear p19); (try clear p32); (try clear p45); (try clear p55); (try clear p102); (try clear p113); simp only [vp_in_iff, Int32.lt_iff_toInt_lt, Int32.le_iff_toInt_le, ← Int32.toInt_inj, Int32.toInt_add, Int32.toInt_sub, Int32.toInt_mul, Int32.toInt_neg, pq_NuO, pq_NuI, pq_NuJ, pq_NuR, pq_shr6, pq_shr7, pq_shr8, lqm1, lq0, lq1, lq40, lq41, lq46, lq91, lq124] at *; (try simp (disch := omega) only [pq_bm] at *); all_goals omega)
            · focus ((try clear hB); (try clear hB2); (try clear hB3); (try clear hB4); (try clear p38); (try clear p71); (try clear p19); (try clear p32); (try clear p45); (try clear p55); (try clear p89); (try clear p102); (try clear p109); (try clear p113); (try clear p27); (try clear p24); (try clear p81); (try clear p8); (try clear p19); (try clear p32); (try clear p45); (try clear p55); (try clear p102); (try clear p113); simp only [vp_in_iff, Int32.lt_iff_toInt_lt, Int32.le_iff_toInt_le, ← Int32.toInt_inj, Int32.toInt_add, Int32.toInt_sub, Int32.toInt_mul, Int32.toInt_neg, pq_NuO, pq_NuI, pq_NuJ, pq_NuR, pq_shr6, pq_shr7, pq_shr8, lqm1, lq0, lq1, lq40, lq41, lq46, lq91, lq124] at *; (try simp (disch := omega) only [pq_bm] at *); all_goals omega)
            obtain ⟨rfl, hF89, p89⟩ := w89
            have ha_89 := (hF89.1 _ _ ha (by decide)).1
            have hz_89 := (hF89.1 _ _ hB.h2 (by decide)).1
            have ec89_2_ha_89 := hF89.O ha (by decide) (by decide) (pq_kp (pq_kp hB.e2 (by decide)) (by decide))
            have hz_89z := (hF89.1 _ _ hB.h3 (by decide)).1
            have ec89_3_ha_89 := hF89.O ha (by decide) (by decide) (pq_kp (pq_kp hB.e3 (by decide)) (by decide))
            have hz_89zz := (hF89.1 _ _ hB.h0 (by decide)).1
            have ec89_0_ha_89 := hF89.O ha (by decide) (by decide) (pq_kp (pq_kp hB.e0 (by decide)) (by decide))
            have ec89_6_ha_89 := hF89.O ha (by decide) (by decide) (pq_kp (pq_kp hB.e6 (by decide)) (by decide))
            have ec89_1_hz_89zz := hF89.O hB.h0 (by decide) (by decide) (pq_ko (pq_ko hB.et hB.h0 ha (by decide)) hB.h0 ha (by decide))
            have h52_89 := (hF89.1 _ _ h52 (by decide)).1
            have ec89_1_ha_89 := hF89.O ha (by decide) (by decide) (pq_kp (pq_kp e52 (by decide)) (by decide))
            have ec89_3_h52_89 := hF89.O h52 (by decide) (by decide) (pq_ko (pq_ko ett h52 ha (by decide)) h52 ha (by decide))
            obtain ⟨at2, br2, hB2, hq⟩ := p89
            refine pq_goto (tgt := 112) F dX6_readNext_92 (by decide) ?_
            refine pq_aload_n F dX6_readNext_112 rfl rfl ?_
            refine pq_callV (As := []) F (k_X6_addPlace l D cy _ _ ?_ _ _ _ _ _ _ _ hB2 r52 tt ec89_1_ha_89 h52_89 ec89_3_h52_89 ?_ ?_) ml_X6_112 ha_89 (by decide) rfl (Nat.le_of_ble_eq_true rfl) ⟨Nat.le_of_ble_eq_true rfl, Nat.le_of_ble_eq_true rfl⟩ ⟨by decide, by decide⟩ dX6_readNext_113 (fun v113 S113 w113 => ?_)
            · exact ha_89
            · focus ((try clear hB); (try clear hB2); (try clear hB3); (try clear hB4); (try clear p38); (try clear p71); (try clear p19); (try clear p32); (try clear p45); (try clear p55); (try clear p89); (try clear p102); (try clear p109); (try clear p113); (try clear p27); (try clear p24); (try clear p81); (try clear p8); (try clear p19); (try clear p32); (try clear p45); (try clear p55); (try clear p102); (try clear p113); simp only [vp_in_iff, Int32.lt_iff_toInt_lt, Int32.le_iff_toInt_le, ← Int32.toInt_inj, Int32.toInt_add, Int32.toInt_sub, Int32.toInt_mul, Int32.toInt_neg, pq_NuO, pq_NuI, pq_NuJ, pq_NuR, pq_shr6, pq_shr7, pq_shr8, lqm1, lq0, lq1, lq40, lq41, lq46, lq91, lq124] at *; (try simp (disch := omega) only [pq_bm] at *); all_goals omega)
            · focus ((try clear hB); (try clear hB2); (try clear hB3); (try clear hB4); (try clear p38); (try clear p71); (try clear p19); (try clear p32); (try clear p45); (try clear p55); (try clear p89); (try clear p102); (try clear p109); (try clear p113); (try clear p27); (try clear p24); (try clear p81); (try clear p8); (try clear p19); (try clear p32); (try clear p45); (try clear p55); (try clear p102); (try clear p113); simp only [vp_in_iff, Int32.lt_iff_toInt_lt, Int32.le_iff_toInt_le, ← Int32.toInt_inj, Int32.toInt_add, Int32.toInt_sub, Int32.toInt_mul, Int32.toInt_neg, pq_NuO, pq_NuI, pq_NuJ, pq_NuR, pq_shr6, pq_shr7, pq_shr8, lqm1, lq0, lq1, lq40, lq41, lq46, lq91, lq124] at *; (try simp (disch := omega) only [pq_bm] at *); all_goals omega)
            obtain ⟨rfl, hF113, p113⟩ := w113
            have ha_113 := (hF113.1 _ _ ha_89 (by decide)).1
            have hz_113 := (hF113.1 _ _ hz_89 (by decide)).1
            have ec113_2_ha_113 := hF113.O ha_89 (by decide) (by decide) ec89_2_ha_89
            have hz_89z_113 := (hF113.1 _ _ hz_89z (by decide)).1
            have ec113_3_ha_113 := hF113.O ha_89 (by decide) (by decide) ec89_3_ha_89
            have hz_89zz_113 := (hF113.1 _ _ hz_89zz (by decide)).1
            have ec113_0_ha_113 := hF113.O ha_89 (by decide) (by decide) ec89_0_ha_89
            have ec113_6_ha_113 := hF113.O ha_89 (by decide) (by decide) ec89_6_ha_89
            have ec113_1_hz_89zz_113 := hF113.O hz_89zz (by decide) (by decide) ec89_1_hz_89zz
            have h52_113 := (hF113.1 _ _ h52_89 (by decide)).1
            have ec113_1_ha_113 := hF113.O ha_89 (by decide) (by decide) ec89_1_ha_89
            obtain ⟨at3, hB3, hr3⟩ := p113
            exact pq_vret F hr hlk hA (Nat.le_of_ble_eq_true rfl) (Nat.le_of_ble_eq_true rfl) (⟨rfl, ((((pq_Fr.rf.uO ha (by decide)).uO ha (by decide)).cm hF89 (by decide)).cm hF113 (by decide)), _, _, _, hB3, (by focus ((try clear hB); (try clear hB2); (try clear hB3); (try clear hB4); (try clear p38); (try clear p71); (try clear p19); (try clear p32); (try clear p45); (try clear p55); (try clear p89); (try clear p102); (try clear p109); (try clear p113); (try clear p27); (try clear p24); (try clear p81); (try clear p8); (try clear p19); (try clear p32); (try clear p45); (try clear p55); (try clear p102); (try clear p113); simp only [vp_in_iff, Int32.lt_iff_toInt_lt, Int32.le_iff_toInt_le, ← Int32.toInt_inj, Int32.toInt_add, Int32.toInt_sub, Int32.toInt_mul, Int32.toInt_neg, pq_NuO, pq_NuI, pq_NuJ, pq_NuR, pq_shr6, pq_shr7, pq_shr8, lqm1, lq0, lq1, lq40, lq41, lq46, lq91, lq124] at *; (try simp (disch := omega) only [pq_bm] at *); all_goals omega))⟩) dX6_readNext_116
        · skip
          refine pq_aload_n F dX6_readNext_61 rfl rfl ?_
          refine pq_aload_n F dX6_readNext_62 rfl rfl ?_
          refine pq_get F ha (by decide) lk_X6_38 hB.e5 dX6_readNext_63 ?_
          refine pq_putI F ha (by decide) lp_X6_42 rfl (pq_any1 _) (pq_any2 _) dX6_readNext_66 ?_
          refine pq_goto (tgt := 116) F dX6_readNext_69 (by decide) ?_
          exact pq_vret F hr hlk hA (Nat.le_of_ble_eq_true rfl) (Nat.le_of_ble_eq_true rfl) (⟨rfl, (pq_Fr.rf.uO ha (by decide)), _, _, _, hB.p7, (by focus ((try clear hB); (try clear hB2); (try clear hB3); (try clear hB4); (try clear p38); (try clear p71); (try clear p19); (try clear p32); (try clear p45); (try clear p55); (try clear p89); (try clear p102); (try clear p109); (try clear p113); (try clear p27); (try clear p24); (try clear p81); (try clear p8); (try clear p19); (try clear p32); (try clear p45); (try clear p55); (try clear p102); (try clear p113); simp only [vp_in_iff, Int32.lt_iff_toInt_lt, Int32.le_iff_toInt_le, ← Int32.toInt_inj, Int32.toInt_add, Int32.toInt_sub, Int32.toInt_mul, Int32.toInt_neg, pq_NuO, pq_NuI, pq_NuJ, pq_NuR, pq_shr6, pq_shr7, pq_shr8, lqm1, lq0, lq1, lq40, lq41, lq46, lq91, lq124] at *; (try simp (disch := omega) only [pq_bm] at *); all_goals omega))⟩) dX6_readNext_116
      · skip
        refine pq_aload_n F dX6_readNext_44 rfl rfl ?_
        refine pq_callV (As := []) F (k_X6_nextChoice l D cy _ _ ?_ _ _ _ _ _ _ _ hB ?_) ml_X6_89 ha (by decide) rfl (Nat.le_of_ble_eq_true rfl) ⟨Nat.le_of_ble_eq_true rfl, Nat.le_of_ble_eq_true rfl⟩ ⟨by decide, by decide⟩ dX6_readNext_45 (fun v45 S45 w45 => ?_)
        · exact ha
        · focus ((try clear hB); (try clear hB2); (try clear hB3); (try clear hB4); (try clear p38); (try clear p71); (try clear p19); (try clear p32); (try clear p45); (try clear p55); (try clear p89); (try clear p102); (try clear p109); (try clear p113); (try clear p27); (try clear p24); (try clear p81); (try clear p8); (try clear p19); (try clear p32); (try clear p45); (try clear p55); (try clear p102); (try clear p113); simp only [vp_in_iff, Int32.lt_iff_toInt_lt, Int32.le_iff_toInt_le, ← Int32.toInt_inj, Int32.toInt_add, Int32.toInt_sub, Int32.toInt_mul, Int32.toInt_neg, pq_NuO, pq_NuI, pq_NuJ, pq_NuR, pq_shr6, pq_shr7, pq_shr8, lqm1, lq0, lq1, lq40, lq41, lq46, lq91, lq124] at *; (try simp (disch := omega) only [pq_bm] at *); all_goals omega)
        obtain ⟨rfl, hF45, p45⟩ := w45
        have ha_45 := (hF45.1 _ _ ha (by decide)).1
        have hz_45 := (hF45.1 _ _ hB.h2 (by decide)).1
        have ec45_2_ha_45 := hF45.O ha (by decide) (by decide) hB.e2
        have hz_45z := (hF45.1 _ _ hB.h3 (by decide)).1
        have ec45_3_ha_45 := hF45.O ha (by decide) (by decide) hB.e3
        have hz_45zz := (hF45.1 _ _ hB.h0 (by decide)).1
        have ec45_0_ha_45 := hF45.O ha (by decide) (by decide) hB.e0
        have ec45_6_ha_45 := hF45.O ha (by decide) (by decide) hB.e6
        have ec45_7_ha_45 := hF45.O ha (by decide) (by decide) hB.e7
        have ec45_1_hz_45zz := hF45.O hB.h0 (by decide) (by decide) hB.et
        refine pq_goto (tgt := 116) F dX6_readNext_48 (by decide) ?_
        exact pq_vret F hr hlk hA (Nat.le_of_ble_eq_true rfl) (Nat.le_of_ble_eq_true rfl) (⟨rfl, (pq_Fr.rf.cm hF45 (by decide)), _, _, _, p45, (by focus ((try clear hB); (try clear hB2); (try clear hB3); (try clear hB4); (try clear p38); (try clear p71); (try clear p19); (try clear p32); (try clear p45); (try clear p55); (try clear p89); (try clear p102); (try clear p109); (try clear p113); (try clear p27); (try clear p24); (try clear p81); (try clear p8); (try clear p19); (try clear p32); (try clear p45); (try clear p55); (try clear p102); (try clear p113); simp only [vp_in_iff, Int32.lt_iff_toInt_lt, Int32.le_iff_toInt_le, ← Int32.toInt_inj, Int32.toInt_add, Int32.toInt_sub, Int32.toInt_mul, Int32.toInt_neg, pq_NuO, pq_NuI, pq_NuJ, pq_NuR, pq_shr6, pq_shr7, pq_shr8, lqm1, lq0, lq1, lq40, lq41, lq46, lq91, lq124] at *; (try simp (disch := omega) only [pq_bm] at *); all_goals omega))⟩) dX6_readNext_116
    · skip
      refine pq_aload_n F dX6_readNext_31 rfl rfl ?_
      refine pq_callV (As := []) F (k_X6_closeGroup l D cy _ _ ?_ _ _ _ _ _ _ _ hB ?_) ml_X6_86 ha (by decide) rfl (Nat.le_of_ble_eq_true rfl) ⟨Nat.le_of_ble_eq_true rfl, Nat.le_of_ble_eq_true rfl⟩ ⟨by decide, by decide⟩ dX6_readNext_32 (fun v32 S32 w32 => ?_)
      · exact ha
      · focus ((try clear hB); (try clear hB2); (try clear hB3); (try clear hB4); (try clear p38); (try clear p71); (try clear p19); (try clear p32); (try clear p45); (try clear p55); (try clear p89); (try clear p102); (try clear p109); (try clear p113); (try clear p27); (try clear p24); (try clear p81); (try clear p8); (try clear p19); (try clear p32); (try clear p45); (try clear p55); (try clear p102); (try clear p113); simp only [vp_in_iff, Int32.lt_iff_toInt_lt, Int32.le_iff_toInt_le, ← Int32.toInt_inj, Int32.toInt_add, Int32.toInt_sub, Int32.toInt_mul, Int32.toInt_neg, pq_NuO, pq_NuI, pq_NuJ, pq_NuR, pq_shr6, pq_shr7, pq_shr8, lqm1, lq0, lq1, lq40, lq41, lq46, lq91, lq124] at *; (try simp (disch := omega) only [pq_bm] at *); all_goals omega)
      obtain ⟨rfl, hF32, p32⟩ := w32
      have ha_32 := (hF32.1 _ _ ha (by decide)).1
      have hz_32 := (hF32.1 _ _ hB.h2 (by decide)).1
      have ec32_2_ha_32 := hF32.O ha (by decide) (by decide) hB.e2
      have hz_32z := (hF32.1 _ _ hB.h3 (by decide)).1
      have ec32_3_ha_32 := hF32.O ha (by decide) (by decide) hB.e3
      have hz_32zz := (hF32.1 _ _ hB.h0 (by decide)).1
      have ec32_0_ha_32 := hF32.O ha (by decide) (by decide) hB.e0
      have ec32_1_hz_32zz := hF32.O hB.h0 (by decide) (by decide) hB.et
      obtain ⟨dp2, at2, br2, hB2, hq⟩ := p32
      refine pq_goto (tgt := 116) F dX6_readNext_35 (by decide) ?_
      exact pq_vret F hr hlk hA (Nat.le_of_ble_eq_true rfl) (Nat.le_of_ble_eq_true rfl) (⟨rfl, (pq_Fr.rf.cm hF32 (by decide)), _, _, _, hB2, (by focus ((try clear hB); (try clear hB2); (try clear hB3); (try clear hB4); (try clear p38); (try clear p71); (try clear p19); (try clear p32); (try clear p45); (try clear p55); (try clear p89); (try clear p102); (try clear p109); (try clear p113); (try clear p27); (try clear p24); (try clear p81); (try clear p8); (try clear p19); (try clear p32); (try clear p45); (try clear p55); (try clear p102); (try clear p113); simp only [vp_in_iff, Int32.lt_iff_toInt_lt, Int32.le_iff_toInt_le, ← Int32.toInt_inj, Int32.toInt_add, Int32.toInt_sub, Int32.toInt_mul, Int32.toInt_neg, pq_NuO, pq_NuI, pq_NuJ, pq_NuR, pq_shr6, pq_shr7, pq_shr8, lqm1, lq0, lq1, lq40, lq41, lq46, lq91, lq124] at *; (try simp (disch := omega) only [pq_bm] at *); all_goals omega))⟩) dX6_readNext_116
  · skip
    refine pq_aload_n F dX6_readNext_18 rfl rfl ?_
    refine pq_callV (As := []) F (k_X6_openGroup l D cy _ _ ?_ _ _ _ _ _ _ _ hB ?_) ml_X6_83 ha (by decide) rfl (Nat.le_of_ble_eq_true rfl) ⟨Nat.le_of_ble_eq_true rfl, Nat.le_of_ble_eq_true rfl⟩ ⟨Nat.le_of_ble_eq_true rfl, Nat.le_of_ble_eq_true rfl⟩ dX6_readNext_19 (fun v19 S19 w19 => ?_)
    · exact ha
    · focus ((try clear hB); (try clear hB2); (try clear hB3); (try clear hB4); (try clear p38); (try clear p71); (try clear p19); (try clear p32); (try clear p45); (try clear p55); (try clear p89); (try clear p102); (try clear p109); (try clear p113); (try clear p27); (try clear p24); (try clear p81); (try clear p8); (try clear p19); (try clear p32); (try clear p45); (try clear p55); (try clear p102); (try clear p113); simp only [vp_in_iff, Int32.lt_iff_toInt_lt, Int32.le_iff_toInt_le, ← Int32.toInt_inj, Int32.toInt_add, Int32.toInt_sub, Int32.toInt_mul, Int32.toInt_neg, pq_NuO, pq_NuI, pq_NuJ, pq_NuR, pq_shr6, pq_shr7, pq_shr8, lqm1, lq0, lq1, lq40, lq41, lq46, lq91, lq124] at *; (try simp (disch := omega) only [pq_bm] at *); all_goals omega)
    obtain ⟨rfl, hF19, p19⟩ := w19
    have ha_19 := (hF19.1 _ _ ha (by decide)).1
    have hz_19 := (hF19.1 _ _ hB.h2 (by decide)).1
    have ec19_2_ha_19 := hF19.O ha (by decide) (by decide) hB.e2
    have hz_19z := (hF19.1 _ _ hB.h3 (by decide)).1
    have ec19_3_ha_19 := hF19.O ha (by decide) (by decide) hB.e3
    have hz_19zz := (hF19.1 _ _ hB.h0 (by decide)).1
    have ec19_0_ha_19 := hF19.O ha (by decide) (by decide) hB.e0
    have ec19_1_hz_19zz := hF19.O hB.h0 (by decide) (by decide) hB.et
    obtain ⟨dp2, at2, br2, hB2, hq⟩ := p19
    refine pq_goto (tgt := 116) F dX6_readNext_22 (by decide) ?_
    exact pq_vret F hr hlk hA (Nat.le_of_ble_eq_true rfl) (Nat.le_of_ble_eq_true rfl) (⟨rfl, (pq_Fr.rf.cm hF19 (by decide)), _, _, _, hB2, (by focus ((try clear hB); (try clear hB2); (try clear hB3); (try clear hB4); (try clear p38); (try clear p71); (try clear p19); (try clear p32); (try clear p45); (try clear p55); (try clear p89); (try clear p102); (try clear p109); (try clear p113); (try clear p27); (try clear p24); (try clear p81); (try clear p8); (try clear p19); (try clear p32); (try clear p45); (try clear p55); (try clear p102); (try clear p113); simp only [vp_in_iff, Int32.lt_iff_toInt_lt, Int32.le_iff_toInt_le, ← Int32.toInt_inj, Int32.toInt_add, Int32.toInt_sub, Int32.toInt_mul, Int32.toInt_neg, pq_NuO, pq_NuI, pq_NuJ, pq_NuR, pq_shr6, pq_shr7, pq_shr8, lqm1, lq0, lq1, lq40, lq41, lq46, lq91, lq124] at *; (try simp (disch := omega) only [pq_bm] at *); all_goals omega))⟩) dX6_readNext_116

set_option maxHeartbeats 4000000 in
set_option maxRecDepth 100000 in
theorem k_X6_readTape (l : Launch) (D : va_G) (cy : Nat → ClassId) (S : HS) (a : Nat) (ha : pq_R S a 9) (ch sq tp pl tk tn : Nat) (t : Int32) (e2 : hO S a 2 = .ref ch) (h2 : pq_R S ch 230) (e3 : hO S a 3 = .ref sq) (h3 : pq_R S sq 231) (e0 : hO S a 0 = .ref tp) (h0 : pq_R S tp 12) (et : hO S tp 1 = .int t) (ht0 : 0 ≤ t.toInt) (ht1 : t.toInt ≤ 2048) (htn : t.toInt = (tn : Int)) (e1 : hO S a 1 = .ref pl) (h1 : pq_R S pl 8) (etk : hO S pl 0 = .ref tk) (htk : pq_R S tk 194) : pq_C l D cy yX6_readTape cX6_readTape 2 (some .int) 10 (6 * (tn + 1)) (34 * (tn + 1)) S [.ref a] (fun v S2 => pq_Fr [(9, 5), (9, 6), (9, 7), (9, 8), (9, 9), (5, 2), (190, 0), (191, 0), (195, 0), (194, 0), (8, 3), (230, 0), (231, 0)] S S2 ∧ ∃ x : Int32, v = some (.int x) ∧ (t.toInt = 0 → ∀ i : Nat, i < hN S tk → hJ S2 tk i = 0)) := by
  refine pq_start (by decide) (Nat.le_of_ble_eq_true rfl) ?_
  intro p e s m args below meth c A F hr hlk hnm hA
  have lqm1 : (-1 : Int32).toInt = -1 := rfl
  have lq0 : (0 : Int32).toInt = 0 := rfl
  have lq1 : (1 : Int32).toInt = 1 := rfl
  have lq2048 : (2048 : Int32).toInt = 2048 := rfl
  have L28 : ∀  (fu : Nat) (S1 : HS) (k : Int32) (dp3 at3 br3 : Int32) (cc zz : Nat) (hF : pq_Fr [(9, 5), (9, 6), (9, 7), (9, 8), (9, 9), (5, 2), (190, 0), (191, 0), (195, 0), (194, 0), (8, 3), (230, 0), (231, 0)] S S1) (hB3 : pq_Rd S1 a ch sq tp dp3 at3 br3 t dp3.toInt) (hZ : t.toInt = 0 → ∀ i : Nat, i < hN S tk → hJ S1 tk i = 0) (hk0 : 0 ≤ k.toInt) (hk1 : k.toInt ≤ 2048) (hc1 : cc ≤ 6 * (tn + 1)) (hc2 : 0 ≤ br3.toInt ∨ (cc : Int) ≤ 6 * (at3.toInt + 1)) (hz : 6 * zz = 34 * cc), (2048 - k.toInt).toNat < fu → pq_At p l e (pq_rm 10 (6 * (tn + 1)) (34 * (tn + 1))) s m args below meth c (pq_Z below args s D cy S (6 * (tn + 1)) (34 * (tn + 1)) (fun v S2 => pq_Fr [(9, 5), (9, 6), (9, 7), (9, 8), (9, 9), (5, 2), (190, 0), (191, 0), (195, 0), (194, 0), (8, 3), (230, 0), (231, 0)] S S2 ∧ ∃ x : Int32, v = some (.int x) ∧ (t.toInt = 0 → ∀ i : Nat, i < hN S tk → hJ S2 tk i = 0))) D cy A 2 cc zz 28 S1 [some (.ref a), some (.int k)] [] := by
    intro  fu
    induction fu with
    | zero => intro S1 k dp3 at3 br3 cc zz hF hB3 hZ hk0 hk1 hc1 hc2 hz hm; exact absurd hm (Nat.not_lt_zero _)
    | succ fu ih =>
      intro S1 k dp3 at3 br3 cc zz hF hB3 hZ hk0 hk1 hc1 hc2 hz hm
      have haL := hF.R ha (by first | decide | omega)
      have hb3 := hB3.b
      refine pq_iload_n F dX6_readTape_28 rfl rfl ?_
      refine pq_sipush (v := 2048) F dX6_readTape_29 (by decide) ?_
      refine pq_icmp_ge (tgt := 66) F dX6_readTape_32 (by decide) (fun c32 => ?_) (fun c32 => ?_)
      · skip
        refine pq_aload_n F dX6_readTape_66 rfl rfl ?_
        refine pq_get F haL (by decide) lk_X6_42 hB3.e7 dX6_readTape_67 ?_
        refine pq_if_ge (tgt := 88) F dX6_readTape_70 (by decide) (fun c70 => ?_) (fun c70 => ?_)
        · skip
          refine pq_aload_n F dX6_readTape_88 rfl rfl ?_
          refine pq_aload_n F dX6_readTape_89 rfl rfl ?_
          refine pq_get F haL (by decide) lk_X6_11 hB3.e2 dX6_readTape_90 ?_
          refine pq_callV (As := [_]) F (k_X6_hereC l D cy _ _ ?_ _ ?_ _ (hB3).e6 hb3.1 hb3.2.1 ((hB3).c (Int.le_refl _))) ml_X6_59 haL (by decide) rfl (Nat.le_of_ble_eq_true rfl) ⟨Nat.le_of_ble_eq_true rfl, Nat.le_of_ble_eq_true rfl⟩ ⟨by show cc + 0 ≤ 6 * (tn + 1); focus ((try clear p4); (try clear p4a); (try clear p23); (try clear p57); (try clear hZ); (try clear hB3); (try clear hB4); (try clear p104); (try clear hZ2); simp only [vp_in_iff, Int32.lt_iff_toInt_lt, Int32.le_iff_toInt_le, ← Int32.toInt_inj, Int32.toInt_add, Int32.toInt_sub, Int32.toInt_mul, Int32.toInt_neg, pq_NuO, pq_NuI, pq_NuJ, pq_NuR, pq_shr6, pq_shr7, pq_shr8, lqm1, lq0, lq1, lq2048] at *; (try simp (disch := omega) only [pq_bm] at *); all_goals omega), by show zz + 0 ≤ 34 * (tn + 1); focus ((try clear p4); (try clear p4a); (try clear p23); (try clear p57); (try clear hZ); (try clear hB3); (try clear hB4); (try clear p104); (try clear hZ2); simp only [vp_in_iff, Int32.lt_iff_toInt_lt, Int32.le_iff_toInt_le, ← Int32.toInt_inj, Int32.toInt_add, Int32.toInt_sub, Int32.toInt_mul, Int32.toInt_neg, pq_NuO, pq_NuI, pq_NuJ, pq_NuR, pq_shr6, pq_shr7, pq_shr8, lqm1, lq0, lq1, lq2048] at *; (try simp (disch := omega) only [pq_bm] at *); all_goals omega)⟩ dX6_readTape_93 (fun v93 S93 w93 => ?_)
          · exact haL
          · exact hB3.h2
          obtain ⟨u93, y93, rfl, hy93⟩ := w93
          rw [u93]
          rw [u93] at hy93
          refine pq_aload_n F dX6_readTape_96 rfl rfl ?_
          refine pq_aload_n F dX6_readTape_97 rfl rfl ?_
          refine pq_get F haL (by decide) lk_X6_17 hB3.e3 dX6_readTape_98 ?_
          refine pq_callV (As := [_]) F (k_X6_hereQ l D cy _ _ ?_ _ ?_ _ (hB3).e6 hb3.1 hb3.2.1 ((hB3).q (Int.le_refl _))) ml_X6_59 haL (by decide) rfl (Nat.le_of_ble_eq_true rfl) ⟨Nat.le_of_ble_eq_true rfl, Nat.le_of_ble_eq_true rfl⟩ ⟨by show cc + 0 + 0 ≤ 6 * (tn + 1); focus ((try clear p4); (try clear p4a); (try clear p23); (try clear p57); (try clear hZ); (try clear hB3); (try clear hB4); (try clear p104); (try clear hZ2); simp only [vp_in_iff, Int32.lt_iff_toInt_lt, Int32.le_iff_toInt_le, ← Int32.toInt_inj, Int32.toInt_add, Int32.toInt_sub, Int32.toInt_mul, Int32.toInt_neg, pq_NuO, pq_NuI, pq_NuJ, pq_NuR, pq_shr6, pq_shr7, pq_shr8, lqm1, lq0, lq1, lq2048] at *; (try simp (disch := omega) only [pq_bm] at *); all_goals omega), by show zz + 0 + 0 ≤ 34 * (tn + 1); focus ((try clear p4); (try clear p4a); (try clear p23); (try clear p57); (try clear hZ); (try clear hB3); (try clear hB4); (try clear p104); (try clear hZ2); simp only [vp_in_iff, Int32.lt_iff_toInt_lt, Int32.le_iff_toInt_le, ← Int32.toInt_inj, Int32.toInt_add, Int32.toInt_sub, Int32.toInt_mul, Int32.toInt_neg, pq_NuO, pq_NuI, pq_NuJ, pq_NuR, pq_shr6, pq_shr7, pq_shr8, lqm1, lq0, lq1, lq2048] at *; (try simp (disch := omega) only [pq_bm] at *); all_goals omega)⟩ dX6_readTape_101 (fun v101 S101 w101 => ?_)
          · exact haL
          · exact hB3.h3
          obtain ⟨u101, y101, rfl, hy101⟩ := w101
          rw [u101]
          rw [u101] at hy101
          refine pq_callV (As := [_]) F (k_X2_addChoice l D cy _ _ ?_ _ ?_) ml_X6_63 hy93 (by decide) rfl (Nat.le_of_ble_eq_true rfl) ⟨Nat.le_of_ble_eq_true rfl, Nat.le_of_ble_eq_true rfl⟩ ⟨by show cc + 0 + 0 + 0 ≤ 6 * (tn + 1); focus ((try clear p4); (try clear p4a); (try clear p23); (try clear p57); (try clear hZ); (try clear hB3); (try clear hB4); (try clear p104); (try clear hZ2); simp only [vp_in_iff, Int32.lt_iff_toInt_lt, Int32.le_iff_toInt_le, ← Int32.toInt_inj, Int32.toInt_add, Int32.toInt_sub, Int32.toInt_mul, Int32.toInt_neg, pq_NuO, pq_NuI, pq_NuJ, pq_NuR, pq_shr6, pq_shr7, pq_shr8, lqm1, lq0, lq1, lq2048] at *; (try simp (disch := omega) only [pq_bm] at *); all_goals omega), by show zz + 0 + 0 + 0 ≤ 34 * (tn + 1); focus ((try clear p4); (try clear p4a); (try clear p23); (try clear p57); (try clear hZ); (try clear hB3); (try clear hB4); (try clear p104); (try clear hZ2); simp only [vp_in_iff, Int32.lt_iff_toInt_lt, Int32.le_iff_toInt_le, ← Int32.toInt_inj, Int32.toInt_add, Int32.toInt_sub, Int32.toInt_mul, Int32.toInt_neg, pq_NuO, pq_NuI, pq_NuJ, pq_NuR, pq_shr6, pq_shr7, pq_shr8, lqm1, lq0, lq1, lq2048] at *; (try simp (disch := omega) only [pq_bm] at *); all_goals omega)⟩ dX6_readTape_104 (fun v104 S104 w104 => ?_)
          · exact hy93
          · exact hy101
          obtain ⟨rfl, hF104⟩ := w104
          have haL_104 := (hF104.1 _ _ haL (by decide)).1
          have hz_104 := (hF104.1 _ _ hB3.h2 (by decide)).1
          have ec104_2_haL_104 := hF104.O haL (by decide) (by decide) hB3.e2
          have hz_104z := (hF104.1 _ _ hB3.h3 (by decide)).1
          have ec104_3_haL_104 := hF104.O haL (by decide) (by decide) hB3.e3
          have hz_104zz := (hF104.1 _ _ hB3.h0 (by decide)).1
          have ec104_0_haL_104 := hF104.O haL (by decide) (by decide) hB3.e0
          have ec104_5_haL_104 := hF104.O haL (by decide) (by decide) hB3.e5
          have ec104_6_haL_104 := hF104.O haL (by decide) (by decide) hB3.e6
          have ec104_7_haL_104 := hF104.O haL (by decide) (by decide) hB3.e7
          refine pq_aload_n F dX6_readTape_107 rfl rfl ?_
          refine pq_getR F haL_104 (by decide) lk_X6_29 rfl dX6_readTape_108 (fun r108 e108 h108 => ?_)
          refine pq_getR F h108 (by decide) lk_X6_67 rfl dX6_readTape_111 (fun r111 e111 h111 => ?_)
          refine pq_aload_n F dX6_readTape_114 rfl rfl ?_
          refine pq_aload_n F dX6_readTape_115 rfl rfl ?_
          refine pq_get F haL_104 (by decide) lk_X6_11 ec104_2_haL_104 dX6_readTape_116 ?_
          refine pq_callV (As := [_]) F (k_X6_hereC l D cy _ _ ?_ _ ?_ _ ((hB3.fr hF104 (by decide))).e6 hb3.1 hb3.2.1 (((hB3.fr hF104 (by decide))).c (Int.le_refl _))) ml_X6_59 haL_104 (by decide) rfl (Nat.le_of_ble_eq_true rfl) ⟨Nat.le_of_ble_eq_true rfl, Nat.le_of_ble_eq_true rfl⟩ ⟨by show cc + 0 + 0 + 0 + 0 ≤ 6 * (tn + 1); focus ((try clear p4); (try clear p4a); (try clear p23); (try clear p57); (try clear hZ); (try clear hB3); (try clear hB4); (try clear p104); (try clear hZ2); simp only [vp_in_iff, Int32.lt_iff_toInt_lt, Int32.le_iff_toInt_le, ← Int32.toInt_inj, Int32.toInt_add, Int32.toInt_sub, Int32.toInt_mul, Int32.toInt_neg, pq_NuO, pq_NuI, pq_NuJ, pq_NuR, pq_shr6, pq_shr7, pq_shr8, lqm1, lq0, lq1, lq2048] at *; (try simp (disch := omega) only [pq_bm] at *); all_goals omega), by show zz + 0 + 0 + 0 + 0 ≤ 34 * (tn + 1); focus ((try clear p4); (try clear p4a); (try clear p23); (try clear p57); (try clear hZ); (try clear hB3); (try clear hB4); (try clear p104); (try clear hZ2); simp only [vp_in_iff, Int32.lt_iff_toInt_lt, Int32.le_iff_toInt_le, ← Int32.toInt_inj, Int32.toInt_add, Int32.toInt_sub, Int32.toInt_mul, Int32.toInt_neg, pq_NuO, pq_NuI, pq_NuJ, pq_NuR, pq_shr6, pq_shr7, pq_shr8, lqm1, lq0, lq1, lq2048] at *; (try simp (disch := omega) only [pq_bm] at *); all_goals omega)⟩ dX6_readTape_119 (fun v119 S119 w119 => ?_)
          · exact haL_104
          · exact hz_104
          obtain ⟨u119, y119, rfl, hy119⟩ := w119
          rw [u119]
          rw [u119] at hy119
          refine pq_callV (As := [_]) F (k_X2_become l D cy _ _ ?_ _ ?_) ml_X6_70 h111 (by decide) rfl (Nat.le_of_ble_eq_true rfl) ⟨Nat.le_of_ble_eq_true rfl, Nat.le_of_ble_eq_true rfl⟩ ⟨by show cc + 0 + 0 + 0 + 0 + 0 ≤ 6 * (tn + 1); focus ((try clear p4); (try clear p4a); (try clear p23); (try clear p57); (try clear hZ); (try clear hB3); (try clear hB4); (try clear p104); (try clear hZ2); simp only [vp_in_iff, Int32.lt_iff_toInt_lt, Int32.le_iff_toInt_le, ← Int32.toInt_inj, Int32.toInt_add, Int32.toInt_sub, Int32.toInt_mul, Int32.toInt_neg, pq_NuO, pq_NuI, pq_NuJ, pq_NuR, pq_shr6, pq_shr7, pq_shr8, lqm1, lq0, lq1, lq2048] at *; (try simp (disch := omega) only [pq_bm] at *); all_goals omega), by show zz + 0 + 0 + 0 + 0 + 0 ≤ 34 * (tn + 1); focus ((try clear p4); (try clear p4a); (try clear p23); (try clear p57); (try clear hZ); (try clear hB3); (try clear hB4); (try clear p104); (try clear hZ2); simp only [vp_in_iff, Int32.lt_iff_toInt_lt, Int32.le_iff_toInt_le, ← Int32.toInt_inj, Int32.toInt_add, Int32.toInt_sub, Int32.toInt_mul, Int32.toInt_neg, pq_NuO, pq_NuI, pq_NuJ, pq_NuR, pq_shr6, pq_shr7, pq_shr8, lqm1, lq0, lq1, lq2048] at *; (try simp (disch := omega) only [pq_bm] at *); all_goals omega)⟩ dX6_readTape_122 (fun v122 S122 w122 => ?_)
          · exact h111
          · exact hy119
          obtain ⟨rfl, hF122⟩ := w122
          have haL_122 := (hF122.1 _ _ haL_104 (by decide)).1
          have hz_122 := (hF122.1 _ _ hz_104 (by decide)).1
          have ec122_2_haL_122 := hF122.O haL_104 (by decide) (by decide) ec104_2_haL_104
          have hz_104z_122 := (hF122.1 _ _ hz_104z (by decide)).1
          have ec122_3_haL_122 := hF122.O haL_104 (by decide) (by decide) ec104_3_haL_104
          have hz_104zz_122 := (hF122.1 _ _ hz_104zz (by decide)).1
          have ec122_0_haL_122 := hF122.O haL_104 (by decide) (by decide) ec104_0_haL_104
          have ec122_5_haL_122 := hF122.O haL_104 (by decide) (by decide) ec104_5_haL_104
          have ec122_6_haL_122 := hF122.O haL_104 (by decide) (by decide) ec104_6_haL_104
          have ec122_7_haL_122 := hF122.O haL_104 (by decide) (by decide) ec104_7_haL_104
          have h108_122 := (hF122.1 _ _ h108 (by decide)).1
          have ec122_1_haL_122 := hF122.O haL_104 (by decide) (by decide) e108
          have h111_122 := (hF122.1 _ _ h111 (by decide)).1
          have ec122_2_h108_122 := hF122.O h108 (by decide) (by decide) e111
          refine pq_aload_n F dX6_readTape_125 rfl rfl ?_
          refine pq_get F haL_122 (by decide) lk_X6_42 ec122_7_haL_122 dX6_readTape_126 ?_
          exact pq_iret F hr hlk hA (by focus ((try clear p4); (try clear p4a); (try clear p23); (try clear p57); (try clear hZ); (try clear hB3); (try clear hB4); (try clear p104); (try clear hZ2); simp only [vp_in_iff, Int32.lt_iff_toInt_lt, Int32.le_iff_toInt_le, ← Int32.toInt_inj, Int32.toInt_add, Int32.toInt_sub, Int32.toInt_mul, Int32.toInt_neg, pq_NuO, pq_NuI, pq_NuJ, pq_NuR, pq_shr6, pq_shr7, pq_shr8, lqm1, lq0, lq1, lq2048] at *; (try simp (disch := omega) only [pq_bm] at *); all_goals omega)) (by focus ((try clear p4); (try clear p4a); (try clear p23); (try clear p57); (try clear hZ); (try clear hB3); (try clear hB4); (try clear p104); (try clear hZ2); simp only [vp_in_iff, Int32.lt_iff_toInt_lt, Int32.le_iff_toInt_le, ← Int32.toInt_inj, Int32.toInt_add, Int32.toInt_sub, Int32.toInt_mul, Int32.toInt_neg, pq_NuO, pq_NuI, pq_NuJ, pq_NuR, pq_shr6, pq_shr7, pq_shr8, lqm1, lq0, lq1, lq2048] at *; (try simp (disch := omega) only [pq_bm] at *); all_goals omega)) (⟨((hF.cm hF104 (by decide)).cm hF122 (by decide)), _, rfl, fun z i hi => (by have z2 := hF.R htk (by decide); have z3 := hF104.R z2 (by decide); exact (congrFun (hF122.2.2 tk 194 z3 (by decide) (by decide)).2.1 i).trans ((congrFun (hF104.2.2 tk 194 z2 (by decide) (by decide)).2.1 i).trans (hZ z i hi)))⟩) dX6_readTape_129
        · skip
          refine pq_aload_n F dX6_readTape_73 rfl rfl ?_
          refine pq_get F haL (by decide) lk_X6_45 hB3.e6 dX6_readTape_74 ?_
          refine pq_if_le (tgt := 88) F dX6_readTape_77 (by decide) (fun c77 => ?_) (fun c77 => ?_)
          · skip
            refine pq_aload_n F dX6_readTape_88 rfl rfl ?_
            refine pq_aload_n F dX6_readTape_89 rfl rfl ?_
            refine pq_get F haL (by decide) lk_X6_11 hB3.e2 dX6_readTape_90 ?_
            refine pq_callV (As := [_]) F (k_X6_hereC l D cy _ _ ?_ _ ?_ _ (hB3).e6 hb3.1 hb3.2.1 ((hB3).c (Int.le_refl _))) ml_X6_59 haL (by decide) rfl (Nat.le_of_ble_eq_true rfl) ⟨Nat.le_of_ble_eq_true rfl, Nat.le_of_ble_eq_true rfl⟩ ⟨by show cc + 0 ≤ 6 * (tn + 1); focus ((try clear p4); (try clear p4a); (try clear p23); (try clear p57); (try clear hZ); (try clear hB3); (try clear hB4); (try clear p104); (try clear hZ2); simp only [vp_in_iff, Int32.lt_iff_toInt_lt, Int32.le_iff_toInt_le, ← Int32.toInt_inj, Int32.toInt_add, Int32.toInt_sub, Int32.toInt_mul, Int32.toInt_neg, pq_NuO, pq_NuI, pq_NuJ, pq_NuR, pq_shr6, pq_shr7, pq_shr8, lqm1, lq0, lq1, lq2048] at *; (try simp (disch := omega) only [pq_bm] at *); all_goals omega), by show zz + 0 ≤ 34 * (tn + 1); focus ((try clear p4); (try clear p4a); (try clear p23); (try clear p57); (try clear hZ); (try clear hB3); (try clear hB4); (try clear p104); (try clear hZ2); simp only [vp_in_iff, Int32.lt_iff_toInt_lt, Int32.le_iff_toInt_le, ← Int32.toInt_inj, Int32.toInt_add, Int32.toInt_sub, Int32.toInt_mul, Int32.toInt_neg, pq_NuO, pq_NuI, pq_NuJ, pq_NuR, pq_shr6, pq_shr7, pq_shr8, lqm1, lq0, lq1, lq2048] at *; (try simp (disch := omega) only [pq_bm] at *); all_goals omega)⟩ dX6_readTape_93 (fun v93 S93 w93 => ?_)
            · exact haL
            · exact hB3.h2
            obtain ⟨u93, y93, rfl, hy93⟩ := w93
            rw [u93]
            rw [u93] at hy93
            refine pq_aload_n F dX6_readTape_96 rfl rfl ?_
            refine pq_aload_n F dX6_readTape_97 rfl rfl ?_
            refine pq_get F haL (by decide) lk_X6_17 hB3.e3 dX6_readTape_98 ?_
            refine pq_callV (As := [_]) F (k_X6_hereQ l D cy _ _ ?_ _ ?_ _ (hB3).e6 hb3.1 hb3.2.1 ((hB3).q (Int.le_refl _))) ml_X6_59 haL (by decide) rfl (Nat.le_of_ble_eq_true rfl) ⟨Nat.le_of_ble_eq_true rfl, Nat.le_of_ble_eq_true rfl⟩ ⟨by show cc + 0 + 0 ≤ 6 * (tn + 1); focus ((try clear p4); (try clear p4a); (try clear p23); (try clear p57); (try clear hZ); (try clear hB3); (try clear hB4); (try clear p104); (try clear hZ2); simp only [vp_in_iff, Int32.lt_iff_toInt_lt, Int32.le_iff_toInt_le, ← Int32.toInt_inj, Int32.toInt_add, Int32.toInt_sub, Int32.toInt_mul, Int32.toInt_neg, pq_NuO, pq_NuI, pq_NuJ, pq_NuR, pq_shr6, pq_shr7, pq_shr8, lqm1, lq0, lq1, lq2048] at *; (try simp (disch := omega) only [pq_bm] at *); all_goals omega), by show zz + 0 + 0 ≤ 34 * (tn + 1); focus ((try clear p4); (try clear p4a); (try clear p23); (try clear p57); (try clear hZ); (try clear hB3); (try clear hB4); (try clear p104); (try clear hZ2); simp only [vp_in_iff, Int32.lt_iff_toInt_lt, Int32.le_iff_toInt_le, ← Int32.toInt_inj, Int32.toInt_add, Int32.toInt_sub, Int32.toInt_mul, Int32.toInt_neg, pq_NuO, pq_NuI, pq_NuJ, pq_NuR, pq_shr6, pq_shr7, pq_shr8, lqm1, lq0, lq1, lq2048] at *; (try simp (disch := omega) only [pq_bm] at *); all_goals omega)⟩ dX6_readTape_101 (fun v101 S101 w101 => ?_)
            · exact haL
            · exact hB3.h3
            obtain ⟨u101, y101, rfl, hy101⟩ := w101
            rw [u101]
            rw [u101] at hy101
            refine pq_callV (As := [_]) F (k_X2_addChoice l D cy _ _ ?_ _ ?_) ml_X6_63 hy93 (by decide) rfl (Nat.le_of_ble_eq_true rfl) ⟨Nat.le_of_ble_eq_true rfl, Nat.le_of_ble_eq_true rfl⟩ ⟨by show cc + 0 + 0 + 0 ≤ 6 * (tn + 1); focus ((try clear p4); (try clear p4a); (try clear p23); (try clear p57); (try clear hZ); (try clear hB3); (try clear hB4); (try clear p104); (try clear hZ2); simp only [vp_in_iff, Int32.lt_iff_toInt_lt, Int32.le_iff_toInt_le, ← Int32.toInt_inj, Int32.toInt_add, Int32.toInt_sub, Int32.toInt_mul, Int32.toInt_neg, pq_NuO, pq_NuI, pq_NuJ, pq_NuR, pq_shr6, pq_shr7, pq_shr8, lqm1, lq0, lq1, lq2048] at *; (try simp (disch := omega) only [pq_bm] at *); all_goals omega), by show zz + 0 + 0 + 0 ≤ 34 * (tn + 1); focus ((try clear p4); (try clear p4a); (try clear p23); (try clear p57); (try clear hZ); (try clear hB3); (try clear hB4); (try clear p104); (try clear hZ2); simp only [vp_in_iff, Int32.lt_iff_toInt_lt, Int32.le_iff_toInt_le, ← Int32.toInt_inj, Int32.toInt_add, Int32.toInt_sub, Int32.toInt_mul, Int32.toInt_neg, pq_NuO, pq_NuI, pq_NuJ, pq_NuR, pq_shr6, pq_shr7, pq_shr8, lqm1, lq0, lq1, lq2048] at *; (try simp (disch := omega) only [pq_bm] at *); all_goals omega)⟩ dX6_readTape_104 (fun v104 S104 w104 => ?_)
            · exact hy93
            · exact hy101
            obtain ⟨rfl, hF104⟩ := w104
            have haL_104 := (hF104.1 _ _ haL (by decide)).1
            have hz_104 := (hF104.1 _ _ hB3.h2 (by decide)).1
            have ec104_2_haL_104 := hF104.O haL (by decide) (by decide) hB3.e2
            have hz_104z := (hF104.1 _ _ hB3.h3 (by decide)).1
            have ec104_3_haL_104 := hF104.O haL (by decide) (by decide) hB3.e3
            have hz_104zz := (hF104.1 _ _ hB3.h0 (by decide)).1
            have ec104_0_haL_104 := hF104.O haL (by decide) (by decide) hB3.e0
            have ec104_5_haL_104 := hF104.O haL (by decide) (by decide) hB3.e5
            have ec104_6_haL_104 := hF104.O haL (by decide) (by decide) hB3.e6
            have ec104_7_haL_104 := hF104.O haL (by decide) (by decide) hB3.e7
            refine pq_aload_n F dX6_readTape_107 rfl rfl ?_
            refine pq_getR F haL_104 (by decide) lk_X6_29 rfl dX6_readTape_108 (fun r108 e108 h108 => ?_)
            refine pq_getR F h108 (by decide) lk_X6_67 rfl dX6_readTape_111 (fun r111 e111 h111 => ?_)
            refine pq_aload_n F dX6_readTape_114 rfl rfl ?_
            refine pq_aload_n F dX6_readTape_115 rfl rfl ?_
            refine pq_get F haL_104 (by decide) lk_X6_11 ec104_2_haL_104 dX6_readTape_116 ?_
            refine pq_callV (As := [_]) F (k_X6_hereC l D cy _ _ ?_ _ ?_ _ ((hB3.fr hF104 (by decide))).e6 hb3.1 hb3.2.1 (((hB3.fr hF104 (by decide))).c (Int.le_refl _))) ml_X6_59 haL_104 (by decide) rfl (Nat.le_of_ble_eq_true rfl) ⟨Nat.le_of_ble_eq_true rfl, Nat.le_of_ble_eq_true rfl⟩ ⟨by show cc + 0 + 0 + 0 + 0 ≤ 6 * (tn + 1); focus ((try clear p4); (try clear p4a); (try clear p23); (try clear p57); (try clear hZ); (try clear hB3); (try clear hB4); (try clear p104); (try clear hZ2); simp only [vp_in_iff, Int32.lt_iff_toInt_lt, Int32.le_iff_toInt_le, ← Int32.toInt_inj, Int32.toInt_add, Int32.toInt_sub, Int32.toInt_mul, Int32.toInt_neg, pq_NuO, pq_NuI, pq_NuJ, pq_NuR, pq_shr6, pq_shr7, pq_shr8, lqm1, lq0, lq1, lq2048] at *; (try simp (disch := omega) only [pq_bm] at *); all_goals omega), by show zz + 0 + 0 + 0 + 0 ≤ 34 * (tn + 1); focus ((try clear p4); (try clear p4a); (try clear p23); (try clear p57); (try clear hZ); (try clear hB3); (try clear hB4); (try clear p104); (try clear hZ2); simp only [vp_in_iff, Int32.lt_iff_toInt_lt, Int32.le_iff_toInt_le, ← Int32.toInt_inj, Int32.toInt_add, Int32.toInt_sub, Int32.toInt_mul, Int32.toInt_neg, pq_NuO, pq_NuI, pq_NuJ, pq_NuR, pq_shr6, pq_shr7, pq_shr8, lqm1, lq0, lq1, lq2048] at *; (try simp (disch := omega) only [pq_bm] at *); all_goals omega)⟩ dX6_readTape_119 (fun v119 S119 w119 => ?_)
            · exact haL_104
            · exact hz_104
            obtain ⟨u119, y119, rfl, hy119⟩ := w119
            rw [u119]
            rw [u119] at hy119
            refine pq_callV (As := [_]) F (k_X2_become l D cy _ _ ?_ _ ?_) ml_X6_70 h111 (by decide) rfl (Nat.le_of_ble_eq_true rfl) ⟨Nat.le_of_ble_eq_true rfl, Nat.le_of_ble_eq_true rfl⟩ ⟨by show cc + 0 + 0 + 0 + 0 + 0 ≤ 6 * (tn + 1); focus ((try clear p4); (try clear p4a); (try clear p23); (try clear p57); (try clear hZ); (try clear hB3); (try clear hB4); (try clear p104); (try clear hZ2); simp only [vp_in_iff, Int32.lt_iff_toInt_lt, Int32.le_iff_toInt_le, ← Int32.toInt_inj, Int32.toInt_add, Int32.toInt_sub, Int32.toInt_mul, Int32.toInt_neg, pq_NuO, pq_NuI, pq_NuJ, pq_NuR, pq_shr6, pq_shr7, pq_shr8, lqm1, lq0, lq1, lq2048] at *; (try simp (disch := omega) only [pq_bm] at *); all_goals omega), by show zz + 0 + 0 + 0 + 0 + 0 ≤ 34 * (tn + 1); focus ((try clear p4); (try clear p4a); (try clear p23); (try clear p57); (try clear hZ); (try clear hB3); (try clear hB4); (try clear p104); (try clear hZ2); simp only [vp_in_iff, Int32.lt_iff_toInt_lt, Int32.le_iff_toInt_le, ← Int32.toInt_inj, Int32.toInt_add, Int32.toInt_sub, Int32.toInt_mul, Int32.toInt_neg, pq_NuO, pq_NuI, pq_NuJ, pq_NuR, pq_shr6, pq_shr7, pq_shr8, lqm1, lq0, lq1, lq2048] at *; (try simp (disch := omega) only [pq_bm] at *); all_goals omega)⟩ dX6_readTape_122 (fun v122 S122 w122 => ?_)
            · exact h111
            · exact hy119
            obtain ⟨rfl, hF122⟩ := w122
            have haL_122 := (hF122.1 _ _ haL_104 (by decide)).1
            have hz_122 := (hF122.1 _ _ hz_104 (by decide)).1
            have ec122_2_haL_122 := hF122.O haL_104 (by decide) (by decide) ec104_2_haL_104
            have hz_104z_122 := (hF122.1 _ _ hz_104z (by decide)).1
            have ec122_3_haL_122 := hF122.O haL_104 (by decide) (by decide) ec104_3_haL_104
            have hz_104zz_122 := (hF122.1 _ _ hz_104zz (by decide)).1
            have ec122_0_haL_122 := hF122.O haL_104 (by decide) (by decide) ec104_0_haL_104
            have ec122_5_haL_122 := hF122.O haL_104 (by decide) (by decide) ec104_5_haL_104
            have ec122_6_haL_122 := hF122.O haL_104 (by decide) (by decide) ec104_6_haL_104
            have ec122_7_haL_122 := hF122.O haL_104 (by decide) (by decide) ec104_7_haL_104
            have h108_122 := (hF122.1 _ _ h108 (by decide)).1
            have ec122_1_haL_122 := hF122.O haL_104 (by decide) (by decide) e108
            have h111_122 := (hF122.1 _ _ h111 (by decide)).1
            have ec122_2_h108_122 := hF122.O h108 (by decide) (by decide) e111
            refine pq_aload_n F dX6_readTape_125 rfl rfl ?_
            refine pq_get F haL_122 (by decide) lk_X6_42 ec122_7_haL_122 dX6_readTape_126 ?_
            exact pq_iret F hr hlk hA (by focus ((try clear p4); (try clear p4a); (try clear p23); (try clear p57); (try clear hZ); (try clear hB3); (try clear hB4); (try clear p104); (try clear hZ2); simp only [vp_in_iff, Int32.lt_iff_toInt_lt, Int32.le_iff_toInt_le, ← Int32.toInt_inj, Int32.toInt_add, Int32.toInt_sub, Int32.toInt_mul, Int32.toInt_neg, pq_NuO, pq_NuI, pq_NuJ, pq_NuR, pq_shr6, pq_shr7, pq_shr8, lqm1, lq0, lq1, lq2048] at *; (try simp (disch := omega) only [pq_bm] at *); all_goals omega)) (by focus ((try clear p4); (try clear p4a); (try clear p23); (try clear p57); (try clear hZ); (try clear hB3); (try clear hB4); (try clear p104); (try clear hZ2); simp only [vp_in_iff, Int32.lt_iff_toInt_lt, Int32.le_iff_toInt_le, ← Int32.toInt_inj, Int32.toInt_add, Int32.toInt_sub, Int32.toInt_mul, Int32.toInt_neg, pq_NuO, pq_NuI, pq_NuJ, pq_NuR, pq_shr6, pq_shr7, pq_shr8, lqm1, lq0, lq1, lq2048] at *; (try simp (disch := omega) only [pq_bm] at *); all_goals omega)) (⟨((hF.cm hF104 (by decide)).cm hF122 (by decide)), _, rfl, fun z i hi => (by have z2 := hF.R htk (by decide); have z3 := hF104.R z2 (by decide); exact (congrFun (hF122.2.2 tk 194 z3 (by decide) (by decide)).2.1 i).trans ((congrFun (hF104.2.2 tk 194 z2 (by decide) (by decide)).2.1 i).trans (hZ z i hi)))⟩) dX6_readTape_129
          · skip
            refine pq_aload_n F dX6_readTape_80 rfl rfl ?_
            refine pq_aload_n F dX6_readTape_81 rfl rfl ?_
            refine pq_get F haL (by decide) lk_X6_38 hB3.e5 dX6_readTape_82 ?_
            refine pq_putI F haL (by decide) lp_X6_42 rfl (pq_any1 _) (pq_any2 _) dX6_readTape_85 ?_
            refine pq_aload_n F dX6_readTape_88 rfl rfl ?_
            refine pq_aload_n F dX6_readTape_89 rfl rfl ?_
            refine pq_get F haL (by decide) lk_X6_11 (pq_kp hB3.e2 (by decide)) dX6_readTape_90 ?_
            refine pq_callV (As := [_]) F (k_X6_hereC l D cy _ _ ?_ _ ?_ _ (hB3.p7).e6 hb3.1 hb3.2.1 ((hB3.p7).c (Int.le_refl _))) ml_X6_59 haL (by decide) rfl (Nat.le_of_ble_eq_true rfl) ⟨Nat.le_of_ble_eq_true rfl, Nat.le_of_ble_eq_true rfl⟩ ⟨by show cc + 0 ≤ 6 * (tn + 1); focus ((try clear p4); (try clear p4a); (try clear p23); (try clear p57); (try clear hZ); (try clear hB3); (try clear hB4); (try clear p104); (try clear hZ2); simp only [vp_in_iff, Int32.lt_iff_toInt_lt, Int32.le_iff_toInt_le, ← Int32.toInt_inj, Int32.toInt_add, Int32.toInt_sub, Int32.toInt_mul, Int32.toInt_neg, pq_NuO, pq_NuI, pq_NuJ, pq_NuR, pq_shr6, pq_shr7, pq_shr8, lqm1, lq0, lq1, lq2048] at *; (try simp (disch := omega) only [pq_bm] at *); all_goals omega), by show zz + 0 ≤ 34 * (tn + 1); focus ((try clear p4); (try clear p4a); (try clear p23); (try clear p57); (try clear hZ); (try clear hB3); (try clear hB4); (try clear p104); (try clear hZ2); simp only [vp_in_iff, Int32.lt_iff_toInt_lt, Int32.le_iff_toInt_le, ← Int32.toInt_inj, Int32.toInt_add, Int32.toInt_sub, Int32.toInt_mul, Int32.toInt_neg, pq_NuO, pq_NuI, pq_NuJ, pq_NuR, pq_shr6, pq_shr7, pq_shr8, lqm1, lq0, lq1, lq2048] at *; (try simp (disch := omega) only [pq_bm] at *); all_goals omega)⟩ dX6_readTape_93 (fun v93 S93 w93 => ?_)
            · exact haL
            · exact hB3.h2
            obtain ⟨u93, y93, rfl, hy93⟩ := w93
            rw [u93]
            rw [u93] at hy93
            refine pq_aload_n F dX6_readTape_96 rfl rfl ?_
            refine pq_aload_n F dX6_readTape_97 rfl rfl ?_
            refine pq_get F haL (by decide) lk_X6_17 (pq_kp hB3.e3 (by decide)) dX6_readTape_98 ?_
            refine pq_callV (As := [_]) F (k_X6_hereQ l D cy _ _ ?_ _ ?_ _ (hB3.p7).e6 hb3.1 hb3.2.1 ((hB3.p7).q (Int.le_refl _))) ml_X6_59 haL (by decide) rfl (Nat.le_of_ble_eq_true rfl) ⟨Nat.le_of_ble_eq_true rfl, Nat.le_of_ble_eq_true rfl⟩ ⟨by show cc + 0 + 0 ≤ 6 * (tn + 1); focus ((try clear p4); (try clear p4a); (try clear p23); (try clear p57); (try clear hZ); (try clear hB3); (try clear hB4); (try clear p104); (try clear hZ2); simp only [vp_in_iff, Int32.lt_iff_toInt_lt, Int32.le_iff_toInt_le, ← Int32.toInt_inj, Int32.toInt_add, Int32.toInt_sub, Int32.toInt_mul, Int32.toInt_neg, pq_NuO, pq_NuI, pq_NuJ, pq_NuR, pq_shr6, pq_shr7, pq_shr8, lqm1, lq0, lq1, lq2048] at *; (try simp (disch := omega) only [pq_bm] at *); all_goals omega), by show zz + 0 + 0 ≤ 34 * (tn + 1); focus ((try clear p4); (try clear p4a); (try clear p23); (try clear p57); (try clear hZ); (try clear hB3); (try clear hB4); (try clear p104); (try clear hZ2); simp only [vp_in_iff, Int32.lt_iff_toInt_lt, Int32.le_iff_toInt_le, ← Int32.toInt_inj, Int32.toInt_add, Int32.toInt_sub, Int32.toInt_mul, Int32.toInt_neg, pq_NuO, pq_NuI, pq_NuJ, pq_NuR, pq_shr6, pq_shr7, pq_shr8, lqm1, lq0, lq1, lq2048] at *; (try simp (disch := omega) only [pq_bm] at *); all_goals omega)⟩ dX6_readTape_101 (fun v101 S101 w101 => ?_)
            · exact haL
            · exact hB3.h3
            obtain ⟨u101, y101, rfl, hy101⟩ := w101
            rw [u101]
            rw [u101] at hy101
            refine pq_callV (As := [_]) F (k_X2_addChoice l D cy _ _ ?_ _ ?_) ml_X6_63 hy93 (by decide) rfl (Nat.le_of_ble_eq_true rfl) ⟨Nat.le_of_ble_eq_true rfl, Nat.le_of_ble_eq_true rfl⟩ ⟨by show cc + 0 + 0 + 0 ≤ 6 * (tn + 1); focus ((try clear p4); (try clear p4a); (try clear p23); (try clear p57); (try clear hZ); (try clear hB3); (try clear hB4); (try clear p104); (try clear hZ2); simp only [vp_in_iff, Int32.lt_iff_toInt_lt, Int32.le_iff_toInt_le, ← Int32.toInt_inj, Int32.toInt_add, Int32.toInt_sub, Int32.toInt_mul, Int32.toInt_neg, pq_NuO, pq_NuI, pq_NuJ, pq_NuR, pq_shr6, pq_shr7, pq_shr8, lqm1, lq0, lq1, lq2048] at *; (try simp (disch := omega) only [pq_bm] at *); all_goals omega), by show zz + 0 + 0 + 0 ≤ 34 * (tn + 1); focus ((try clear p4); (try clear p4a); (try clear p23); (try clear p57); (try clear hZ); (try clear hB3); (try clear hB4); (try clear p104); (try clear hZ2); simp only [vp_in_iff, Int32.lt_iff_toInt_lt, Int32.le_iff_toInt_le, ← Int32.toInt_inj, Int32.toInt_add, Int32.toInt_sub, Int32.toInt_mul, Int32.toInt_neg, pq_NuO, pq_NuI, pq_NuJ, pq_NuR, pq_shr6, pq_shr7, pq_shr8, lqm1, lq0, lq1, lq2048] at *; (try simp (disch := omega) only [pq_bm] at *); all_goals omega)⟩ dX6_readTape_104 (fun v104 S104 w104 => ?_)
            · exact hy93
            · exact hy101
            obtain ⟨rfl, hF104⟩ := w104
            have haL_104 := (hF104.1 _ _ haL (by decide)).1
            have hz_104 := (hF104.1 _ _ hB3.h2 (by decide)).1
            have ec104_2_haL_104 := hF104.O haL (by decide) (by decide) (pq_kp hB3.e2 (by decide))
            have hz_104z := (hF104.1 _ _ hB3.h3 (by decide)).1
            have ec104_3_haL_104 := hF104.O haL (by decide) (by decide) (pq_kp hB3.e3 (by decide))
            have hz_104zz := (hF104.1 _ _ hB3.h0 (by decide)).1
            have ec104_0_haL_104 := hF104.O haL (by decide) (by decide) (pq_kp hB3.e0 (by decide))
            have ec104_5_haL_104 := hF104.O haL (by decide) (by decide) (pq_kp hB3.e5 (by decide))
            have ec104_6_haL_104 := hF104.O haL (by decide) (by decide) (pq_kp hB3.e6 (by decide))
            have ec104_7_haL_104 := hF104.O haL (by decide) (by decide) pq_ks
            refine pq_aload_n F dX6_readTape_107 rfl rfl ?_
            refine pq_getR F haL_104 (by decide) lk_X6_29 rfl dX6_readTape_108 (fun r108 e108 h108 => ?_)
            refine pq_getR F h108 (by decide) lk_X6_67 rfl dX6_readTape_111 (fun r111 e111 h111 => ?_)
            refine pq_aload_n F dX6_readTape_114 rfl rfl ?_
            refine pq_aload_n F dX6_readTape_115 rfl rfl ?_
            refine pq_get F haL_104 (by decide) lk_X6_11 ec104_2_haL_104 dX6_readTape_116 ?_
            refine pq_callV (As := [_]) F (k_X6_hereC l D cy _ _ ?_ _ ?_ _ ((hB3.p7.fr hF104 (by decide))).e6 hb3.1 hb3.2.1 (((hB3.p7.fr hF104 (by decide))).c (Int.le_refl _))) ml_X6_59 haL_104 (by decide) rfl (Nat.le_of_ble_eq_true rfl) ⟨Nat.le_of_ble_eq_true rfl, Nat.le_of_ble_eq_true rfl⟩ ⟨by show cc + 0 + 0 + 0 + 0 ≤ 6 * (tn + 1); focus ((try clear p4); (try clear p4a); (try clear p23); (try clear p57); (try clear hZ); (try clear hB3); (try clear hB4); (try clear p104); (try clear hZ2); simp only [vp_in_iff, Int32.lt_iff_toInt_lt, Int32.le_iff_toInt_le, ← Int32.toInt_inj, Int32.toInt_add, Int32.toInt_sub, Int32.toInt_mul, Int32.toInt_neg, pq_NuO, pq_NuI, pq_NuJ, pq_NuR, pq_shr6, pq_shr7, pq_shr8, lqm1, lq0, lq1, lq2048] at *; (try simp (disch := omega) only [pq_bm] at *); all_goals omega), by show zz + 0 + 0 + 0 + 0 ≤ 34 * (tn + 1); focus ((try clear p4); (try clear p4a); (try clear p23); (try clear p57); (try clear hZ); (try clear hB3); (try clear hB4); (try clear p104); (try clear hZ2); simp only [vp_in_iff, Int32.lt_iff_toInt_lt, Int32.le_iff_toInt_le, ← Int32.toInt_inj, Int32.toInt_add, Int32.toInt_sub, Int32.toInt_mul, Int32.toInt_neg, pq_NuO, pq_NuI, pq_NuJ, pq_NuR, pq_shr6, pq_shr7, pq_shr8, lqm1, lq0, lq1, lq2048] at *; (try simp (disch := omega) only [pq_bm] at *); all_goals omega)⟩ dX6_readTape_119 (fun v119 S119 w119 => ?_)
            · exact haL_104
            · exact hz_104
            obtain ⟨u119, y119, rfl, hy119⟩ := w119
            rw [u119]
            rw [u119] at hy119
            refine pq_callV (As := [_]) F (k_X2_become l D cy _ _ ?_ _ ?_) ml_X6_70 h111 (by decide) rfl (Nat.le_of_ble_eq_true rfl) ⟨Nat.le_of_ble_eq_true rfl, Nat.le_of_ble_eq_true rfl⟩ ⟨by show cc + 0 + 0 + 0 + 0 + 0 ≤ 6 * (tn + 1); focus ((try clear p4); (try clear p4a); (try clear p23); (try clear p57); (try clear hZ); (try clear hB3); (try clear hB4); (try clear p104); (try clear hZ2); simp only [vp_in_iff, Int32.lt_iff_toInt_lt, Int32.le_iff_toInt_le, ← Int32.toInt_inj, Int32.toInt_add, Int32.toInt_sub, Int32.toInt_mul, Int32.toInt_neg, pq_NuO, pq_NuI, pq_NuJ, pq_NuR, pq_shr6, pq_shr7, pq_shr8, lqm1, lq0, lq1, lq2048] at *; (try simp (disch := omega) only [pq_bm] at *); all_goals omega), by show zz + 0 + 0 + 0 + 0 + 0 ≤ 34 * (tn + 1); focus ((try clear p4); (try clear p4a); (try clear p23); (try clear p57); (try clear hZ); (try clear hB3); (try clear hB4); (try clear p104); (try clear hZ2); simp only [vp_in_iff, Int32.lt_iff_toInt_lt, Int32.le_iff_toInt_le, ← Int32.toInt_inj, Int32.toInt_add, Int32.toInt_sub, Int32.toInt_mul, Int32.toInt_neg, pq_NuO, pq_NuI, pq_NuJ, pq_NuR, pq_shr6, pq_shr7, pq_shr8, lqm1, lq0, lq1, lq2048] at *; (try simp (disch := omega) only [pq_bm] at *); all_goals omega)⟩ dX6_readTape_122 (fun v122 S122 w122 => ?_)
            · exact h111
            · exact hy119
            obtain ⟨rfl, hF122⟩ := w122
            have haL_122 := (hF122.1 _ _ haL_104 (by decide)).1
            have hz_122 := (hF122.1 _ _ hz_104 (by decide)).1
            have ec122_2_haL_122 := hF122.O haL_104 (by decide) (by decide) ec104_2_haL_104
            have hz_104z_122 := (hF122.1 _ _ hz_104z (by decide)).1
            have ec122_3_haL_122 := hF122.O haL_104 (by decide) (by decide) ec104_3_haL_104
            have hz_104zz_122 := (hF122.1 _ _ hz_104zz (by decide)).1
            have ec122_0_haL_122 := hF122.O haL_104 (by decide) (by decide) ec104_0_haL_104
            have ec122_5_haL_122 := hF122.O haL_104 (by decide) (by decide) ec104_5_haL_104
            have ec122_6_haL_122 := hF122.O haL_104 (by decide) (by decide) ec104_6_haL_104
            have ec122_7_haL_122 := hF122.O haL_104 (by decide) (by decide) ec104_7_haL_104
            have h108_122 := (hF122.1 _ _ h108 (by decide)).1
            have ec122_1_haL_122 := hF122.O haL_104 (by decide) (by decide) e108
            have h111_122 := (hF122.1 _ _ h111 (by decide)).1
            have ec122_2_h108_122 := hF122.O h108 (by decide) (by decide) e111
            refine pq_aload_n F dX6_readTape_125 rfl rfl ?_
            refine pq_get F haL_122 (by decide) lk_X6_42 ec122_7_haL_122 dX6_readTape_126 ?_
            exact pq_iret F hr hlk hA (by focus ((try clear p4); (try clear p4a); (try clear p23); (try clear p57); (try clear hZ); (try clear hB3); (try clear hB4); (try clear p104); (try clear hZ2); simp only [vp_in_iff, Int32.lt_iff_toInt_lt, Int32.le_iff_toInt_le, ← Int32.toInt_inj, Int32.toInt_add, Int32.toInt_sub, Int32.toInt_mul, Int32.toInt_neg, pq_NuO, pq_NuI, pq_NuJ, pq_NuR, pq_shr6, pq_shr7, pq_shr8, lqm1, lq0, lq1, lq2048] at *; (try simp (disch := omega) only [pq_bm] at *); all_goals omega)) (by focus ((try clear p4); (try clear p4a); (try clear p23); (try clear p57); (try clear hZ); (try clear hB3); (try clear hB4); (try clear p104); (try clear hZ2); simp only [vp_in_iff, Int32.lt_iff_toInt_lt, Int32.le_iff_toInt_le, ← Int32.toInt_inj, Int32.toInt_add, Int32.toInt_sub, Int32.toInt_mul, Int32.toInt_neg, pq_NuO, pq_NuI, pq_NuJ, pq_NuR, pq_shr6, pq_shr7, pq_shr8, lqm1, lq0, lq1, lq2048] at *; (try simp (disch := omega) only [pq_bm] at *); all_goals omega)) (⟨(((hF.uO haL (by decide)).cm hF104 (by decide)).cm hF122 (by decide)), _, rfl, fun z i hi => (by have z2 := hF.R htk (by decide); have z3 := hF104.R z2 (by decide); exact (congrFun (hF122.2.2 tk 194 z3 (by decide) (by decide)).2.1 i).trans ((congrFun (hF104.2.2 tk 194 z2 (by decide) (by decide)).2.1 i).trans (hZ z i hi)))⟩) dX6_readTape_129
      · skip
        refine pq_aload_n F dX6_readTape_35 rfl rfl ?_
        refine pq_get F haL (by decide) lk_X6_38 hB3.e5 dX6_readTape_36 ?_
        refine pq_aload_n F dX6_readTape_39 rfl rfl ?_
        refine pq_get F haL (by decide) lk_X6_25 hB3.e0 dX6_readTape_40 ?_
        refine pq_get F hB3.h0 (by decide) lk_X6_51 hB3.et dX6_readTape_43 ?_
        refine pq_icmp_ge (tgt := 66) F dX6_readTape_46 (by decide) (fun c46 => ?_) (fun c46 => ?_)
        · skip
          refine pq_aload_n F dX6_readTape_66 rfl rfl ?_
          refine pq_get F haL (by decide) lk_X6_42 hB3.e7 dX6_readTape_67 ?_
          refine pq_if_ge (tgt := 88) F dX6_readTape_70 (by decide) (fun c70 => ?_) (fun c70 => ?_)
          · skip
            refine pq_aload_n F dX6_readTape_88 rfl rfl ?_
            refine pq_aload_n F dX6_readTape_89 rfl rfl ?_
            refine pq_get F haL (by decide) lk_X6_11 hB3.e2 dX6_readTape_90 ?_
            refine pq_callV (As := [_]) F (k_X6_hereC l D cy _ _ ?_ _ ?_ _ (hB3).e6 hb3.1 hb3.2.1 ((hB3).c (Int.le_refl _))) ml_X6_59 haL (by decide) rfl (Nat.le_of_ble_eq_true rfl) ⟨Nat.le_of_ble_eq_true rfl, Nat.le_of_ble_eq_true rfl⟩ ⟨by show cc + 0 ≤ 6 * (tn + 1); focus ((try clear p4); (try clear p4a); (try clear p23); (try clear p57); (try clear hZ); (try clear hB3); (try clear hB4); (try clear p104); (try clear hZ2); simp only [vp_in_iff, Int32.lt_iff_toInt_lt, Int32.le_iff_toInt_le, ← Int32.toInt_inj, Int32.toInt_add, Int32.toInt_sub, Int32.toInt_mul, Int32.toInt_neg, pq_NuO, pq_NuI, pq_NuJ, pq_NuR, pq_shr6, pq_shr7, pq_shr8, lqm1, lq0, lq1, lq2048] at *; (try simp (disch := omega) only [pq_bm] at *); all_goals omega), by show zz + 0 ≤ 34 * (tn + 1); focus ((try clear p4); (try clear p4a); (try clear p23); (try clear p57); (try clear hZ); (try clear hB3); (try clear hB4); (try clear p104); (try clear hZ2); simp only [vp_in_iff, Int32.lt_iff_toInt_lt, Int32.le_iff_toInt_le, ← Int32.toInt_inj, Int32.toInt_add, Int32.toInt_sub, Int32.toInt_mul, Int32.toInt_neg, pq_NuO, pq_NuI, pq_NuJ, pq_NuR, pq_shr6, pq_shr7, pq_shr8, lqm1, lq0, lq1, lq2048] at *; (try simp (disch := omega) only [pq_bm] at *); all_goals omega)⟩ dX6_readTape_93 (fun v93 S93 w93 => ?_)
            · exact haL
            · exact hB3.h2
            obtain ⟨u93, y93, rfl, hy93⟩ := w93
            rw [u93]
            rw [u93] at hy93
            refine pq_aload_n F dX6_readTape_96 rfl rfl ?_
            refine pq_aload_n F dX6_readTape_97 rfl rfl ?_
            refine pq_get F haL (by decide) lk_X6_17 hB3.e3 dX6_readTape_98 ?_
            refine pq_callV (As := [_]) F (k_X6_hereQ l D cy _ _ ?_ _ ?_ _ (hB3).e6 hb3.1 hb3.2.1 ((hB3).q (Int.le_refl _))) ml_X6_59 haL (by decide) rfl (Nat.le_of_ble_eq_true rfl) ⟨Nat.le_of_ble_eq_true rfl, Nat.le_of_ble_eq_true rfl⟩ ⟨by show cc + 0 + 0 ≤ 6 * (tn + 1); focus ((try clear p4); (try clear p4a); (try clear p23); (try clear p57); (try clear hZ); (try clear hB3); (try clear hB4); (try clear p104); (try clear hZ2); simp only [vp_in_iff, Int32.lt_iff_toInt_lt, Int32.le_iff_toInt_le, ← Int32.toInt_inj, Int32.toInt_add, Int32.toInt_sub, Int32.toInt_mul, Int32.toInt_neg, pq_NuO, pq_NuI, pq_NuJ, pq_NuR, pq_shr6, pq_shr7, pq_shr8, lqm1, lq0, lq1, lq2048] at *; (try simp (disch := omega) only [pq_bm] at *); all_goals omega), by show zz + 0 + 0 ≤ 34 * (tn + 1); focus ((try clear p4); (try clear p4a); (try clear p23); (try clear p57); (try clear hZ); (try clear hB3); (try clear hB4); (try clear p104); (try clear hZ2); simp only [vp_in_iff, Int32.lt_iff_toInt_lt, Int32.le_iff_toInt_le, ← Int32.toInt_inj, Int32.toInt_add, Int32.toInt_sub, Int32.toInt_mul, Int32.toInt_neg, pq_NuO, pq_NuI, pq_NuJ, pq_NuR, pq_shr6, pq_shr7, pq_shr8, lqm1, lq0, lq1, lq2048] at *; (try simp (disch := omega) only [pq_bm] at *); all_goals omega)⟩ dX6_readTape_101 (fun v101 S101 w101 => ?_)
            · exact haL
            · exact hB3.h3
            obtain ⟨u101, y101, rfl, hy101⟩ := w101
            rw [u101]
            rw [u101] at hy101
            refine pq_callV (As := [_]) F (k_X2_addChoice l D cy _ _ ?_ _ ?_) ml_X6_63 hy93 (by decide) rfl (Nat.le_of_ble_eq_true rfl) ⟨Nat.le_of_ble_eq_true rfl, Nat.le_of_ble_eq_true rfl⟩ ⟨by show cc + 0 + 0 + 0 ≤ 6 * (tn + 1); focus ((try clear p4); (try clear p4a); (try clear p23); (try clear p57); (try clear hZ); (try clear hB3); (try clear hB4); (try clear p104); (try clear hZ2); simp only [vp_in_iff, Int32.lt_iff_toInt_lt, Int32.le_iff_toInt_le, ← Int32.toInt_inj, Int32.toInt_add, Int32.toInt_sub, Int32.toInt_mul, Int32.toInt_neg, pq_NuO, pq_NuI, pq_NuJ, pq_NuR, pq_shr6, pq_shr7, pq_shr8, lqm1, lq0, lq1, lq2048] at *; (try simp (disch := omega) only [pq_bm] at *); all_goals omega), by show zz + 0 + 0 + 0 ≤ 34 * (tn + 1); focus ((try clear p4); (try clear p4a); (try clear p23); (try clear p57); (try clear hZ); (try clear hB3); (try clear hB4); (try clear p104); (try clear hZ2); simp only [vp_in_iff, Int32.lt_iff_toInt_lt, Int32.le_iff_toInt_le, ← Int32.toInt_inj, Int32.toInt_add, Int32.toInt_sub, Int32.toInt_mul, Int32.toInt_neg, pq_NuO, pq_NuI, pq_NuJ, pq_NuR, pq_shr6, pq_shr7, pq_shr8, lqm1, lq0, lq1, lq2048] at *; (try simp (disch := omega) only [pq_bm] at *); all_goals omega)⟩ dX6_readTape_104 (fun v104 S104 w104 => ?_)
            · exact hy93
            · exact hy101
            obtain ⟨rfl, hF104⟩ := w104
            have haL_104 := (hF104.1 _ _ haL (by decide)).1
            have hz_104 := (hF104.1 _ _ hB3.h2 (by decide)).1
            have ec104_2_haL_104 := hF104.O haL (by decide) (by decide) hB3.e2
            have hz_104z := (hF104.1 _ _ hB3.h3 (by decide)).1
            have ec104_3_haL_104 := hF104.O haL (by decide) (by decide) hB3.e3
            have hz_104zz := (hF104.1 _ _ hB3.h0 (by decide)).1
            have ec104_0_haL_104 := hF104.O haL (by decide) (by decide) hB3.e0
            have ec104_5_haL_104 := hF104.O haL (by decide) (by decide) hB3.e5
            have ec104_6_haL_104 := hF104.O haL (by decide) (by decide) hB3.e6
            have ec104_7_haL_104 := hF104.O haL (by decide) (by decide) hB3.e7
            have ec104_1_hz_104zz := hF104.O hB3.h0 (by decide) (by decide) hB3.et
            refine pq_aload_n F dX6_readTape_107 rfl rfl ?_
            refine pq_getR F haL_104 (by decide) lk_X6_29 rfl dX6_readTape_108 (fun r108 e108 h108 => ?_)
            refine pq_getR F h108 (by decide) lk_X6_67 rfl dX6_readTape_111 (fun r111 e111 h111 => ?_)
            refine pq_aload_n F dX6_readTape_114 rfl rfl ?_
            refine pq_aload_n F dX6_readTape_115 rfl rfl ?_
            refine pq_get F haL_104 (by decide) lk_X6_11 ec104_2_haL_104 dX6_readTape_116 ?_
            refine pq_callV (As := [_]) F (k_X6_hereC l D cy _ _ ?_ _ ?_ _ ((hB3.fr hF104 (by decide))).e6 hb3.1 hb3.2.1 (((hB3.fr hF104 (by decide))).c (Int.le_refl _))) ml_X6_59 haL_104 (by decide) rfl (Nat.le_of_ble_eq_true rfl) ⟨Nat.le_of_ble_eq_true rfl, Nat.le_of_ble_eq_true rfl⟩ ⟨by show cc + 0 + 0 + 0 + 0 ≤ 6 * (tn + 1); focus ((try clear p4); (try clear p4a); (try clear p23); (try clear p57); (try clear hZ); (try clear hB3); (try clear hB4); (try clear p104); (try clear hZ2); simp only [vp_in_iff, Int32.lt_iff_toInt_lt, Int32.le_iff_toInt_le, ← Int32.toInt_inj, Int32.toInt_add, Int32.toInt_sub, Int32.toInt_mul, Int32.toInt_neg, pq_NuO, pq_NuI, pq_NuJ, pq_NuR, pq_shr6, pq_shr7, pq_shr8, lqm1, lq0, lq1, lq2048] at *; (try simp (disch := omega) only [pq_bm] at *); all_goals omega), by show zz + 0 + 0 + 0 + 0 ≤ 34 * (tn + 1); focus ((try clear p4); (try clear p4a); (try clear p23); (try clear p57); (try clear hZ); (try clear hB3); (try clear hB4); (try clear p104); (try clear hZ2); simp only [vp_in_iff, Int32.lt_iff_toInt_lt, Int32.le_iff_toInt_le, ← Int32.toInt_inj, Int32.toInt_add, Int32.toInt_sub, Int32.toInt_mul, Int32.toInt_neg, pq_NuO, pq_NuI, pq_NuJ, pq_NuR, pq_shr6, pq_shr7, pq_shr8, lqm1, lq0, lq1, lq2048] at *; (try simp (disch := omega) only [pq_bm] at *); all_goals omega)⟩ dX6_readTape_119 (fun v119 S119 w119 => ?_)
            · exact haL_104
            · exact hz_104
            obtain ⟨u119, y119, rfl, hy119⟩ := w119
            rw [u119]
            rw [u119] at hy119
            refine pq_callV (As := [_]) F (k_X2_become l D cy _ _ ?_ _ ?_) ml_X6_70 h111 (by decide) rfl (Nat.le_of_ble_eq_true rfl) ⟨Nat.le_of_ble_eq_true rfl, Nat.le_of_ble_eq_true rfl⟩ ⟨by show cc + 0 + 0 + 0 + 0 + 0 ≤ 6 * (tn + 1); focus ((try clear p4); (try clear p4a); (try clear p23); (try clear p57); (try clear hZ); (try clear hB3); (try clear hB4); (try clear p104); (try clear hZ2); simp only [vp_in_iff, Int32.lt_iff_toInt_lt, Int32.le_iff_toInt_le, ← Int32.toInt_inj, Int32.toInt_add, Int32.toInt_sub, Int32.toInt_mul, Int32.toInt_neg, pq_NuO, pq_NuI, pq_NuJ, pq_NuR, pq_shr6, pq_shr7, pq_shr8, lqm1, lq0, lq1, lq2048] at *; (try simp (disch := omega) only [pq_bm] at *); all_goals omega), by show zz + 0 + 0 + 0 + 0 + 0 ≤ 34 * (tn + 1); focus ((try clear p4); (try clear p4a); (try clear p23); (try clear p57); (try clear hZ); (try clear hB3); (try clear hB4); (try clear p104); (try clear hZ2); simp only [vp_in_iff, Int32.lt_iff_toInt_lt, Int32.le_iff_toInt_le, ← Int32.toInt_inj, Int32.toInt_add, Int32.toInt_sub, Int32.toInt_mul, Int32.toInt_neg, pq_NuO, pq_NuI, pq_NuJ, pq_NuR, pq_shr6, pq_shr7, pq_shr8, lqm1, lq0, lq1, lq2048] at *; (try simp (disch := omega) only [pq_bm] at *); all_goals omega)⟩ dX6_readTape_122 (fun v122 S122 w122 => ?_)
            · exact h111
            · exact hy119
            obtain ⟨rfl, hF122⟩ := w122
            have haL_122 := (hF122.1 _ _ haL_104 (by decide)).1
            have hz_122 := (hF122.1 _ _ hz_104 (by decide)).1
            have ec122_2_haL_122 := hF122.O haL_104 (by decide) (by decide) ec104_2_haL_104
            have hz_104z_122 := (hF122.1 _ _ hz_104z (by decide)).1
            have ec122_3_haL_122 := hF122.O haL_104 (by decide) (by decide) ec104_3_haL_104
            have hz_104zz_122 := (hF122.1 _ _ hz_104zz (by decide)).1
            have ec122_0_haL_122 := hF122.O haL_104 (by decide) (by decide) ec104_0_haL_104
            have ec122_5_haL_122 := hF122.O haL_104 (by decide) (by decide) ec104_5_haL_104
            have ec122_6_haL_122 := hF122.O haL_104 (by decide) (by decide) ec104_6_haL_104
            have ec122_7_haL_122 := hF122.O haL_104 (by decide) (by decide) ec104_7_haL_104
            have ec122_1_hz_104zz_122 := hF122.O hz_104zz (by decide) (by decide) ec104_1_hz_104zz
            have h108_122 := (hF122.1 _ _ h108 (by decide)).1
            have ec122_1_haL_122 := hF122.O haL_104 (by decide) (by decide) e108
            have h111_122 := (hF122.1 _ _ h111 (by decide)).1
            have ec122_2_h108_122 := hF122.O h108 (by decide) (by decide) e111
            refine pq_aload_n F dX6_readTape_125 rfl rfl ?_
            refine pq_get F haL_122 (by decide) lk_X6_42 ec122_7_haL_122 dX6_readTape_126 ?_
            exact pq_iret F hr hlk hA (by focus ((try clear p4); (try clear p4a); (try clear p23); (try clear p57); (try clear hZ); (try clear hB3); (try clear hB4); (try clear p104); (try clear hZ2); simp only [vp_in_iff, Int32.lt_iff_toInt_lt, Int32.le_iff_toInt_le, ← Int32.toInt_inj, Int32.toInt_add, Int32.toInt_sub, Int32.toInt_mul, Int32.toInt_neg, pq_NuO, pq_NuI, pq_NuJ, pq_NuR, pq_shr6, pq_shr7, pq_shr8, lqm1, lq0, lq1, lq2048] at *; (try simp (disch := omega) only [pq_bm] at *); all_goals omega)) (by focus ((try clear p4); (try clear p4a); (try clear p23); (try clear p57); (try clear hZ); (try clear hB3); (try clear hB4); (try clear p104); (try clear hZ2); simp only [vp_in_iff, Int32.lt_iff_toInt_lt, Int32.le_iff_toInt_le, ← Int32.toInt_inj, Int32.toInt_add, Int32.toInt_sub, Int32.toInt_mul, Int32.toInt_neg, pq_NuO, pq_NuI, pq_NuJ, pq_NuR, pq_shr6, pq_shr7, pq_shr8, lqm1, lq0, lq1, lq2048] at *; (try simp (disch := omega) only [pq_bm] at *); all_goals omega)) (⟨((hF.cm hF104 (by decide)).cm hF122 (by decide)), _, rfl, fun z i hi => (by have z2 := hF.R htk (by decide); have z3 := hF104.R z2 (by decide); exact (congrFun (hF122.2.2 tk 194 z3 (by decide) (by decide)).2.1 i).trans ((congrFun (hF104.2.2 tk 194 z2 (by decide) (by decide)).2.1 i).trans (hZ z i hi)))⟩) dX6_readTape_129
          · skip
            refine pq_aload_n F dX6_readTape_73 rfl rfl ?_
            refine pq_get F haL (by decide) lk_X6_45 hB3.e6 dX6_readTape_74 ?_
            refine pq_if_le (tgt := 88) F dX6_readTape_77 (by decide) (fun c77 => ?_) (fun c77 => ?_)
            · skip
              refine pq_aload_n F dX6_readTape_88 rfl rfl ?_
              refine pq_aload_n F dX6_readTape_89 rfl rfl ?_
              refine pq_get F haL (by decide) lk_X6_11 hB3.e2 dX6_readTape_90 ?_
              refine pq_callV (As := [_]) F (k_X6_hereC l D cy _ _ ?_ _ ?_ _ (hB3).e6 hb3.1 hb3.2.1 ((hB3).c (Int.le_refl _))) ml_X6_59 haL (by decide) rfl (Nat.le_of_ble_eq_true rfl) ⟨Nat.le_of_ble_eq_true rfl, Nat.le_of_ble_eq_true rfl⟩ ⟨by show cc + 0 ≤ 6 * (tn + 1); focus ((try clear p4); (try clear p4a); (try clear p23); (try clear p57); (try clear hZ); (try clear hB3); (try clear hB4); (try clear p104); (try clear hZ2); simp only [vp_in_iff, Int32.lt_iff_toInt_lt, Int32.le_iff_toInt_le, ← Int32.toInt_inj, Int32.toInt_add, Int32.toInt_sub, Int32.toInt_mul, Int32.toInt_neg, pq_NuO, pq_NuI, pq_NuJ, pq_NuR, pq_shr6, pq_shr7, pq_shr8, lqm1, lq0, lq1, lq2048] at *; (try simp (disch := omega) only [pq_bm] at *); all_goals omega), by show zz + 0 ≤ 34 * (tn + 1); focus ((try clear p4); (try clear p4a); (try clear p23); (try clear p57); (try clear hZ); (try clear hB3); (try clear hB4); (try clear p104); (try clear hZ2); simp only [vp_in_iff, Int32.lt_iff_toInt_lt, Int32.le_iff_toInt_le, ← Int32.toInt_inj, Int32.toInt_add, Int32.toInt_sub, Int32.toInt_mul, Int32.toInt_neg, pq_NuO, pq_NuI, pq_NuJ, pq_NuR, pq_shr6, pq_shr7, pq_shr8, lqm1, lq0, lq1, lq2048] at *; (try simp (disch := omega) only [pq_bm] at *); all_goals omega)⟩ dX6_readTape_93 (fun v93 S93 w93 => ?_)
              · exact haL
              · exact hB3.h2
              obtain ⟨u93, y93, rfl, hy93⟩ := w93
              rw [u93]
              rw [u93] at hy93
              refine pq_aload_n F dX6_readTape_96 rfl rfl ?_
              refine pq_aload_n F dX6_readTape_97 rfl rfl ?_
              refine pq_get F haL (by decide) lk_X6_17 hB3.e3 dX6_readTape_98 ?_
              refine pq_callV (As := [_]) F (k_X6_hereQ l D cy _ _ ?_ _ ?_ _ (hB3).e6 hb3.1 hb3.2.1 ((hB3).q (Int.le_refl _))) ml_X6_59 haL (by decide) rfl (Nat.le_of_ble_eq_true rfl) ⟨Nat.le_of_ble_eq_true rfl, Nat.le_of_ble_eq_true rfl⟩ ⟨by show cc + 0 + 0 ≤ 6 * (tn + 1); focus ((try clear p4); (try clear p4a); (try clear p23); (try clear p57); (try clear hZ); (try clear hB3); (try clear hB4); (try clear p104); (try clear hZ2); simp only [vp_in_iff, Int32.lt_iff_toInt_lt, Int32.le_iff_toInt_le, ← Int32.toInt_inj, Int32.toInt_add, Int32.toInt_sub, Int32.toInt_mul, Int32.toInt_neg, pq_NuO, pq_NuI, pq_NuJ, pq_NuR, pq_shr6, pq_shr7, pq_shr8, lqm1, lq0, lq1, lq2048] at *; (try simp (disch := omega) only [pq_bm] at *); all_goals omega), by show zz + 0 + 0 ≤ 34 * (tn + 1); focus ((try clear p4); (try clear p4a); (try clear p23); (try clear p57); (try clear hZ); (try clear hB3); (try clear hB4); (try clear p104); (try clear hZ2); simp only [vp_in_iff, Int32.lt_iff_toInt_lt, Int32.le_iff_toInt_le, ← Int32.toInt_inj, Int32.toInt_add, Int32.toInt_sub, Int32.toInt_mul, Int32.toInt_neg, pq_NuO, pq_NuI, pq_NuJ, pq_NuR, pq_shr6, pq_shr7, pq_shr8, lqm1, lq0, lq1, lq2048] at *; (try simp (disch := omega) only [pq_bm] at *); all_goals omega)⟩ dX6_readTape_101 (fun v101 S101 w101 => ?_)
              · exact haL
              · exact hB3.h3
              obtain ⟨u101, y101, rfl, hy101⟩ := w101
              rw [u101]
              rw [u101] at hy101
              refine pq_callV (As := [_]) F (k_X2_addChoice l D cy _ _ ?_ _ ?_) ml_X6_63 hy93 (by decide) rfl (Nat.le_of_ble_eq_true rfl) ⟨Nat.le_of_ble_eq_true rfl, Nat.le_of_ble_eq_true rfl⟩ ⟨by show cc + 0 + 0 + 0 ≤ 6 * (tn + 1); focus ((try clear p4); (try clear p4a); (try clear p23); (try clear p57); (try clear hZ); (try clear hB3); (try clear hB4); (try clear p104); (try clear hZ2); simp only [vp_in_iff, Int32.lt_iff_toInt_lt, Int32.le_iff_toInt_le, ← Int32.toInt_inj, Int32.toInt_add, Int32.toInt_sub, Int32.toInt_mul, Int32.toInt_neg, pq_NuO, pq_NuI, pq_NuJ, pq_NuR, pq_shr6, pq_shr7, pq_shr8, lqm1, lq0, lq1, lq2048] at *; (try simp (disch := omega) only [pq_bm] at *); all_goals omega), by show zz + 0 + 0 + 0 ≤ 34 * (tn + 1); focus ((try clear p4); (try clear p4a); (try clear p23); (try clear p57); (try clear hZ); (try clear hB3); (try clear hB4); (try clear p104); (try clear hZ2); simp only [vp_in_iff, Int32.lt_iff_toInt_lt, Int32.le_iff_toInt_le, ← Int32.toInt_inj, Int32.toInt_add, Int32.toInt_sub, Int32.toInt_mul, Int32.toInt_neg, pq_NuO, pq_NuI, pq_NuJ, pq_NuR, pq_shr6, pq_shr7, pq_shr8, lqm1, lq0, lq1, lq2048] at *; (try simp (disch := omega) only [pq_bm] at *); all_goals omega)⟩ dX6_readTape_104 (fun v104 S104 w104 => ?_)
              · exact hy93
              · exact hy101
              obtain ⟨rfl, hF104⟩ := w104
              have haL_104 := (hF104.1 _ _ haL (by decide)).1
              have hz_104 := (hF104.1 _ _ hB3.h2 (by decide)).1
              have ec104_2_haL_104 := hF104.O haL (by decide) (by decide) hB3.e2
              have hz_104z := (hF104.1 _ _ hB3.h3 (by decide)).1
              have ec104_3_haL_104 := hF104.O haL (by decide) (by decide) hB3.e3
              have hz_104zz := (hF104.1 _ _ hB3.h0 (by decide)).1
              have ec104_0_haL_104 := hF104.O haL (by decide) (by decide) hB3.e0
              have ec104_5_haL_104 := hF104.O haL (by decide) (by decide) hB3.e5
              have ec104_6_haL_104 := hF104.O haL (by decide) (by decide) hB3.e6
              have ec104_7_haL_104 := hF104.O haL (by decide) (by decide) hB3.e7
              have ec104_1_hz_104zz := hF104.O hB3.h0 (by decide) (by decide) hB3.et
              refine pq_aload_n F dX6_readTape_107 rfl rfl ?_
              refine pq_getR F haL_104 (by decide) lk_X6_29 rfl dX6_readTape_108 (fun r108 e108 h108 => ?_)
              refine pq_getR F h108 (by decide) lk_X6_67 rfl dX6_readTape_111 (fun r111 e111 h111 => ?_)
              refine pq_aload_n F dX6_readTape_114 rfl rfl ?_
              refine pq_aload_n F dX6_readTape_115 rfl rfl ?_
              refine pq_get F haL_104 (by decide) lk_X6_11 ec104_2_haL_104 dX6_readTape_116 ?_
              refine pq_callV (As := [_]) F (k_X6_hereC l D cy _ _ ?_ _ ?_ _ ((hB3.fr hF104 (by decide))).e6 hb3.1 hb3.2.1 (((hB3.fr hF104 (by decide))).c (Int.le_refl _))) ml_X6_59 haL_104 (by decide) rfl (Nat.le_of_ble_eq_true rfl) ⟨Nat.le_of_ble_eq_true rfl, Nat.le_of_ble_eq_true rfl⟩ ⟨by show cc + 0 + 0 + 0 + 0 ≤ 6 * (tn + 1); focus ((try clear p4); (try clear p4a); (try clear p23); (try clear p57); (try clear hZ); (try clear hB3); (try clear hB4); (try clear p104); (try clear hZ2); simp only [vp_in_iff, Int32.lt_iff_toInt_lt, Int32.le_iff_toInt_le, ← Int32.toInt_inj, Int32.toInt_add, Int32.toInt_sub, Int32.toInt_mul, Int32.toInt_neg, pq_NuO, pq_NuI, pq_NuJ, pq_NuR, pq_shr6, pq_shr7, pq_shr8, lqm1, lq0, lq1, lq2048] at *; (try simp (disch := omega) only [pq_bm] at *); all_goals omega), by show zz + 0 + 0 + 0 + 0 ≤ 34 * (tn + 1); focus ((try clear p4); (try clear p4a); (try clear p23); (try clear p57); (try clear hZ); (try clear hB3); (try clear hB4); (try clear p104); (try clear hZ2); simp only [vp_in_iff, Int32.lt_iff_toInt_lt, Int32.le_iff_toInt_le, ← Int32.toInt_inj, Int32.toInt_add, Int32.toInt_sub, Int32.toInt_mul, Int32.toInt_neg, pq_NuO, pq_NuI, pq_NuJ, pq_NuR, pq_shr6, pq_shr7, pq_shr8, lqm1, lq0, lq1, lq2048] at *; (try simp (disch := omega) only [pq_bm] at *); all_goals omega)⟩ dX6_readTape_119 (fun v119 S119 w119 => ?_)
              · exact haL_104
              · exact hz_104
              obtain ⟨u119, y119, rfl, hy119⟩ := w119
              rw [u119]
              rw [u119] at hy119
              refine pq_callV (As := [_]) F (k_X2_become l D cy _ _ ?_ _ ?_) ml_X6_70 h111 (by decide) rfl (Nat.le_of_ble_eq_true rfl) ⟨Nat.le_of_ble_eq_true rfl, Nat.le_of_ble_eq_true rfl⟩ ⟨by show cc + 0 + 0 + 0 + 0 + 0 ≤ 6 * (tn + 1); focus ((try clear p4); (try clear p4a); (try clear p23); (try clear p57); (try clear hZ); (try clear hB3); (try clear hB4); (try clear p104); (try clear hZ2); simp only [vp_in_iff, Int32.lt_iff_toInt_lt, Int32.le_iff_toInt_le, ← Int32.toInt_inj, Int32.toInt_add, Int32.toInt_sub, Int32.toInt_mul, Int32.toInt_neg, pq_NuO, pq_NuI, pq_NuJ, pq_NuR, pq_shr6, pq_shr7, pq_shr8, lqm1, lq0, lq1, lq2048] at *; (try simp (disch := omega) only [pq_bm] at *); all_goals omega), by show zz + 0 + 0 + 0 + 0 + 0 ≤ 34 * (tn + 1); focus ((try clear p4); (try clear p4a); (try clear p23); (try clear p57); (try clear hZ); (try clear hB3); (try clear hB4); (try clear p104); (try clear hZ2); simp only [vp_in_iff, Int32.lt_iff_toInt_lt, Int32.le_iff_toInt_le, ← Int32.toInt_inj, Int32.toInt_add, Int32.toInt_sub, Int32.toInt_mul, Int32.toInt_neg, pq_NuO, pq_NuI, pq_NuJ, pq_NuR, pq_shr6, pq_shr7, pq_shr8, lqm1, lq0, lq1, lq2048] at *; (try simp (disch := omega) only [pq_bm] at *); all_goals omega)⟩ dX6_readTape_122 (fun v122 S122 w122 => ?_)
              · exact h111
              · exact hy119
              obtain ⟨rfl, hF122⟩ := w122
              have haL_122 := (hF122.1 _ _ haL_104 (by decide)).1
              have hz_122 := (hF122.1 _ _ hz_104 (by decide)).1
              have ec122_2_haL_122 := hF122.O haL_104 (by decide) (by decide) ec104_2_haL_104
              have hz_104z_122 := (hF122.1 _ _ hz_104z (by decide)).1
              have ec122_3_haL_122 := hF122.O haL_104 (by decide) (by decide) ec104_3_haL_104
              have hz_104zz_122 := (hF122.1 _ _ hz_104zz (by decide)).1
              have ec122_0_haL_122 := hF122.O haL_104 (by decide) (by decide) ec104_0_haL_104
              have ec122_5_haL_122 := hF122.O haL_104 (by decide) (by decide) ec104_5_haL_104
              have ec122_6_haL_122 := hF122.O haL_104 (by decide) (by decide) ec104_6_haL_104
              have ec122_7_haL_122 := hF122.O haL_104 (by decide) (by decide) ec104_7_haL_104
              have ec122_1_hz_104zz_122 := hF122.O hz_104zz (by decide) (by decide) ec104_1_hz_104zz
              have h108_122 := (hF122.1 _ _ h108 (by decide)).1
              have ec122_1_haL_122 := hF122.O haL_104 (by decide) (by decide) e108
              have h111_122 := (hF122.1 _ _ h111 (by decide)).1
              have ec122_2_h108_122 := hF122.O h108 (by decide) (by decide) e111
              refine pq_aload_n F dX6_readTape_125 rfl rfl ?_
              refine pq_get F haL_122 (by decide) lk_X6_42 ec122_7_haL_122 dX6_readTape_126 ?_
              exact pq_iret F hr hlk hA (by focus ((try clear p4); (try clear p4a); (try clear p23); (try clear p57); (try clear hZ); (try clear hB3); (try clear hB4); (try clear p104); (try clear hZ2); simp only [vp_in_iff, Int32.lt_iff_toInt_lt, Int32.le_iff_toInt_le, ← Int32.toInt_inj, Int32.toInt_add, Int32.toInt_sub, Int32.toInt_mul, Int32.toInt_neg, pq_NuO, pq_NuI, pq_NuJ, pq_NuR, pq_shr6, pq_shr7, pq_shr8, lqm1, lq0, lq1, lq2048] at *; (try simp (disch := omega) only [pq_bm] at *); all_goals omega)) (by focus ((try clear p4); (try clear p4a); (try clear p23); (try clear p57); (try clear hZ); (try clear hB3); (try clear hB4); (try clear p104); (try clear hZ2); simp only [vp_in_iff, Int32.lt_iff_toInt_lt, Int32.le_iff_toInt_le, ← Int32.toInt_inj, Int32.toInt_add, Int32.toInt_sub, Int32.toInt_mul, Int32.toInt_neg, pq_NuO, pq_NuI, pq_NuJ, pq_NuR, pq_shr6, pq_shr7, pq_shr8, lqm1, lq0, lq1, lq2048] at *; (try simp (disch := omega) only [pq_bm] at *); all_goals omega)) (⟨((hF.cm hF104 (by decide)).cm hF122 (by decide)), _, rfl, fun z i hi => (by have z2 := hF.R htk (by decide); have z3 := hF104.R z2 (by decide); exact (congrFun (hF122.2.2 tk 194 z3 (by decide) (by decide)).2.1 i).trans ((congrFun (hF104.2.2 tk 194 z2 (by decide) (by decide)).2.1 i).trans (hZ z i hi)))⟩) dX6_readTape_129
            · skip
              refine pq_aload_n F dX6_readTape_80 rfl rfl ?_
              refine pq_aload_n F dX6_readTape_81 rfl rfl ?_
              refine pq_get F haL (by decide) lk_X6_38 hB3.e5 dX6_readTape_82 ?_
              refine pq_putI F haL (by decide) lp_X6_42 rfl (pq_any1 _) (pq_any2 _) dX6_readTape_85 ?_
              refine pq_aload_n F dX6_readTape_88 rfl rfl ?_
              refine pq_aload_n F dX6_readTape_89 rfl rfl ?_
              refine pq_get F haL (by decide) lk_X6_11 (pq_kp hB3.e2 (by decide)) dX6_readTape_90 ?_
              refine pq_callV (As := [_]) F (k_X6_hereC l D cy _ _ ?_ _ ?_ _ (hB3.p7).e6 hb3.1 hb3.2.1 ((hB3.p7).c (Int.le_refl _))) ml_X6_59 haL (by decide) rfl (Nat.le_of_ble_eq_true rfl) ⟨Nat.le_of_ble_eq_true rfl, Nat.le_of_ble_eq_true rfl⟩ ⟨by show cc + 0 ≤ 6 * (tn + 1); focus ((try clear p4); (try clear p4a); (try clear p23); (try clear p57); (try clear hZ); (try clear hB3); (try clear hB4); (try clear p104); (try clear hZ2); simp only [vp_in_iff, Int32.lt_iff_toInt_lt, Int32.le_iff_toInt_le, ← Int32.toInt_inj, Int32.toInt_add, Int32.toInt_sub, Int32.toInt_mul, Int32.toInt_neg, pq_NuO, pq_NuI, pq_NuJ, pq_NuR, pq_shr6, pq_shr7, pq_shr8, lqm1, lq0, lq1, lq2048] at *; (try simp (disch := omega) only [pq_bm] at *); all_goals omega), by show zz + 0 ≤ 34 * (tn + 1); focus ((try clear p4); (try clear p4a); (try clear p23); (try clear p57); (try clear hZ); (try clear hB3); (try clear hB4); (try clear p104); (try clear hZ2); simp only [vp_in_iff, Int32.lt_iff_toInt_lt, Int32.le_iff_toInt_le, ← Int32.toInt_inj, Int32.toInt_add, Int32.toInt_sub, Int32.toInt_mul, Int32.toInt_neg, pq_NuO, pq_NuI, pq_NuJ, pq_NuR, pq_shr6, pq_shr7, pq_shr8, lqm1, lq0, lq1, lq2048] at *; (try simp (disch := omega) only [pq_bm] at *); all_goals omega)⟩ dX6_readTape_93 (fun v93 S93 w93 => ?_)
              · exact haL
              · exact hB3.h2
              obtain ⟨u93, y93, rfl, hy93⟩ := w93
              rw [u93]
              rw [u93] at hy93
              refine pq_aload_n F dX6_readTape_96 rfl rfl ?_
              refine pq_aload_n F dX6_readTape_97 rfl rfl ?_
              refine pq_get F haL (by decide) lk_X6_17 (pq_kp hB3.e3 (by decide)) dX6_readTape_98 ?_
              refine pq_callV (As := [_]) F (k_X6_hereQ l D cy _ _ ?_ _ ?_ _ (hB3.p7).e6 hb3.1 hb3.2.1 ((hB3.p7).q (Int.le_refl _))) ml_X6_59 haL (by decide) rfl (Nat.le_of_ble_eq_true rfl) ⟨Nat.le_of_ble_eq_true rfl, Nat.le_of_ble_eq_true rfl⟩ ⟨by show cc + 0 + 0 ≤ 6 * (tn + 1); focus ((try clear p4); (try clear p4a); (try clear p23); (try clear p57); (try clear hZ); (try clear hB3); (try clear hB4); (try clear p104); (try clear hZ2); simp only [vp_in_iff, Int32.lt_iff_toInt_lt, Int32.le_iff_toInt_le, ← Int32.toInt_inj, Int32.toInt_add, Int32.toInt_sub, Int32.toInt_mul, Int32.toInt_neg, pq_NuO, pq_NuI, pq_NuJ, pq_NuR, pq_shr6, pq_shr7, pq_shr8, lqm1, lq0, lq1, lq2048] at *; (try simp (disch := omega) only [pq_bm] at *); all_goals omega), by show zz + 0 + 0 ≤ 34 * (tn + 1); focus ((try clear p4); (try clear p4a); (try clear p23); (try clear p57); (try clear hZ); (try clear hB3); (try clear hB4); (try clear p104); (try clear hZ2); simp only [vp_in_iff, Int32.lt_iff_toInt_lt, Int32.le_iff_toInt_le, ← Int32.toInt_inj, Int32.toInt_add, Int32.toInt_sub, Int32.toInt_mul, Int32.toInt_neg, pq_NuO, pq_NuI, pq_NuJ, pq_NuR, pq_shr6, pq_shr7, pq_shr8, lqm1, lq0, lq1, lq2048] at *; (try simp (disch := omega) only [pq_bm] at *); all_goals omega)⟩ dX6_readTape_101 (fun v101 S101 w101 => ?_)
              · exact haL
              · exact hB3.h3
              obtain ⟨u101, y101, rfl, hy101⟩ := w101
              rw [u101]
              rw [u101] at hy101
              refine pq_callV (As := [_]) F (k_X2_addChoice l D cy _ _ ?_ _ ?_) ml_X6_63 hy93 (by decide) rfl (Nat.le_of_ble_eq_true rfl) ⟨Nat.le_of_ble_eq_true rfl, Nat.le_of_ble_eq_true rfl⟩ ⟨by show cc + 0 + 0 + 0 ≤ 6 * (tn + 1); focus ((try clear p4); (try clear p4a); (try clear p23); (try clear p57); (try clear hZ); (try clear hB3); (try clear hB4); (try clear p104); (try clear hZ2); simp only [vp_in_iff, Int32.lt_iff_toInt_lt, Int32.le_iff_toInt_le, ← Int32.toInt_inj, Int32.toInt_add, Int32.toInt_sub, Int32.toInt_mul, Int32.toInt_neg, pq_NuO, pq_NuI, pq_NuJ, pq_NuR, pq_shr6, pq_shr7, pq_shr8, lqm1, lq0, lq1, lq2048] at *; (try simp (disch := omega) only [pq_bm] at *); all_goals omega), by show zz + 0 + 0 + 0 ≤ 34 * (tn + 1); focus ((try clear p4); (try clear p4a); (try clear p23); (try clear p57); (try clear hZ); (try clear hB3); (try clear hB4); (try clear p104); (try clear hZ2); simp only [vp_in_iff, Int32.lt_iff_toInt_lt, Int32.le_iff_toInt_le, ← Int32.toInt_inj, Int32.toInt_add, Int32.toInt_sub, Int32.toInt_mul, Int32.toInt_neg, pq_NuO, pq_NuI, pq_NuJ, pq_NuR, pq_shr6, pq_shr7, pq_shr8, lqm1, lq0, lq1, lq2048] at *; (try simp (disch := omega) only [pq_bm] at *); all_goals omega)⟩ dX6_readTape_104 (fun v104 S104 w104 => ?_)
              · exact hy93
              · exact hy101
              obtain ⟨rfl, hF104⟩ := w104
              have haL_104 := (hF104.1 _ _ haL (by decide)).1
              have hz_104 := (hF104.1 _ _ hB3.h2 (by decide)).1
              have ec104_2_haL_104 := hF104.O haL (by decide) (by decide) (pq_kp hB3.e2 (by decide))
              have hz_104z := (hF104.1 _ _ hB3.h3 (by decide)).1
              have ec104_3_haL_104 := hF104.O haL (by decide) (by decide) (pq_kp hB3.e3 (by decide))
              have hz_104zz := (hF104.1 _ _ hB3.h0 (by decide)).1
              have ec104_0_haL_104 := hF104.O haL (by decide) (by decide) (pq_kp hB3.e0 (by decide))
              have ec104_5_haL_104 := hF104.O haL (by decide) (by decide) (pq_kp hB3.e5 (by decide))
              have ec104_6_haL_104 := hF104.O haL (by decide) (by decide) (pq_kp hB3.e6 (by decide))
              have ec104_1_hz_104zz := hF104.O hB3.h0 (by decide) (by decide) (pq_ko hB3.et hB3.h0 haL (by decide))
              have ec104_7_haL_104 := hF104.O haL (by decide) (by decide) pq_ks
              refine pq_aload_n F dX6_readTape_107 rfl rfl ?_
              refine pq_getR F haL_104 (by decide) lk_X6_29 rfl dX6_readTape_108 (fun r108 e108 h108 => ?_)
              refine pq_getR F h108 (by decide) lk_X6_67 rfl dX6_readTape_111 (fun r111 e111 h111 => ?_)
              refine pq_aload_n F dX6_readTape_114 rfl rfl ?_
              refine pq_aload_n F dX6_readTape_115 rfl rfl ?_
              refine pq_get F haL_104 (by decide) lk_X6_11 ec104_2_haL_104 dX6_readTape_116 ?_
              refine pq_callV (As := [_]) F (k_X6_hereC l D cy _ _ ?_ _ ?_ _ ((hB3.p7.fr hF104 (by decide))).e6 hb3.1 hb3.2.1 (((hB3.p7.fr hF104 (by decide))).c (Int.le_refl _))) ml_X6_59 haL_104 (by decide) rfl (Nat.le_of_ble_eq_true rfl) ⟨Nat.le_of_ble_eq_true rfl, Nat.le_of_ble_eq_true rfl⟩ ⟨by show cc + 0 + 0 + 0 + 0 ≤ 6 * (tn + 1); focus ((try clear p4); (try clear p4a); (try clear p23); (try clear p57); (try clear hZ); (try clear hB3); (try clear hB4); (try clear p104); (try clear hZ2); simp only [vp_in_iff, Int32.lt_iff_toInt_lt, Int32.le_iff_toInt_le, ← Int32.toInt_inj, Int32.toInt_add, Int32.toInt_sub, Int32.toInt_mul, Int32.toInt_neg, pq_NuO, pq_NuI, pq_NuJ, pq_NuR, pq_shr6, pq_shr7, pq_shr8, lqm1, lq0, lq1, lq2048] at *; (try simp (disch := omega) only [pq_bm] at *); all_goals omega), by show zz + 0 + 0 + 0 + 0 ≤ 34 * (tn + 1); focus ((try clear p4); (try clear p4a); (try clear p23); (try clear p57); (try clear hZ); (try clear hB3); (try clear hB4); (try clear p104); (try clear hZ2); simp only [vp_in_iff, Int32.lt_iff_toInt_lt, Int32.le_iff_toInt_le, ← Int32.toInt_inj, Int32.toInt_add, Int32.toInt_sub, Int32.toInt_mul, Int32.toInt_neg, pq_NuO, pq_NuI, pq_NuJ, pq_NuR, pq_shr6, pq_shr7, pq_shr8, lqm1, lq0, lq1, lq2048] at *; (try simp (disch := omega) only [pq_bm] at *); all_goals omega)⟩ dX6_readTape_119 (fun v119 S119 w119 => ?_)
              · exact haL_104
              · exact hz_104
              obtain ⟨u119, y119, rfl, hy119⟩ := w119
              rw [u119]
              rw [u119] at hy119
              refine pq_callV (As := [_]) F (k_X2_become l D cy _ _ ?_ _ ?_) ml_X6_70 h111 (by decide) rfl (Nat.le_of_ble_eq_true rfl) ⟨Nat.le_of_ble_eq_true rfl, Nat.le_of_ble_eq_true rfl⟩ ⟨by show cc + 0 + 0 + 0 + 0 + 0 ≤ 6 * (tn + 1); focus ((try clear p4); (try clear p4a); (try clear p23); (try clear p57); (try clear hZ); (try clear hB3); (try clear hB4); (try clear p104); (try clear hZ2); simp only [vp_in_iff, Int32.lt_iff_toInt_lt, Int32.le_iff_toInt_le, ← Int32.toInt_inj, Int32.toInt_add, Int32.toInt_sub, Int32.toInt_mul, Int32.toInt_neg, pq_NuO, pq_NuI, pq_NuJ, pq_NuR, pq_shr6, pq_shr7, pq_shr8, lqm1, lq0, lq1, lq2048] at *; (try simp (disch := omega) only [pq_bm] at *); all_goals omega), by show zz + 0 + 0 + 0 + 0 + 0 ≤ 34 * (tn + 1); focus ((try clear p4); (try clear p4a); (try clear p23); (try clear p57); (try clear hZ); (try clear hB3); (try clear hB4); (try clear p104); (try clear hZ2); simp only [vp_in_iff, Int32.lt_iff_toInt_lt, Int32.le_iff_toInt_le, ← Int32.toInt_inj, Int32.toInt_add, Int32.toInt_sub, Int32.toInt_mul, Int32.toInt_neg, pq_NuO, pq_NuI, pq_NuJ, pq_NuR, pq_shr6, pq_shr7, pq_shr8, lqm1, lq0, lq1, lq2048] at *; (try simp (disch := omega) only [pq_bm] at *); all_goals omega)⟩ dX6_readTape_122 (fun v122 S122 w122 => ?_)
              · exact h111
              · exact hy119
              obtain ⟨rfl, hF122⟩ := w122
              have haL_122 := (hF122.1 _ _ haL_104 (by decide)).1
              have hz_122 := (hF122.1 _ _ hz_104 (by decide)).1
              have ec122_2_haL_122 := hF122.O haL_104 (by decide) (by decide) ec104_2_haL_104
              have hz_104z_122 := (hF122.1 _ _ hz_104z (by decide)).1
              have ec122_3_haL_122 := hF122.O haL_104 (by decide) (by decide) ec104_3_haL_104
              have hz_104zz_122 := (hF122.1 _ _ hz_104zz (by decide)).1
              have ec122_0_haL_122 := hF122.O haL_104 (by decide) (by decide) ec104_0_haL_104
              have ec122_5_haL_122 := hF122.O haL_104 (by decide) (by decide) ec104_5_haL_104
              have ec122_6_haL_122 := hF122.O haL_104 (by decide) (by decide) ec104_6_haL_104
              have ec122_1_hz_104zz_122 := hF122.O hz_104zz (by decide) (by decide) ec104_1_hz_104zz
              have ec122_7_haL_122 := hF122.O haL_104 (by decide) (by decide) ec104_7_haL_104
              have h108_122 := (hF122.1 _ _ h108 (by decide)).1
              have ec122_1_haL_122 := hF122.O haL_104 (by decide) (by decide) e108
              have h111_122 := (hF122.1 _ _ h111 (by decide)).1
              have ec122_2_h108_122 := hF122.O h108 (by decide) (by decide) e111
              refine pq_aload_n F dX6_readTape_125 rfl rfl ?_
              refine pq_get F haL_122 (by decide) lk_X6_42 ec122_7_haL_122 dX6_readTape_126 ?_
              exact pq_iret F hr hlk hA (by focus ((try clear p4); (try clear p4a); (try clear p23); (try clear p57); (try clear hZ); (try clear hB3); (try clear hB4); (try clear p104); (try clear hZ2); simp only [vp_in_iff, Int32.lt_iff_toInt_lt, Int32.le_iff_toInt_le, ← Int32.toInt_inj, Int32.toInt_add, Int32.toInt_sub, Int32.toInt_mul, Int32.toInt_neg, pq_NuO, pq_NuI, pq_NuJ, pq_NuR, pq_shr6, pq_shr7, pq_shr8, lqm1, lq0, lq1, lq2048] at *; (try simp (disch := omega) only [pq_bm] at *); all_goals omega)) (by focus ((try clear p4); (try clear p4a); (try clear p23); (try clear p57); (try clear hZ); (try clear hB3); (try clear hB4); (try clear p104); (try clear hZ2); simp only [vp_in_iff, Int32.lt_iff_toInt_lt, Int32.le_iff_toInt_le, ← Int32.toInt_inj, Int32.toInt_add, Int32.toInt_sub, Int32.toInt_mul, Int32.toInt_neg, pq_NuO, pq_NuI, pq_NuJ, pq_NuR, pq_shr6, pq_shr7, pq_shr8, lqm1, lq0, lq1, lq2048] at *; (try simp (disch := omega) only [pq_bm] at *); all_goals omega)) (⟨(((hF.uO haL (by decide)).cm hF104 (by decide)).cm hF122 (by decide)), _, rfl, fun z i hi => (by have z2 := hF.R htk (by decide); have z3 := hF104.R z2 (by decide); exact (congrFun (hF122.2.2 tk 194 z3 (by decide) (by decide)).2.1 i).trans ((congrFun (hF104.2.2 tk 194 z2 (by decide) (by decide)).2.1 i).trans (hZ z i hi)))⟩) dX6_readTape_129
        · skip
          refine pq_aload_n F dX6_readTape_49 rfl rfl ?_
          refine pq_get F haL (by decide) lk_X6_42 hB3.e7 dX6_readTape_50 ?_
          refine pq_if_ge (tgt := 66) F dX6_readTape_53 (by decide) (fun c53 => ?_) (fun c53 => ?_)
          · skip
            refine pq_aload_n F dX6_readTape_66 rfl rfl ?_
            refine pq_get F haL (by decide) lk_X6_42 hB3.e7 dX6_readTape_67 ?_
            refine pq_if_ge (tgt := 88) F dX6_readTape_70 (by decide) (fun c70 => ?_) (fun c70 => ?_)
            · skip
              refine pq_aload_n F dX6_readTape_88 rfl rfl ?_
              refine pq_aload_n F dX6_readTape_89 rfl rfl ?_
              refine pq_get F haL (by decide) lk_X6_11 hB3.e2 dX6_readTape_90 ?_
              refine pq_callV (As := [_]) F (k_X6_hereC l D cy _ _ ?_ _ ?_ _ (hB3).e6 hb3.1 hb3.2.1 ((hB3).c (Int.le_refl _))) ml_X6_59 haL (by decide) rfl (Nat.le_of_ble_eq_true rfl) ⟨Nat.le_of_ble_eq_true rfl, Nat.le_of_ble_eq_true rfl⟩ ⟨by show cc + 0 ≤ 6 * (tn + 1); focus ((try clear p4); (try clear p4a); (try clear p23); (try clear p57); (try clear hZ); (try clear hB3); (try clear hB4); (try clear p104); (try clear hZ2); simp only [vp_in_iff, Int32.lt_iff_toInt_lt, Int32.le_iff_toInt_le, ← Int32.toInt_inj, Int32.toInt_add, Int32.toInt_sub, Int32.toInt_mul, Int32.toInt_neg, pq_NuO, pq_NuI, pq_NuJ, pq_NuR, pq_shr6, pq_shr7, pq_shr8, lqm1, lq0, lq1, lq2048] at *; (try simp (disch := omega) only [pq_bm] at *); all_goals omega), by show zz + 0 ≤ 34 * (tn + 1); focus ((try clear p4); (try clear p4a); (try clear p23); (try clear p57); (try clear hZ); (try clear hB3); (try clear hB4); (try clear p104); (try clear hZ2); simp only [vp_in_iff, Int32.lt_iff_toInt_lt, Int32.le_iff_toInt_le, ← Int32.toInt_inj, Int32.toInt_add, Int32.toInt_sub, Int32.toInt_mul, Int32.toInt_neg, pq_NuO, pq_NuI, pq_NuJ, pq_NuR, pq_shr6, pq_shr7, pq_shr8, lqm1, lq0, lq1, lq2048] at *; (try simp (disch := omega) only [pq_bm] at *); all_goals omega)⟩ dX6_readTape_93 (fun v93 S93 w93 => ?_)
              · exact haL
              · exact hB3.h2
              obtain ⟨u93, y93, rfl, hy93⟩ := w93
              rw [u93]
              rw [u93] at hy93
              refine pq_aload_n F dX6_readTape_96 rfl rfl ?_
              refine pq_aload_n F dX6_readTape_97 rfl rfl ?_
              refine pq_get F haL (by decide) lk_X6_17 hB3.e3 dX6_readTape_98 ?_
              refine pq_callV (As := [_]) F (k_X6_hereQ l D cy _ _ ?_ _ ?_ _ (hB3).e6 hb3.1 hb3.2.1 ((hB3).q (Int.le_refl _))) ml_X6_59 haL (by decide) rfl (Nat.le_of_ble_eq_true rfl) ⟨Nat.le_of_ble_eq_true rfl, Nat.le_of_ble_eq_true rfl⟩ ⟨by show cc + 0 + 0 ≤ 6 * (tn + 1); focus ((try clear p4); (try clear p4a); (try clear p23); (try clear p57); (try clear hZ); (try clear hB3); (try clear hB4); (try clear p104); (try clear hZ2); simp only [vp_in_iff, Int32.lt_iff_toInt_lt, Int32.le_iff_toInt_le, ← Int32.toInt_inj, Int32.toInt_add, Int32.toInt_sub, Int32.toInt_mul, Int32.toInt_neg, pq_NuO, pq_NuI, pq_NuJ, pq_NuR, pq_shr6, pq_shr7, pq_shr8, lqm1, lq0, lq1, lq2048] at *; (try simp (disch := omega) only [pq_bm] at *); all_goals omega), by show zz + 0 + 0 ≤ 34 * (tn + 1); focus ((try clear p4); (try clear p4a); (try clear p23); (try clear p57); (try clear hZ); (try clear hB3); (try clear hB4); (try clear p104); (try clear hZ2); simp only [vp_in_iff, Int32.lt_iff_toInt_lt, Int32.le_iff_toInt_le, ← Int32.toInt_inj, Int32.toInt_add, Int32.toInt_sub, Int32.toInt_mul, Int32.toInt_neg, pq_NuO, pq_NuI, pq_NuJ, pq_NuR, pq_shr6, pq_shr7, pq_shr8, lqm1, lq0, lq1, lq2048] at *; (try simp (disch := omega) only [pq_bm] at *); all_goals omega)⟩ dX6_readTape_101 (fun v101 S101 w101 => ?_)
              · exact haL
              · exact hB3.h3
              obtain ⟨u101, y101, rfl, hy101⟩ := w101
              rw [u101]
              rw [u101] at hy101
              refine pq_callV (As := [_]) F (k_X2_addChoice l D cy _ _ ?_ _ ?_) ml_X6_63 hy93 (by decide) rfl (Nat.le_of_ble_eq_true rfl) ⟨Nat.le_of_ble_eq_true rfl, Nat.le_of_ble_eq_true rfl⟩ ⟨by show cc + 0 + 0 + 0 ≤ 6 * (tn + 1); focus ((try clear p4); (try clear p4a); (try clear p23); (try clear p57); (try clear hZ); (try clear hB3); (try clear hB4); (try clear p104); (try clear hZ2); simp only [vp_in_iff, Int32.lt_iff_toInt_lt, Int32.le_iff_toInt_le, ← Int32.toInt_inj, Int32.toInt_add, Int32.toInt_sub, Int32.toInt_mul, Int32.toInt_neg, pq_NuO, pq_NuI, pq_NuJ, pq_NuR, pq_shr6, pq_shr7, pq_shr8, lqm1, lq0, lq1, lq2048] at *; (try simp (disch := omega) only [pq_bm] at *); all_goals omega), by show zz + 0 + 0 + 0 ≤ 34 * (tn + 1); focus ((try clear p4); (try clear p4a); (try clear p23); (try clear p57); (try clear hZ); (try clear hB3); (try clear hB4); (try clear p104); (try clear hZ2); simp only [vp_in_iff, Int32.lt_iff_toInt_lt, Int32.le_iff_toInt_le, ← Int32.toInt_inj, Int32.toInt_add, Int32.toInt_sub, Int32.toInt_mul, Int32.toInt_neg, pq_NuO, pq_NuI, pq_NuJ, pq_NuR, pq_shr6, pq_shr7, pq_shr8, lqm1, lq0, lq1, lq2048] at *; (try simp (disch := omega) only [pq_bm] at *); all_goals omega)⟩ dX6_readTape_104 (fun v104 S104 w104 => ?_)
              · exact hy93
              · exact hy101
              obtain ⟨rfl, hF104⟩ := w104
              have haL_104 := (hF104.1 _ _ haL (by decide)).1
              have hz_104 := (hF104.1 _ _ hB3.h2 (by decide)).1
              have ec104_2_haL_104 := hF104.O haL (by decide) (by decide) hB3.e2
              have hz_104z := (hF104.1 _ _ hB3.h3 (by decide)).1
              have ec104_3_haL_104 := hF104.O haL (by decide) (by decide) hB3.e3
              have hz_104zz := (hF104.1 _ _ hB3.h0 (by decide)).1
              have ec104_0_haL_104 := hF104.O haL (by decide) (by decide) hB3.e0
              have ec104_5_haL_104 := hF104.O haL (by decide) (by decide) hB3.e5
              have ec104_6_haL_104 := hF104.O haL (by decide) (by decide) hB3.e6
              have ec104_7_haL_104 := hF104.O haL (by decide) (by decide) hB3.e7
              have ec104_1_hz_104zz := hF104.O hB3.h0 (by decide) (by decide) hB3.et
              refine pq_aload_n F dX6_readTape_107 rfl rfl ?_
              refine pq_getR F haL_104 (by decide) lk_X6_29 rfl dX6_readTape_108 (fun r108 e108 h108 => ?_)
              refine pq_getR F h108 (by decide) lk_X6_67 rfl dX6_readTape_111 (fun r111 e111 h111 => ?_)
              refine pq_aload_n F dX6_readTape_114 rfl rfl ?_
              refine pq_aload_n F dX6_readTape_115 rfl rfl ?_
              refine pq_get F haL_104 (by decide) lk_X6_11 ec104_2_haL_104 dX6_readTape_116 ?_
              refine pq_callV (As := [_]) F (k_X6_hereC l D cy _ _ ?_ _ ?_ _ ((hB3.fr hF104 (by decide))).e6 hb3.1 hb3.2.1 (((hB3.fr hF104 (by decide))).c (Int.le_refl _))) ml_X6_59 haL_104 (by decide) rfl (Nat.le_of_ble_eq_true rfl) ⟨Nat.le_of_ble_eq_true rfl, Nat.le_of_ble_eq_true rfl⟩ ⟨by show cc + 0 + 0 + 0 + 0 ≤ 6 * (tn + 1); focus ((try clear p4); (try clear p4a); (try clear p23); (try clear p57); (try clear hZ); (try clear hB3); (try clear hB4); (try clear p104); (try clear hZ2); simp only [vp_in_iff, Int32.lt_iff_toInt_lt, Int32.le_iff_toInt_le, ← Int32.toInt_inj, Int32.toInt_add, Int32.toInt_sub, Int32.toInt_mul, Int32.toInt_neg, pq_NuO, pq_NuI, pq_NuJ, pq_NuR, pq_shr6, pq_shr7, pq_shr8, lqm1, lq0, lq1, lq2048] at *; (try simp (disch := omega) only [pq_bm] at *); all_goals omega), by show zz + 0 + 0 + 0 + 0 ≤ 34 * (tn + 1); focus ((try clear p4); (try clear p4a); (try clear p23); (try clear p57); (try clear hZ); (try clear hB3); (try clear hB4); (try clear p104); (try clear hZ2); simp only [vp_in_iff, Int32.lt_iff_toInt_lt, Int32.le_iff_toInt_le, ← Int32.toInt_inj, Int32.toInt_add, Int32.toInt_sub, Int32.toInt_mul, Int32.toInt_neg, pq_NuO, pq_NuI, pq_NuJ, pq_NuR, pq_shr6, pq_shr7, pq_shr8, lqm1, lq0, lq1, lq2048] at *; (try simp (disch := omega) only [pq_bm] at *); all_goals omega)⟩ dX6_readTape_119 (fun v119 S119 w119 => ?_)
              · exact haL_104
              · exact hz_104
              obtain ⟨u119, y119, rfl, hy119⟩ := w119
              rw [u119]
              rw [u119] at hy119
              refine pq_callV (As := [_]) F (k_X2_become l D cy _ _ ?_ _ ?_) ml_X6_70 h111 (by decide) rfl (Nat.le_of_ble_eq_true rfl) ⟨Nat.le_of_ble_eq_true rfl, Nat.le_of_ble_eq_true rfl⟩ ⟨by show cc + 0 + 0 + 0 + 0 + 0 ≤ 6 * (tn + 1); focus ((try clear p4); (try clear p4a); (try clear p23); (try clear p57); (try clear hZ); (try clear hB3); (try clear hB4); (try clear p104); (try clear hZ2); simp only [vp_in_iff, Int32.lt_iff_toInt_lt, Int32.le_iff_toInt_le, ← Int32.toInt_inj, Int32.toInt_add, Int32.toInt_sub, Int32.toInt_mul, Int32.toInt_neg, pq_NuO, pq_NuI, pq_NuJ, pq_NuR, pq_shr6, pq_shr7, pq_shr8, lqm1, lq0, lq1, lq2048] at *; (try simp (disch := omega) only [pq_bm] at *); all_goals omega), by show zz + 0 + 0 + 0 + 0 + 0 ≤ 34 * (tn + 1); focus ((try clear p4); (try clear p4a); (try clear p23); (try clear p57); (try clear hZ); (try clear hB3); (try clear hB4); (try clear p104); (try clear hZ2); simp only [vp_in_iff, Int32.lt_iff_toInt_lt, Int32.le_iff_toInt_le, ← Int32.toInt_inj, Int32.toInt_add, Int32.toInt_sub, Int32.toInt_mul, Int32.toInt_neg, pq_NuO, pq_NuI, pq_NuJ, pq_NuR, pq_shr6, pq_shr7, pq_shr8, lqm1, lq0, lq1, lq2048] at *; (try simp (disch := omega) only [pq_bm] at *); all_goals omega)⟩ dX6_readTape_122 (fun v122 S122 w122 => ?_)
              · exact h111
              · exact hy119
              obtain ⟨rfl, hF122⟩ := w122
              have haL_122 := (hF122.1 _ _ haL_104 (by decide)).1
              have hz_122 := (hF122.1 _ _ hz_104 (by decide)).1
              have ec122_2_haL_122 := hF122.O haL_104 (by decide) (by decide) ec104_2_haL_104
              have hz_104z_122 := (hF122.1 _ _ hz_104z (by decide)).1
              have ec122_3_haL_122 := hF122.O haL_104 (by decide) (by decide) ec104_3_haL_104
              have hz_104zz_122 := (hF122.1 _ _ hz_104zz (by decide)).1
              have ec122_0_haL_122 := hF122.O haL_104 (by decide) (by decide) ec104_0_haL_104
              have ec122_5_haL_122 := hF122.O haL_104 (by decide) (by decide) ec104_5_haL_104
              have ec122_6_haL_122 := hF122.O haL_104 (by decide) (by decide) ec104_6_haL_104
              have ec122_7_haL_122 := hF122.O haL_104 (by decide) (by decide) ec104_7_haL_104
              have ec122_1_hz_104zz_122 := hF122.O hz_104zz (by decide) (by decide) ec104_1_hz_104zz
              have h108_122 := (hF122.1 _ _ h108 (by decide)).1
              have ec122_1_haL_122 := hF122.O haL_104 (by decide) (by decide) e108
              have h111_122 := (hF122.1 _ _ h111 (by decide)).1
              have ec122_2_h108_122 := hF122.O h108 (by decide) (by decide) e111
              refine pq_aload_n F dX6_readTape_125 rfl rfl ?_
              refine pq_get F haL_122 (by decide) lk_X6_42 ec122_7_haL_122 dX6_readTape_126 ?_
              exact pq_iret F hr hlk hA (by focus ((try clear p4); (try clear p4a); (try clear p23); (try clear p57); (try clear hZ); (try clear hB3); (try clear hB4); (try clear p104); (try clear hZ2); simp only [vp_in_iff, Int32.lt_iff_toInt_lt, Int32.le_iff_toInt_le, ← Int32.toInt_inj, Int32.toInt_add, Int32.toInt_sub, Int32.toInt_mul, Int32.toInt_neg, pq_NuO, pq_NuI, pq_NuJ, pq_NuR, pq_shr6, pq_shr7, pq_shr8, lqm1, lq0, lq1, lq2048] at *; (try simp (disch := omega) only [pq_bm] at *); all_goals omega)) (by focus ((try clear p4); (try clear p4a); (try clear p23); (try clear p57); (try clear hZ); (try clear hB3); (try clear hB4); (try clear p104); (try clear hZ2); simp only [vp_in_iff, Int32.lt_iff_toInt_lt, Int32.le_iff_toInt_le, ← Int32.toInt_inj, Int32.toInt_add, Int32.toInt_sub, Int32.toInt_mul, Int32.toInt_neg, pq_NuO, pq_NuI, pq_NuJ, pq_NuR, pq_shr6, pq_shr7, pq_shr8, lqm1, lq0, lq1, lq2048] at *; (try simp (disch := omega) only [pq_bm] at *); all_goals omega)) (⟨((hF.cm hF104 (by decide)).cm hF122 (by decide)), _, rfl, fun z i hi => (by have z2 := hF.R htk (by decide); have z3 := hF104.R z2 (by decide); exact (congrFun (hF122.2.2 tk 194 z3 (by decide) (by decide)).2.1 i).trans ((congrFun (hF104.2.2 tk 194 z2 (by decide) (by decide)).2.1 i).trans (hZ z i hi)))⟩) dX6_readTape_129
            · skip
              refine pq_aload_n F dX6_readTape_73 rfl rfl ?_
              refine pq_get F haL (by decide) lk_X6_45 hB3.e6 dX6_readTape_74 ?_
              refine pq_if_le (tgt := 88) F dX6_readTape_77 (by decide) (fun c77 => ?_) (fun c77 => ?_)
              · skip
                refine pq_aload_n F dX6_readTape_88 rfl rfl ?_
                refine pq_aload_n F dX6_readTape_89 rfl rfl ?_
                refine pq_get F haL (by decide) lk_X6_11 hB3.e2 dX6_readTape_90 ?_
                refine pq_callV (As := [_]) F (k_X6_hereC l D cy _ _ ?_ _ ?_ _ (hB3).e6 hb3.1 hb3.2.1 ((hB3).c (Int.le_refl _))) ml_X6_59 haL (by decide) rfl (Nat.le_of_ble_eq_true rfl) ⟨Nat.le_of_ble_eq_true rfl, Nat.le_of_ble_eq_true rfl⟩ ⟨by show cc + 0 ≤ 6 * (tn + 1); focus ((try clear p4); (try clear p4a); (try clear p23); (try clear p57); (try clear hZ); (try clear hB3); (try clear hB4); (try clear p104); (try clear hZ2); simp only [vp_in_iff, Int32.lt_iff_toInt_lt, Int32.le_iff_toInt_le, ← Int32.toInt_inj, Int32.toInt_add, Int32.toInt_sub, Int32.toInt_mul, Int32.toInt_neg, pq_NuO, pq_NuI, pq_NuJ, pq_NuR, pq_shr6, pq_shr7, pq_shr8, lqm1, lq0, lq1, lq2048] at *; (try simp (disch := omega) only [pq_bm] at *); all_goals omega), by show zz + 0 ≤ 34 * (tn + 1); focus ((try clear p4); (try clear p4a); (try clear p23); (try clear p57); (try clear hZ); (try clear hB3); (try clear hB4); (try clear p104); (try clear hZ2); simp only [vp_in_iff, Int32.lt_iff_toInt_lt, Int32.le_iff_toInt_le, ← Int32.toInt_inj, Int32.toInt_add, Int32.toInt_sub, Int32.toInt_mul, Int32.toInt_neg, pq_NuO, pq_NuI, pq_NuJ, pq_NuR, pq_shr6, pq_shr7, pq_shr8, lqm1, lq0, lq1, lq2048] at *; (try simp (disch := omega) only [pq_bm] at *); all_goals omega)⟩ dX6_readTape_93 (fun v93 S93 w93 => ?_)
                · exact haL
                · exact hB3.h2
                obtain ⟨u93, y93, rfl, hy93⟩ := w93
                rw [u93]
                rw [u93] at hy93
                refine pq_aload_n F dX6_readTape_96 rfl rfl ?_
                refine pq_aload_n F dX6_readTape_97 rfl rfl ?_
                refine pq_get F haL (by decide) lk_X6_17 hB3.e3 dX6_readTape_98 ?_
                refine pq_callV (As := [_]) F (k_X6_hereQ l D cy _ _ ?_ _ ?_ _ (hB3).e6 hb3.1 hb3.2.1 ((hB3).q (Int.le_refl _))) ml_X6_59 haL (by decide) rfl (Nat.le_of_ble_eq_true rfl) ⟨Nat.le_of_ble_eq_true rfl, Nat.le_of_ble_eq_true rfl⟩ ⟨by show cc + 0 + 0 ≤ 6 * (tn + 1); focus ((try clear p4); (try clear p4a); (try clear p23); (try clear p57); (try clear hZ); (try clear hB3); (try clear hB4); (try clear p104); (try clear hZ2); simp only [vp_in_iff, Int32.lt_iff_toInt_lt, Int32.le_iff_toInt_le, ← Int32.toInt_inj, Int32.toInt_add, Int32.toInt_sub, Int32.toInt_mul, Int32.toInt_neg, pq_NuO, pq_NuI, pq_NuJ, pq_NuR, pq_shr6, pq_shr7, pq_shr8, lqm1, lq0, lq1, lq2048] at *; (try simp (disch := omega) only [pq_bm] at *); all_goals omega), by show zz + 0 + 0 ≤ 34 * (tn + 1); focus ((try clear p4); (try clear p4a); (try clear p23); (try clear p57); (try clear hZ); (try clear hB3); (try clear hB4); (try clear p104); (try clear hZ2); simp only [vp_in_iff, Int32.lt_iff_toInt_lt, Int32.le_iff_toInt_le, ← Int32.toInt_inj, Int32.toInt_add, Int32.toInt_sub, Int32.toInt_mul, Int32.toInt_neg, pq_NuO, pq_NuI, pq_NuJ, pq_NuR, pq_shr6, pq_shr7, pq_shr8, lqm1, lq0, lq1, lq2048] at *; (try simp (disch := omega) only [pq_bm] at *); all_goals omega)⟩ dX6_readTape_101 (fun v101 S101 w101 => ?_)
                · exact haL
                · exact hB3.h3
                obtain ⟨u101, y101, rfl, hy101⟩ := w101
                rw [u101]
                rw [u101] at hy101
                refine pq_callV (As := [_]) F (k_X2_addChoice l D cy _ _ ?_ _ ?_) ml_X6_63 hy93 (by decide) rfl (Nat.le_of_ble_eq_true rfl) ⟨Nat.le_of_ble_eq_true rfl, Nat.le_of_ble_eq_true rfl⟩ ⟨by show cc + 0 + 0 + 0 ≤ 6 * (tn + 1); focus ((try clear p4); (try clear p4a); (try clear p23); (try clear p57); (try clear hZ); (try clear hB3); (try clear hB4); (try clear p104); (try clear hZ2); simp only [vp_in_iff, Int32.lt_iff_toInt_lt, Int32.le_iff_toInt_le, ← Int32.toInt_inj, Int32.toInt_add, Int32.toInt_sub, Int32.toInt_mul, Int32.toInt_neg, pq_NuO, pq_NuI, pq_NuJ, pq_NuR, pq_shr6, pq_shr7, pq_shr8, lqm1, lq0, lq1, lq2048] at *; (try simp (disch := omega) only [pq_bm] at *); all_goals omega), by show zz + 0 + 0 + 0 ≤ 34 * (tn + 1); focus ((try clear p4); (try clear p4a); (try clear p23); (try clear p57); (try clear hZ); (try clear hB3); (try clear hB4); (try clear p104); (try clear hZ2); simp only [vp_in_iff, Int32.lt_iff_toInt_lt, Int32.le_iff_toInt_le, ← Int32.toInt_inj, Int32.toInt_add, Int32.toInt_sub, Int32.toInt_mul, Int32.toInt_neg, pq_NuO, pq_NuI, pq_NuJ, pq_NuR, pq_shr6, pq_shr7, pq_shr8, lqm1, lq0, lq1, lq2048] at *; (try simp (disch := omega) only [pq_bm] at *); all_goals omega)⟩ dX6_readTape_104 (fun v104 S104 w104 => ?_)
                · exact hy93
                · exact hy101
                obtain ⟨rfl, hF104⟩ := w104
                have haL_104 := (hF104.1 _ _ haL (by decide)).1
                have hz_104 := (hF104.1 _ _ hB3.h2 (by decide)).1
                have ec104_2_haL_104 := hF104.O haL (by decide) (by decide) hB3.e2
                have hz_104z := (hF104.1 _ _ hB3.h3 (by decide)).1
                have ec104_3_haL_104 := hF104.O haL (by decide) (by decide) hB3.e3
                have hz_104zz := (hF104.1 _ _ hB3.h0 (by decide)).1
                have ec104_0_haL_104 := hF104.O haL (by decide) (by decide) hB3.e0
                have ec104_5_haL_104 := hF104.O haL (by decide) (by decide) hB3.e5
                have ec104_6_haL_104 := hF104.O haL (by decide) (by decide) hB3.e6
                have ec104_7_haL_104 := hF104.O haL (by decide) (by decide) hB3.e7
                have ec104_1_hz_104zz := hF104.O hB3.h0 (by decide) (by decide) hB3.et
                refine pq_aload_n F dX6_readTape_107 rfl rfl ?_
                refine pq_getR F haL_104 (by decide) lk_X6_29 rfl dX6_readTape_108 (fun r108 e108 h108 => ?_)
                refine pq_getR F h108 (by decide) lk_X6_67 rfl dX6_readTape_111 (fun r111 e111 h111 => ?_)
                refine pq_aload_n F dX6_readTape_114 rfl rfl ?_
                refine pq_aload_n F dX6_readTape_115 rfl rfl ?_
                refine pq_get F haL_104 (by decide) lk_X6_11 ec104_2_haL_104 dX6_readTape_116 ?_
                refine pq_callV (As := [_]) F (k_X6_hereC l D cy _ _ ?_ _ ?_ _ ((hB3.fr hF104 (by decide))).e6 hb3.1 hb3.2.1 (((hB3.fr hF104 (by decide))).c (Int.le_refl _))) ml_X6_59 haL_104 (by decide) rfl (Nat.le_of_ble_eq_true rfl) ⟨Nat.le_of_ble_eq_true rfl, Nat.le_of_ble_eq_true rfl⟩ ⟨by show cc + 0 + 0 + 0 + 0 ≤ 6 * (tn + 1); focus ((try clear p4); (try clear p4a); (try clear p23); (try clear p57); (try clear hZ); (try clear hB3); (try clear hB4); (try clear p104); (try clear hZ2); simp only [vp_in_iff, Int32.lt_iff_toInt_lt, Int32.le_iff_toInt_le, ← Int32.toInt_inj, Int32.toInt_add, Int32.toInt_sub, Int32.toInt_mul, Int32.toInt_neg, pq_NuO, pq_NuI, pq_NuJ, pq_NuR, pq_shr6, pq_shr7, pq_shr8, lqm1, lq0, lq1, lq2048] at *; (try simp (disch := omega) only [pq_bm] at *); all_goals omega), by show zz + 0 + 0 + 0 + 0 ≤ 34 * (tn + 1); focus ((try clear p4); (try clear p4a); (try clear p23); (try clear p57); (try clear hZ); (try clear hB3); (try clear hB4); (try clear p104); (try clear hZ2); simp only [vp_in_iff, Int32.lt_iff_toInt_lt, Int32.le_iff_toInt_le, ← Int32.toInt_inj, Int32.toInt_add, Int32.toInt_sub, Int32.toInt_mul, Int32.toInt_neg, pq_NuO, pq_NuI, pq_NuJ, pq_NuR, pq_shr6, pq_shr7, pq_shr8, lqm1, lq0, lq1, lq2048] at *; (try simp (disch := omega) only [pq_bm] at *); all_goals omega)⟩ dX6_readTape_119 (fun v119 S119 w119 => ?_)
                · exact haL_104
                · exact hz_104
                obtain ⟨u119, y119, rfl, hy119⟩ := w119
                rw [u119]
                rw [u119] at hy119
                refine pq_callV (As := [_]) F (k_X2_become l D cy _ _ ?_ _ ?_) ml_X6_70 h111 (by decide) rfl (Nat.le_of_ble_eq_true rfl) ⟨Nat.le_of_ble_eq_true rfl, Nat.le_of_ble_eq_true rfl⟩ ⟨by show cc + 0 + 0 + 0 + 0 + 0 ≤ 6 * (tn + 1); focus ((try clear p4); (try clear p4a); (try clear p23); (try clear p57); (try clear hZ); (try clear hB3); (try clear hB4); (try clear p104); (try clear hZ2); simp only [vp_in_iff, Int32.lt_iff_toInt_lt, Int32.le_iff_toInt_le, ← Int32.toInt_inj, Int32.toInt_add, Int32.toInt_sub, Int32.toInt_mul, Int32.toInt_neg, pq_NuO, pq_NuI, pq_NuJ, pq_NuR, pq_shr6, pq_shr7, pq_shr8, lqm1, lq0, lq1, lq2048] at *; (try simp (disch := omega) only [pq_bm] at *); all_goals omega), by show zz + 0 + 0 + 0 + 0 + 0 ≤ 34 * (tn + 1); focus ((try clear p4); (try clear p4a); (try clear p23); (try clear p57); (try clear hZ); (try clear hB3); (try clear hB4); (try clear p104); (try clear hZ2); simp only [vp_in_iff, Int32.lt_iff_toInt_lt, Int32.le_iff_toInt_le, ← Int32.toInt_inj, Int32.toInt_add, Int32.toInt_sub, Int32.toInt_mul, Int32.toInt_neg, pq_NuO, pq_NuI, pq_NuJ, pq_NuR, pq_shr6, pq_shr7, pq_shr8, lqm1, lq0, lq1, lq2048] at *; (try simp (disch := omega) only [pq_bm] at *); all_goals omega)⟩ dX6_readTape_122 (fun v122 S122 w122 => ?_)
                · exact h111
                · exact hy119
                obtain ⟨rfl, hF122⟩ := w122
                have haL_122 := (hF122.1 _ _ haL_104 (by decide)).1
                have hz_122 := (hF122.1 _ _ hz_104 (by decide)).1
                have ec122_2_haL_122 := hF122.O haL_104 (by decide) (by decide) ec104_2_haL_104
                have hz_104z_122 := (hF122.1 _ _ hz_104z (by decide)).1
                have ec122_3_haL_122 := hF122.O haL_104 (by decide) (by decide) ec104_3_haL_104
                have hz_104zz_122 := (hF122.1 _ _ hz_104zz (by decide)).1
                have ec122_0_haL_122 := hF122.O haL_104 (by decide) (by decide) ec104_0_haL_104
                have ec122_5_haL_122 := hF122.O haL_104 (by decide) (by decide) ec104_5_haL_104
                have ec122_6_haL_122 := hF122.O haL_104 (by decide) (by decide) ec104_6_haL_104
                have ec122_7_haL_122 := hF122.O haL_104 (by decide) (by decide) ec104_7_haL_104
                have ec122_1_hz_104zz_122 := hF122.O hz_104zz (by decide) (by decide) ec104_1_hz_104zz
                have h108_122 := (hF122.1 _ _ h108 (by decide)).1
                have ec122_1_haL_122 := hF122.O haL_104 (by decide) (by decide) e108
                have h111_122 := (hF122.1 _ _ h111 (by decide)).1
                have ec122_2_h108_122 := hF122.O h108 (by decide) (by decide) e111
                refine pq_aload_n F dX6_readTape_125 rfl rfl ?_
                refine pq_get F haL_122 (by decide) lk_X6_42 ec122_7_haL_122 dX6_readTape_126 ?_
                exact pq_iret F hr hlk hA (by focus ((try clear p4); (try clear p4a); (try clear p23); (try clear p57); (try clear hZ); (try clear hB3); (try clear hB4); (try clear p104); (try clear hZ2); simp only [vp_in_iff, Int32.lt_iff_toInt_lt, Int32.le_iff_toInt_le, ← Int32.toInt_inj, Int32.toInt_add, Int32.toInt_sub, Int32.toInt_mul, Int32.toInt_neg, pq_NuO, pq_NuI, pq_NuJ, pq_NuR, pq_shr6, pq_shr7, pq_shr8, lqm1, lq0, lq1, lq2048] at *; (try simp (disch := omega) only [pq_bm] at *); all_goals omega)) (by focus ((try clear p4); (try clear p4a); (try clear p23); (try clear p57); (try clear hZ); (try clear hB3); (try clear hB4); (try clear p104); (try clear hZ2); simp only [vp_in_iff, Int32.lt_iff_toInt_lt, Int32.le_iff_toInt_le, ← Int32.toInt_inj, Int32.toInt_add, Int32.toInt_sub, Int32.toInt_mul, Int32.toInt_neg, pq_NuO, pq_NuI, pq_NuJ, pq_NuR, pq_shr6, pq_shr7, pq_shr8, lqm1, lq0, lq1, lq2048] at *; (try simp (disch := omega) only [pq_bm] at *); all_goals omega)) (⟨((hF.cm hF104 (by decide)).cm hF122 (by decide)), _, rfl, fun z i hi => (by have z2 := hF.R htk (by decide); have z3 := hF104.R z2 (by decide); exact (congrFun (hF122.2.2 tk 194 z3 (by decide) (by decide)).2.1 i).trans ((congrFun (hF104.2.2 tk 194 z2 (by decide) (by decide)).2.1 i).trans (hZ z i hi)))⟩) dX6_readTape_129
              · skip
                refine pq_aload_n F dX6_readTape_80 rfl rfl ?_
                refine pq_aload_n F dX6_readTape_81 rfl rfl ?_
                refine pq_get F haL (by decide) lk_X6_38 hB3.e5 dX6_readTape_82 ?_
                refine pq_putI F haL (by decide) lp_X6_42 rfl (pq_any1 _) (pq_any2 _) dX6_readTape_85 ?_
                refine pq_aload_n F dX6_readTape_88 rfl rfl ?_
                refine pq_aload_n F dX6_readTape_89 rfl rfl ?_
                refine pq_get F haL (by decide) lk_X6_11 (pq_kp hB3.e2 (by decide)) dX6_readTape_90 ?_
                refine pq_callV (As := [_]) F (k_X6_hereC l D cy _ _ ?_ _ ?_ _ (hB3.p7).e6 hb3.1 hb3.2.1 ((hB3.p7).c (Int.le_refl _))) ml_X6_59 haL (by decide) rfl (Nat.le_of_ble_eq_true rfl) ⟨Nat.le_of_ble_eq_true rfl, Nat.le_of_ble_eq_true rfl⟩ ⟨by show cc + 0 ≤ 6 * (tn + 1); focus ((try clear p4); (try clear p4a); (try clear p23); (try clear p57); (try clear hZ); (try clear hB3); (try clear hB4); (try clear p104); (try clear hZ2); simp only [vp_in_iff, Int32.lt_iff_toInt_lt, Int32.le_iff_toInt_le, ← Int32.toInt_inj, Int32.toInt_add, Int32.toInt_sub, Int32.toInt_mul, Int32.toInt_neg, pq_NuO, pq_NuI, pq_NuJ, pq_NuR, pq_shr6, pq_shr7, pq_shr8, lqm1, lq0, lq1, lq2048] at *; (try simp (disch := omega) only [pq_bm] at *); all_goals omega), by show zz + 0 ≤ 34 * (tn + 1); focus ((try clear p4); (try clear p4a); (try clear p23); (try clear p57); (try clear hZ); (try clear hB3); (try clear hB4); (try clear p104); (try clear hZ2); simp only [vp_in_iff, Int32.lt_iff_toInt_lt, Int32.le_iff_toInt_le, ← Int32.toInt_inj, Int32.toInt_add, Int32.toInt_sub, Int32.toInt_mul, Int32.toInt_neg, pq_NuO, pq_NuI, pq_NuJ, pq_NuR, pq_shr6, pq_shr7, pq_shr8, lqm1, lq0, lq1, lq2048] at *; (try simp (disch := omega) only [pq_bm] at *); all_goals omega)⟩ dX6_readTape_93 (fun v93 S93 w93 => ?_)
                · exact haL
                · exact hB3.h2
                obtain ⟨u93, y93, rfl, hy93⟩ := w93
                rw [u93]
                rw [u93] at hy93
                refine pq_aload_n F dX6_readTape_96 rfl rfl ?_
                refine pq_aload_n F dX6_readTape_97 rfl rfl ?_
                refine pq_get F haL (by decide) lk_X6_17 (pq_kp hB3.e3 (by decide)) dX6_readTape_98 ?_
                refine pq_callV (As := [_]) F (k_X6_hereQ l D cy _ _ ?_ _ ?_ _ (hB3.p7).e6 hb3.1 hb3.2.1 ((hB3.p7).q (Int.le_refl _))) ml_X6_59 haL (by decide) rfl (Nat.le_of_ble_eq_true rfl) ⟨Nat.le_of_ble_eq_true rfl, Nat.le_of_ble_eq_true rfl⟩ ⟨by show cc + 0 + 0 ≤ 6 * (tn + 1); focus ((try clear p4); (try clear p4a); (try clear p23); (try clear p57); (try clear hZ); (try clear hB3); (try clear hB4); (try clear p104); (try clear hZ2); simp only [vp_in_iff, Int32.lt_iff_toInt_lt, Int32.le_iff_toInt_le, ← Int32.toInt_inj, Int32.toInt_add, Int32.toInt_sub, Int32.toInt_mul, Int32.toInt_neg, pq_NuO, pq_NuI, pq_NuJ, pq_NuR, pq_shr6, pq_shr7, pq_shr8, lqm1, lq0, lq1, lq2048] at *; (try simp (disch := omega) only [pq_bm] at *); all_goals omega), by show zz + 0 + 0 ≤ 34 * (tn + 1); focus ((try clear p4); (try clear p4a); (try clear p23); (try clear p57); (try clear hZ); (try clear hB3); (try clear hB4); (try clear p104); (try clear hZ2); simp only [vp_in_iff, Int32.lt_iff_toInt_lt, Int32.le_iff_toInt_le, ← Int32.toInt_inj, Int32.toInt_add, Int32.toInt_sub, Int32.toInt_mul, Int32.toInt_neg, pq_NuO, pq_NuI, pq_NuJ, pq_NuR, pq_shr6, pq_shr7, pq_shr8, lqm1, lq0, lq1, lq2048] at *; (try simp (disch := omega) only [pq_bm] at *); all_goals omega)⟩ dX6_readTape_101 (fun v101 S101 w101 => ?_)
                · exact haL
                · exact hB3.h3
                obtain ⟨u101, y101, rfl, hy101⟩ := w101
                rw [u101]
                rw [u101] at hy101
                refine pq_callV (As := [_]) F (k_X2_addChoice l D cy _ _ ?_ _ ?_) ml_X6_63 hy93 (by decide) rfl (Nat.le_of_ble_eq_true rfl) ⟨Nat.le_of_ble_eq_true rfl, Nat.le_of_ble_eq_true rfl⟩ ⟨by show cc + 0 + 0 + 0 ≤ 6 * (tn + 1); focus ((try clear p4); (try clear p4a); (try clear p23); (try clear p57); (try clear hZ); (try clear hB3); (try clear hB4); (try clear p104); (try clear hZ2); simp only [vp_in_iff, Int32.lt_iff_toInt_lt, Int32.le_iff_toInt_le, ← Int32.toInt_inj, Int32.toInt_add, Int32.toInt_sub, Int32.toInt_mul, Int32.toInt_neg, pq_NuO, pq_NuI, pq_NuJ, pq_NuR, pq_shr6, pq_shr7, pq_shr8, lqm1, lq0, lq1, lq2048] at *; (try simp (disch := omega) only [pq_bm] at *); all_goals omega), by show zz + 0 + 0 + 0 ≤ 34 * (tn + 1); focus ((try clear p4); (try clear p4a); (try clear p23); (try clear p57); (try clear hZ); (try clear hB3); (try clear hB4); (try clear p104); (try clear hZ2); simp only [vp_in_iff, Int32.lt_iff_toInt_lt, Int32.le_iff_toInt_le, ← Int32.toInt_inj, Int32.toInt_add, Int32.toInt_sub, Int32.toInt_mul, Int32.toInt_neg, pq_NuO, pq_NuI, pq_NuJ, pq_NuR, pq_shr6, pq_shr7, pq_shr8, lqm1, lq0, lq1, lq2048] at *; (try simp (disch := omega) only [pq_bm] at *); all_goals omega)⟩ dX6_readTape_104 (fun v104 S104 w104 => ?_)
                · exact hy93
                · exact hy101
                obtain ⟨rfl, hF104⟩ := w104
                have haL_104 := (hF104.1 _ _ haL (by decide)).1
                have hz_104 := (hF104.1 _ _ hB3.h2 (by decide)).1
                have ec104_2_haL_104 := hF104.O haL (by decide) (by decide) (pq_kp hB3.e2 (by decide))
                have hz_104z := (hF104.1 _ _ hB3.h3 (by decide)).1
                have ec104_3_haL_104 := hF104.O haL (by decide) (by decide) (pq_kp hB3.e3 (by decide))
                have hz_104zz := (hF104.1 _ _ hB3.h0 (by decide)).1
                have ec104_0_haL_104 := hF104.O haL (by decide) (by decide) (pq_kp hB3.e0 (by decide))
                have ec104_5_haL_104 := hF104.O haL (by decide) (by decide) (pq_kp hB3.e5 (by decide))
                have ec104_6_haL_104 := hF104.O haL (by decide) (by decide) (pq_kp hB3.e6 (by decide))
                have ec104_1_hz_104zz := hF104.O hB3.h0 (by decide) (by decide) (pq_ko hB3.et hB3.h0 haL (by decide))
                have ec104_7_haL_104 := hF104.O haL (by decide) (by decide) pq_ks
                refine pq_aload_n F dX6_readTape_107 rfl rfl ?_
                refine pq_getR F haL_104 (by decide) lk_X6_29 rfl dX6_readTape_108 (fun r108 e108 h108 => ?_)
                refine pq_getR F h108 (by decide) lk_X6_67 rfl dX6_readTape_111 (fun r111 e111 h111 => ?_)
                refine pq_aload_n F dX6_readTape_114 rfl rfl ?_
                refine pq_aload_n F dX6_readTape_115 rfl rfl ?_
                refine pq_get F haL_104 (by decide) lk_X6_11 ec104_2_haL_104 dX6_readTape_116 ?_
                refine pq_callV (As := [_]) F (k_X6_hereC l D cy _ _ ?_ _ ?_ _ ((hB3.p7.fr hF104 (by decide))).e6 hb3.1 hb3.2.1 (((hB3.p7.fr hF104 (by decide))).c (Int.le_refl _))) ml_X6_59 haL_104 (by decide) rfl (Nat.le_of_ble_eq_true rfl) ⟨Nat.le_of_ble_eq_true rfl, Nat.le_of_ble_eq_true rfl⟩ ⟨by show cc + 0 + 0 + 0 + 0 ≤ 6 * (tn + 1); focus ((try clear p4); (try clear p4a); (try clear p23); (try clear p57); (try clear hZ); (try clear hB3); (try clear hB4); (try clear p104); (try clear hZ2); simp only [vp_in_iff, Int32.lt_iff_toInt_lt, Int32.le_iff_toInt_le, ← Int32.toInt_inj, Int32.toInt_add, Int32.toInt_sub, Int32.toInt_mul, Int32.toInt_neg, pq_NuO, pq_NuI, pq_NuJ, pq_NuR, pq_shr6, pq_shr7, pq_shr8, lqm1, lq0, lq1, lq2048] at *; (try simp (disch := omega) only [pq_bm] at *); all_goals omega), by show zz + 0 + 0 + 0 + 0 ≤ 34 * (tn + 1); focus ((try clear p4); (try clear p4a); (try clear p23); (try clear p57); (try clear hZ); (try clear hB3); (try clear hB4); (try clear p104); (try clear hZ2); simp only [vp_in_iff, Int32.lt_iff_toInt_lt, Int32.le_iff_toInt_le, ← Int32.toInt_inj, Int32.toInt_add, Int32.toInt_sub, Int32.toInt_mul, Int32.toInt_neg, pq_NuO, pq_NuI, pq_NuJ, pq_NuR, pq_shr6, pq_shr7, pq_shr8, lqm1, lq0, lq1, lq2048] at *; (try simp (disch := omega) only [pq_bm] at *); all_goals omega)⟩ dX6_readTape_119 (fun v119 S119 w119 => ?_)
                · exact haL_104
                · exact hz_104
                obtain ⟨u119, y119, rfl, hy119⟩ := w119
                rw [u119]
                rw [u119] at hy119
                refine pq_callV (As := [_]) F (k_X2_become l D cy _ _ ?_ _ ?_) ml_X6_70 h111 (by decide) rfl (Nat.le_of_ble_eq_true rfl) ⟨Nat.le_of_ble_eq_true rfl, Nat.le_of_ble_eq_true rfl⟩ ⟨by show cc + 0 + 0 + 0 + 0 + 0 ≤ 6 * (tn + 1); focus ((try clear p4); (try clear p4a); (try clear p23); (try clear p57); (try clear hZ); (try clear hB3); (try clear hB4); (try clear p104); (try clear hZ2); simp only [vp_in_iff, Int32.lt_iff_toInt_lt, Int32.le_iff_toInt_le, ← Int32.toInt_inj, Int32.toInt_add, Int32.toInt_sub, Int32.toInt_mul, Int32.toInt_neg, pq_NuO, pq_NuI, pq_NuJ, pq_NuR, pq_shr6, pq_shr7, pq_shr8, lqm1, lq0, lq1, lq2048] at *; (try simp (disch := omega) only [pq_bm] at *); all_goals omega), by show zz + 0 + 0 + 0 + 0 + 0 ≤ 34 * (tn + 1); focus ((try clear p4); (try clear p4a); (try clear p23); (try clear p57); (try clear hZ); (try clear hB3); (try clear hB4); (try clear p104); (try clear hZ2); simp only [vp_in_iff, Int32.lt_iff_toInt_lt, Int32.le_iff_toInt_le, ← Int32.toInt_inj, Int32.toInt_add, Int32.toInt_sub, Int32.toInt_mul, Int32.toInt_neg, pq_NuO, pq_NuI, pq_NuJ, pq_NuR, pq_shr6, pq_shr7, pq_shr8, lqm1, lq0, lq1, lq2048] at *; (try simp (disch := omega) only [pq_bm] at *); all_goals omega)⟩ dX6_readTape_122 (fun v122 S122 w122 => ?_)
                · exact h111
                · exact hy119
                obtain ⟨rfl, hF122⟩ := w122
                have haL_122 := (hF122.1 _ _ haL_104 (by decide)).1
                have hz_122 := (hF122.1 _ _ hz_104 (by decide)).1
                have ec122_2_haL_122 := hF122.O haL_104 (by decide) (by decide) ec104_2_haL_104
                have hz_104z_122 := (hF122.1 _ _ hz_104z (by decide)).1
                have ec122_3_haL_122 := hF122.O haL_104 (by decide) (by decide) ec104_3_haL_104
                have hz_104zz_122 := (hF122.1 _ _ hz_104zz (by decide)).1
                have ec122_0_haL_122 := hF122.O haL_104 (by decide) (by decide) ec104_0_haL_104
                have ec122_5_haL_122 := hF122.O haL_104 (by decide) (by decide) ec104_5_haL_104
                have ec122_6_haL_122 := hF122.O haL_104 (by decide) (by decide) ec104_6_haL_104
                have ec122_1_hz_104zz_122 := hF122.O hz_104zz (by decide) (by decide) ec104_1_hz_104zz
                have ec122_7_haL_122 := hF122.O haL_104 (by decide) (by decide) ec104_7_haL_104
                have h108_122 := (hF122.1 _ _ h108 (by decide)).1
                have ec122_1_haL_122 := hF122.O haL_104 (by decide) (by decide) e108
                have h111_122 := (hF122.1 _ _ h111 (by decide)).1
                have ec122_2_h108_122 := hF122.O h108 (by decide) (by decide) e111
                refine pq_aload_n F dX6_readTape_125 rfl rfl ?_
                refine pq_get F haL_122 (by decide) lk_X6_42 ec122_7_haL_122 dX6_readTape_126 ?_
                exact pq_iret F hr hlk hA (by focus ((try clear p4); (try clear p4a); (try clear p23); (try clear p57); (try clear hZ); (try clear hB3); (try clear hB4); (try clear p104); (try clear hZ2); simp only [vp_in_iff, Int32.lt_iff_toInt_lt, Int32.le_iff_toInt_le, ← Int32.toInt_inj, Int32.toInt_add, Int32.toInt_sub, Int32.toInt_mul, Int32.toInt_neg, pq_NuO, pq_NuI, pq_NuJ, pq_NuR, pq_shr6, pq_shr7, pq_shr8, lqm1, lq0, lq1, lq2048] at *; (try simp (disch := omega) only [pq_bm] at *); all_goals omega)) (by focus ((try clear p4); (try clear p4a); (try clear p23); (try clear p57); (try clear hZ); (try clear hB3); (try clear hB4); (try clear p104); (try clear hZ2); simp only [vp_in_iff, Int32.lt_iff_toInt_lt, Int32.le_iff_toInt_le, ← Int32.toInt_inj, Int32.toInt_add, Int32.toInt_sub, Int32.toInt_mul, Int32.toInt_neg, pq_NuO, pq_NuI, pq_NuJ, pq_NuR, pq_shr6, pq_shr7, pq_shr8, lqm1, lq0, lq1, lq2048] at *; (try simp (disch := omega) only [pq_bm] at *); all_goals omega)) (⟨(((hF.uO haL (by decide)).cm hF104 (by decide)).cm hF122 (by decide)), _, rfl, fun z i hi => (by have z2 := hF.R htk (by decide); have z3 := hF104.R z2 (by decide); exact (congrFun (hF122.2.2 tk 194 z3 (by decide) (by decide)).2.1 i).trans ((congrFun (hF104.2.2 tk 194 z2 (by decide) (by decide)).2.1 i).trans (hZ z i hi)))⟩) dX6_readTape_129
          · skip
            refine pq_aload_n F dX6_readTape_56 rfl rfl ?_
            refine pq_callV (As := []) F (k_X6_readNext l D cy _ _ ?_ _ _ _ _ _ _ _ hB3 ?_ ?_) ml_X6_56 haL (by decide) rfl (Nat.le_of_ble_eq_true rfl) ⟨Nat.le_of_ble_eq_true rfl, Nat.le_of_ble_eq_true rfl⟩ ⟨by show cc + 6 ≤ 6 * (tn + 1); focus ((try clear p4); (try clear p4a); (try clear p23); (try clear p57); (try clear hZ); (try clear hB3); (try clear hB4); (try clear p104); (try clear hZ2); simp only [vp_in_iff, Int32.lt_iff_toInt_lt, Int32.le_iff_toInt_le, ← Int32.toInt_inj, Int32.toInt_add, Int32.toInt_sub, Int32.toInt_mul, Int32.toInt_neg, pq_NuO, pq_NuI, pq_NuJ, pq_NuR, pq_shr6, pq_shr7, pq_shr8, lqm1, lq0, lq1, lq2048] at *; (try simp (disch := omega) only [pq_bm] at *); all_goals omega), by show zz + 34 ≤ 34 * (tn + 1); focus ((try clear p4); (try clear p4a); (try clear p23); (try clear p57); (try clear hZ); (try clear hB3); (try clear hB4); (try clear p104); (try clear hZ2); simp only [vp_in_iff, Int32.lt_iff_toInt_lt, Int32.le_iff_toInt_le, ← Int32.toInt_inj, Int32.toInt_add, Int32.toInt_sub, Int32.toInt_mul, Int32.toInt_neg, pq_NuO, pq_NuI, pq_NuJ, pq_NuR, pq_shr6, pq_shr7, pq_shr8, lqm1, lq0, lq1, lq2048] at *; (try simp (disch := omega) only [pq_bm] at *); all_goals omega)⟩ dX6_readTape_57 (fun v57 S57 w57 => ?_)
            · exact haL
            · focus ((try clear p4); (try clear p4a); (try clear p23); (try clear p57); (try clear hZ); (try clear hB3); (try clear hB4); (try clear p104); (try clear hZ2); simp only [vp_in_iff, Int32.lt_iff_toInt_lt, Int32.le_iff_toInt_le, ← Int32.toInt_inj, Int32.toInt_add, Int32.toInt_sub, Int32.toInt_mul, Int32.toInt_neg, pq_NuO, pq_NuI, pq_NuJ, pq_NuR, pq_shr6, pq_shr7, pq_shr8, lqm1, lq0, lq1, lq2048] at *; (try simp (disch := omega) only [pq_bm] at *); all_goals omega)
            · focus ((try clear p4); (try clear p4a); (try clear p23); (try clear p57); (try clear hZ); (try clear hB3); (try clear hB4); (try clear p104); (try clear hZ2); simp only [vp_in_iff, Int32.lt_iff_toInt_lt, Int32.le_iff_toInt_le, ← Int32.toInt_inj, Int32.toInt_add, Int32.toInt_sub, Int32.toInt_mul, Int32.toInt_neg, pq_NuO, pq_NuI, pq_NuJ, pq_NuR, pq_shr6, pq_shr7, pq_shr8, lqm1, lq0, lq1, lq2048] at *; (try simp (disch := omega) only [pq_bm] at *); all_goals omega)
            obtain ⟨rfl, hF57, p57⟩ := w57
            have haL_57 := (hF57.1 _ _ haL (by decide)).1
            have hz_57 := (hF57.1 _ _ hB3.h2 (by decide)).1
            have ec57_2_haL_57 := hF57.O haL (by decide) (by decide) hB3.e2
            have hz_57z := (hF57.1 _ _ hB3.h3 (by decide)).1
            have ec57_3_haL_57 := hF57.O haL (by decide) (by decide) hB3.e3
            have hz_57zz := (hF57.1 _ _ hB3.h0 (by decide)).1
            have ec57_0_haL_57 := hF57.O haL (by decide) (by decide) hB3.e0
            have ec57_1_hz_57zz := hF57.O hB3.h0 (by decide) (by decide) hB3.et
            obtain ⟨dp4, at4, br4, hB4, hq4⟩ := p57
            have hb4 := hB4.b
            refine pq_iinc (v := 1) F dX6_readTape_60 rfl (by decide) (by decide) ?_
            refine pq_goto (tgt := 28) F dX6_readTape_63 (by decide) ?_
            exact pq_fgm [true, true] (ih _ _ _ _ _ _ _ (hF.cm hF57 (by decide)) hB4 (fun z => absurd z (by focus ((try clear p4); (try clear p4a); (try clear p23); (try clear p57); (try clear hZ); (try clear hB3); (try clear hB4); (try clear p104); (try clear hZ2); simp only [vp_in_iff, Int32.lt_iff_toInt_lt, Int32.le_iff_toInt_le, ← Int32.toInt_inj, Int32.toInt_add, Int32.toInt_sub, Int32.toInt_mul, Int32.toInt_neg, pq_NuO, pq_NuI, pq_NuJ, pq_NuR, pq_shr6, pq_shr7, pq_shr8, lqm1, lq0, lq1, lq2048] at *; (try simp (disch := omega) only [pq_bm] at *); all_goals omega))) (by focus ((try clear p4); (try clear p4a); (try clear p23); (try clear p57); (try clear hZ); (try clear hB3); (try clear hB4); (try clear p104); (try clear hZ2); simp only [vp_in_iff, Int32.lt_iff_toInt_lt, Int32.le_iff_toInt_le, ← Int32.toInt_inj, Int32.toInt_add, Int32.toInt_sub, Int32.toInt_mul, Int32.toInt_neg, pq_NuO, pq_NuI, pq_NuJ, pq_NuR, pq_shr6, pq_shr7, pq_shr8, lqm1, lq0, lq1, lq2048] at *; (try simp (disch := omega) only [pq_bm] at *); all_goals omega)) (by focus ((try clear p4); (try clear p4a); (try clear p23); (try clear p57); (try clear hZ); (try clear hB3); (try clear hB4); (try clear p104); (try clear hZ2); simp only [vp_in_iff, Int32.lt_iff_toInt_lt, Int32.le_iff_toInt_le, ← Int32.toInt_inj, Int32.toInt_add, Int32.toInt_sub, Int32.toInt_mul, Int32.toInt_neg, pq_NuO, pq_NuI, pq_NuJ, pq_NuR, pq_shr6, pq_shr7, pq_shr8, lqm1, lq0, lq1, lq2048] at *; (try simp (disch := omega) only [pq_bm] at *); all_goals omega)) (by focus ((try clear p4); (try clear p4a); (try clear p23); (try clear p57); (try clear hZ); (try clear hB3); (try clear hB4); (try clear p104); (try clear hZ2); simp only [vp_in_iff, Int32.lt_iff_toInt_lt, Int32.le_iff_toInt_le, ← Int32.toInt_inj, Int32.toInt_add, Int32.toInt_sub, Int32.toInt_mul, Int32.toInt_neg, pq_NuO, pq_NuI, pq_NuJ, pq_NuR, pq_shr6, pq_shr7, pq_shr8, lqm1, lq0, lq1, lq2048] at *; (try simp (disch := omega) only [pq_bm] at *); all_goals omega)) (by focus ((try clear p4); (try clear p4a); (try clear p23); (try clear p57); (try clear hZ); (try clear hB3); (try clear hB4); (try clear p104); (try clear hZ2); simp only [vp_in_iff, Int32.lt_iff_toInt_lt, Int32.le_iff_toInt_le, ← Int32.toInt_inj, Int32.toInt_add, Int32.toInt_sub, Int32.toInt_mul, Int32.toInt_neg, pq_NuO, pq_NuI, pq_NuJ, pq_NuR, pq_shr6, pq_shr7, pq_shr8, lqm1, lq0, lq1, lq2048] at *; (try simp (disch := omega) only [pq_bm] at *); all_goals omega)) (by focus ((try clear p4); (try clear p4a); (try clear p23); (try clear p57); (try clear hZ); (try clear hB3); (try clear hB4); (try clear p104); (try clear hZ2); simp only [vp_in_iff, Int32.lt_iff_toInt_lt, Int32.le_iff_toInt_le, ← Int32.toInt_inj, Int32.toInt_add, Int32.toInt_sub, Int32.toInt_mul, Int32.toInt_neg, pq_NuO, pq_NuI, pq_NuJ, pq_NuR, pq_shr6, pq_shr7, pq_shr8, lqm1, lq0, lq1, lq2048] at *; (try simp (disch := omega) only [pq_bm] at *); all_goals omega)) (by focus ((try clear p4); (try clear p4a); (try clear p23); (try clear p57); (try clear hZ); (try clear hB3); (try clear hB4); (try clear p104); (try clear hZ2); simp only [vp_in_iff, Int32.lt_iff_toInt_lt, Int32.le_iff_toInt_le, ← Int32.toInt_inj, Int32.toInt_add, Int32.toInt_sub, Int32.toInt_mul, Int32.toInt_neg, pq_NuO, pq_NuI, pq_NuJ, pq_NuR, pq_shr6, pq_shr7, pq_shr8, lqm1, lq0, lq1, lq2048] at *; (try simp (disch := omega) only [pq_bm] at *); all_goals omega)))
  refine pq_aload_n F dX6_readTape_0 rfl rfl ?_
  refine pq_get F ha (by decide) lk_X6_29 e1 dX6_readTape_1 ?_
  refine pq_callV (As := []) F (k_X5_clear l D cy _ _ ?_ tk etk htk) ml_X6_33 h1 (by decide) rfl (Nat.le_of_ble_eq_true rfl) ⟨Nat.le_of_ble_eq_true rfl, Nat.le_of_ble_eq_true rfl⟩ ⟨by show 0 + 0 ≤ 6 * (tn + 1); omega, by show 0 + 0 ≤ 34 * (tn + 1); omega⟩ dX6_readTape_4 (fun v4 S4 w4 => ?_)
  · exact h1
  obtain ⟨rfl, hF4, p4⟩ := w4
  have ha_4 := (hF4.1 _ _ ha (by decide)).1
  have h2_4 := (hF4.1 _ _ h2 (by decide)).1
  have ec4_2_ha_4 := hF4.O ha (by decide) (by decide) e2
  have h3_4 := (hF4.1 _ _ h3 (by decide)).1
  have ec4_3_ha_4 := hF4.O ha (by decide) (by decide) e3
  have h0_4 := (hF4.1 _ _ h0 (by decide)).1
  have ec4_0_ha_4 := hF4.O ha (by decide) (by decide) e0
  have h1_4 := (hF4.1 _ _ h1 (by decide)).1
  have ec4_1_ha_4 := hF4.O ha (by decide) (by decide) e1
  refine pq_aload_n F dX6_readTape_7 rfl rfl ?_
  refine pq_iconst (v := 0) F dX6_readTape_8 (by decide) ?_
  refine pq_putI F ha_4 (by decide) lp_X6_38 rfl (pq_any1 _) (pq_any2 _) dX6_readTape_9 ?_
  refine pq_aload_n F dX6_readTape_12 rfl rfl ?_
  refine pq_iconst (v := -1) F dX6_readTape_13 (by decide) ?_
  refine pq_putI F ha_4 (by decide) lp_X6_42 rfl (pq_any1 _) (pq_any2 _) dX6_readTape_14 ?_
  refine pq_aload_n F dX6_readTape_17 rfl rfl ?_
  refine pq_iconst (v := 0) F dX6_readTape_18 (by decide) ?_
  refine pq_putI F ha_4 (by decide) lp_X6_45 rfl (by focus ((try clear p4); (try clear p4a); (try clear p23); (try clear p57); (try clear hZ); (try clear hB3); (try clear hB4); (try clear p104); (try clear hZ2); simp only [vp_in_iff, Int32.lt_iff_toInt_lt, Int32.le_iff_toInt_le, ← Int32.toInt_inj, Int32.toInt_add, Int32.toInt_sub, Int32.toInt_mul, Int32.toInt_neg, pq_NuO, pq_NuI, pq_NuJ, pq_NuR, pq_shr6, pq_shr7, pq_shr8, lqm1, lq0, lq1, lq2048] at *; (try simp (disch := omega) only [pq_bm] at *); all_goals omega)) (by focus ((try clear p4); (try clear p4a); (try clear p23); (try clear p57); (try clear hZ); (try clear hB3); (try clear hB4); (try clear p104); (try clear hZ2); simp only [vp_in_iff, Int32.lt_iff_toInt_lt, Int32.le_iff_toInt_le, ← Int32.toInt_inj, Int32.toInt_add, Int32.toInt_sub, Int32.toInt_mul, Int32.toInt_neg, pq_NuO, pq_NuI, pq_NuJ, pq_NuR, pq_shr6, pq_shr7, pq_shr8, lqm1, lq0, lq1, lq2048] at *; (try simp (disch := omega) only [pq_bm] at *); all_goals omega)) dX6_readTape_19 ?_
  refine pq_aload_n F dX6_readTape_22 rfl rfl ?_
  refine pq_callV (As := []) F (k_X6_beginLevel l D cy _ _ ?_ _ _ _ _ _ _ _ (show pq_Rd _ a ch sq tp 0 0 (-1) t ((0 : Int32).toInt - 1) from ⟨⟨ha_4, (pq_kp (pq_kp (pq_kp (hF4.O ha (by decide) (by decide) e2) (by decide)) (by decide)) (by decide)), hF4.R h2 (by decide), (pq_kp (pq_kp (pq_kp (hF4.O ha (by decide) (by decide) e3) (by decide)) (by decide)) (by decide)), hF4.R h3 (by decide), (pq_kp (pq_kp (pq_kp (hF4.O ha (by decide) (by decide) e0) (by decide)) (by decide)) (by decide)), hF4.R h0 (by decide)⟩, ⟨pq_ks, pq_kp (pq_kp pq_ks (by decide)) (by decide), pq_kp pq_ks (by decide), (pq_ko (pq_ko (pq_ko (hF4.O h0 (by decide) (by decide) et) (hF4.R h0 (by decide)) ha_4 (by decide)) (hF4.R h0 (by decide)) ha_4 (by decide)) (hF4.R h0 (by decide)) ha_4 (by decide))⟩, ⟨(by focus ((try clear p4); (try clear p4a); (try clear p23); (try clear p57); (try clear hZ); (try clear hB3); (try clear hB4); (try clear p104); (try clear hZ2); simp only [vp_in_iff, Int32.lt_iff_toInt_lt, Int32.le_iff_toInt_le, ← Int32.toInt_inj, Int32.toInt_add, Int32.toInt_sub, Int32.toInt_mul, Int32.toInt_neg, pq_NuO, pq_NuI, pq_NuJ, pq_NuR, pq_shr6, pq_shr7, pq_shr8, lqm1, lq0, lq1, lq2048] at *; (try simp (disch := omega) only [pq_bm] at *); all_goals omega)), (by focus ((try clear p4); (try clear p4a); (try clear p23); (try clear p57); (try clear hZ); (try clear hB3); (try clear hB4); (try clear p104); (try clear hZ2); simp only [vp_in_iff, Int32.lt_iff_toInt_lt, Int32.le_iff_toInt_le, ← Int32.toInt_inj, Int32.toInt_add, Int32.toInt_sub, Int32.toInt_mul, Int32.toInt_neg, pq_NuO, pq_NuI, pq_NuJ, pq_NuR, pq_shr6, pq_shr7, pq_shr8, lqm1, lq0, lq1, lq2048] at *; (try simp (disch := omega) only [pq_bm] at *); all_goals omega)), (by focus ((try clear p4); (try clear p4a); (try clear p23); (try clear p57); (try clear hZ); (try clear hB3); (try clear hB4); (try clear p104); (try clear hZ2); simp only [vp_in_iff, Int32.lt_iff_toInt_lt, Int32.le_iff_toInt_le, ← Int32.toInt_inj, Int32.toInt_add, Int32.toInt_sub, Int32.toInt_mul, Int32.toInt_neg, pq_NuO, pq_NuI, pq_NuJ, pq_NuR, pq_shr6, pq_shr7, pq_shr8, lqm1, lq0, lq1, lq2048] at *; (try simp (disch := omega) only [pq_bm] at *); all_goals omega)), (by focus ((try clear p4); (try clear p4a); (try clear p23); (try clear p57); (try clear hZ); (try clear hB3); (try clear hB4); (try clear p104); (try clear hZ2); simp only [vp_in_iff, Int32.lt_iff_toInt_lt, Int32.le_iff_toInt_le, ← Int32.toInt_inj, Int32.toInt_add, Int32.toInt_sub, Int32.toInt_mul, Int32.toInt_neg, pq_NuO, pq_NuI, pq_NuJ, pq_NuR, pq_shr6, pq_shr7, pq_shr8, lqm1, lq0, lq1, lq2048] at *; (try simp (disch := omega) only [pq_bm] at *); all_goals omega)), (by focus ((try clear p4); (try clear p4a); (try clear p23); (try clear p57); (try clear hZ); (try clear hB3); (try clear hB4); (try clear p104); (try clear hZ2); simp only [vp_in_iff, Int32.lt_iff_toInt_lt, Int32.le_iff_toInt_le, ← Int32.toInt_inj, Int32.toInt_add, Int32.toInt_sub, Int32.toInt_mul, Int32.toInt_neg, pq_NuO, pq_NuI, pq_NuJ, pq_NuR, pq_shr6, pq_shr7, pq_shr8, lqm1, lq0, lq1, lq2048] at *; (try simp (disch := omega) only [pq_bm] at *); all_goals omega)), (by focus ((try clear p4); (try clear p4a); (try clear p23); (try clear p57); (try clear hZ); (try clear hB3); (try clear hB4); (try clear p104); (try clear hZ2); simp only [vp_in_iff, Int32.lt_iff_toInt_lt, Int32.le_iff_toInt_le, ← Int32.toInt_inj, Int32.toInt_add, Int32.toInt_sub, Int32.toInt_mul, Int32.toInt_neg, pq_NuO, pq_NuI, pq_NuJ, pq_NuR, pq_shr6, pq_shr7, pq_shr8, lqm1, lq0, lq1, lq2048] at *; (try simp (disch := omega) only [pq_bm] at *); all_goals omega))⟩, fun i hi => absurd hi (by have : (0 : Int32).toInt = 0 := rfl; omega)⟩)) ml_X6_48 ha_4 (by decide) rfl (Nat.le_of_ble_eq_true rfl) ⟨Nat.le_of_ble_eq_true rfl, Nat.le_of_ble_eq_true rfl⟩ ⟨by show 0 + 0 + 6 ≤ 6 * (tn + 1); omega, by show 0 + 0 + 34 ≤ 34 * (tn + 1); omega⟩ dX6_readTape_23 (fun v23 S23 w23 => ?_)
  · exact ha_4
  obtain ⟨rfl, hF23, p23⟩ := w23
  have ha_23 := (hF23.1 _ _ ha_4 (by decide)).1
  have h2_23 := (hF23.1 _ _ h2_4 (by decide)).1
  have ec23_2_ha_23 := hF23.O ha_4 (by decide) (by decide) (pq_kp (pq_kp (pq_kp ec4_2_ha_4 (by decide)) (by decide)) (by decide))
  have h3_23 := (hF23.1 _ _ h3_4 (by decide)).1
  have ec23_3_ha_23 := hF23.O ha_4 (by decide) (by decide) (pq_kp (pq_kp (pq_kp ec4_3_ha_4 (by decide)) (by decide)) (by decide))
  have h0_23 := (hF23.1 _ _ h0_4 (by decide)).1
  have ec23_0_ha_23 := hF23.O ha_4 (by decide) (by decide) (pq_kp (pq_kp (pq_kp ec4_0_ha_4 (by decide)) (by decide)) (by decide))
  have h1_23 := (hF23.1 _ _ h1_4 (by decide)).1
  have ec23_1_ha_23 := hF23.O ha_4 (by decide) (by decide) (pq_kp (pq_kp (pq_kp ec4_1_ha_4 (by decide)) (by decide)) (by decide))
  have ec23_5_ha_23 := hF23.O ha_4 (by decide) (by decide) (pq_kp (pq_kp pq_ks (by decide)) (by decide))
  have ec23_7_ha_23 := hF23.O ha_4 (by decide) (by decide) (pq_kp pq_ks (by decide))
  have ec23_6_ha_23 := hF23.O ha_4 (by decide) (by decide) pq_ks
  have hZ0 : t.toInt = 0 → ∀ i : Nat, i < hN S tk → hJ S23 tk i = 0 := fun _ i hi => (by have z1 := p4.2 i hi; have z2 := hF4.R htk (by decide); have z3 := (hF23.2.2 tk 194 z2 (by decide) (by decide)).2.1; exact (congrFun z3 i).trans z1)
  refine pq_iconst (v := 0) F dX6_readTape_26 (by decide) ?_
  refine pq_istore_n F dX6_readTape_27 rfl (by decide) ?_
  exact pq_fgm [true, true] (L28  100000 _ _ _ _ _ _ _ (((((pq_Fr.rf.cm hF4 (by decide)).uO ha_4 (by decide)).uO ha_4 (by decide)).uO ha_4 (by decide)).cm hF23 (by decide)) p23 hZ0 (by focus ((try clear p4); (try clear p4a); (try clear p23); (try clear p57); (try clear hZ); (try clear hB3); (try clear hB4); (try clear p104); (try clear hZ2); simp only [vp_in_iff, Int32.lt_iff_toInt_lt, Int32.le_iff_toInt_le, ← Int32.toInt_inj, Int32.toInt_add, Int32.toInt_sub, Int32.toInt_mul, Int32.toInt_neg, pq_NuO, pq_NuI, pq_NuJ, pq_NuR, pq_shr6, pq_shr7, pq_shr8, lqm1, lq0, lq1, lq2048] at *; (try simp (disch := omega) only [pq_bm] at *); all_goals omega)) (by focus ((try clear p4); (try clear p4a); (try clear p23); (try clear p57); (try clear hZ); (try clear hB3); (try clear hB4); (try clear p104); (try clear hZ2); simp only [vp_in_iff, Int32.lt_iff_toInt_lt, Int32.le_iff_toInt_le, ← Int32.toInt_inj, Int32.toInt_add, Int32.toInt_sub, Int32.toInt_mul, Int32.toInt_neg, pq_NuO, pq_NuI, pq_NuJ, pq_NuR, pq_shr6, pq_shr7, pq_shr8, lqm1, lq0, lq1, lq2048] at *; (try simp (disch := omega) only [pq_bm] at *); all_goals omega)) (by focus ((try clear p4); (try clear p4a); (try clear p23); (try clear p57); (try clear hZ); (try clear hB3); (try clear hB4); (try clear p104); (try clear hZ2); simp only [vp_in_iff, Int32.lt_iff_toInt_lt, Int32.le_iff_toInt_le, ← Int32.toInt_inj, Int32.toInt_add, Int32.toInt_sub, Int32.toInt_mul, Int32.toInt_neg, pq_NuO, pq_NuI, pq_NuJ, pq_NuR, pq_shr6, pq_shr7, pq_shr8, lqm1, lq0, lq1, lq2048] at *; (try simp (disch := omega) only [pq_bm] at *); all_goals omega)) (by focus ((try clear p4); (try clear p4a); (try clear p23); (try clear p57); (try clear hZ); (try clear hB3); (try clear hB4); (try clear p104); (try clear hZ2); simp only [vp_in_iff, Int32.lt_iff_toInt_lt, Int32.le_iff_toInt_le, ← Int32.toInt_inj, Int32.toInt_add, Int32.toInt_sub, Int32.toInt_mul, Int32.toInt_neg, pq_NuO, pq_NuI, pq_NuJ, pq_NuR, pq_shr6, pq_shr7, pq_shr8, lqm1, lq0, lq1, lq2048] at *; (try simp (disch := omega) only [pq_bm] at *); all_goals omega)) (by focus ((try clear p4); (try clear p4a); (try clear p23); (try clear p57); (try clear hZ); (try clear hB3); (try clear hB4); (try clear p104); (try clear hZ2); simp only [vp_in_iff, Int32.lt_iff_toInt_lt, Int32.le_iff_toInt_le, ← Int32.toInt_inj, Int32.toInt_add, Int32.toInt_sub, Int32.toInt_mul, Int32.toInt_neg, pq_NuO, pq_NuI, pq_NuJ, pq_NuR, pq_shr6, pq_shr7, pq_shr8, lqm1, lq0, lq1, lq2048] at *; (try simp (disch := omega) only [pq_bm] at *); all_goals omega)) (by focus ((try clear p4); (try clear p4a); (try clear p23); (try clear p57); (try clear hZ); (try clear hB3); (try clear hB4); (try clear p104); (try clear hZ2); simp only [vp_in_iff, Int32.lt_iff_toInt_lt, Int32.le_iff_toInt_le, ← Int32.toInt_inj, Int32.toInt_add, Int32.toInt_sub, Int32.toInt_mul, Int32.toInt_neg, pq_NuO, pq_NuI, pq_NuJ, pq_NuR, pq_shr6, pq_shr7, pq_shr8, lqm1, lq0, lq1, lq2048] at *; (try simp (disch := omega) only [pq_bm] at *); all_goals omega)))

