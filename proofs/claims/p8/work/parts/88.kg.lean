theorem tk_Co.hereC {S S2 : HS} {ch sq am wh dn x : Nat} {hh tt : Nat → Nat} {EE : Nat → tq_E} (h : tk_Co S ch sq am wh hh tt EE) (hF : pq_Fr [(230, 0)] S S2) (h2 : pq_R S sq 231) (hd : dn ≤ 40) (p1 : hR S2 ch dn = some x) (p2 : ∀ i, i ≠ dn → hR S2 ch i = hR S ch i) (p3 : (hR S ch dn = some x ∧ S2 = S) ∨ (hR S ch dn = none ∧ x ∉ S.1 ∧ ∃ h t : Nat, h ∉ S.1 ∧ t ∉ S.1 ∧ tk_En S2 x h t tq_e0)) : ∃ (hh2 tt2 : Nat → Nat) (EE2 : Nat → tq_E), tk_Co S2 ch sq am wh hh2 tt2 EE2 ∧ ∀ j, j ≠ 2 * dn + 1 → EE2 j = EE j := by
  rcases p3 with ⟨_, e⟩ | ⟨_, b, h', t', c, d, e⟩
  · rw [e]; exact ⟨hh, tt, EE, h, fun _ _ => rfl⟩
  · have eo := (hF.2.2 sq 231 h2 (by decide) (by decide)).2.2
    refine ⟨_, _, _, h.new (i := 2 * dn + 1) hF (by decide) (fun j hj => ?_) (by rw [tk_nmc hd]; exact p1) b c d e, fun j hj => tr_upn hj⟩
    unfold tk_nm
    by_cases j0 : j = 0
    · rw [if_pos j0, if_pos j0]
    · rw [if_neg j0, if_neg j0]
      by_cases j8 : j = 83
      · rw [if_pos j8, if_pos j8]
      · rw [if_neg j8, if_neg j8, eo]
        by_cases jo : j % 2 = 1
        · rw [if_pos jo, if_pos jo, p2 _ (by omega)]
        · rw [if_neg jo, if_neg jo]

theorem tk_Co.hereQ {S S2 : HS} {ch sq am wh dn x : Nat} {hh tt : Nat → Nat} {EE : Nat → tq_E} (h : tk_Co S ch sq am wh hh tt EE) (hF : pq_Fr [(231, 0)] S S2) (h2 : pq_R S ch 230) (hd : dn ≤ 40) (p1 : hR S2 sq dn = some x) (p2 : ∀ i, i ≠ dn → hR S2 sq i = hR S sq i) (p3 : (hR S sq dn = some x ∧ S2 = S) ∨ (hR S sq dn = none ∧ x ∉ S.1 ∧ ∃ h t : Nat, h ∉ S.1 ∧ t ∉ S.1 ∧ tk_En S2 x h t tq_e0)) : ∃ (hh2 tt2 : Nat → Nat) (EE2 : Nat → tq_E), tk_Co S2 ch sq am wh hh2 tt2 EE2 ∧ ∀ j, j ≠ 2 * dn + 2 → EE2 j = EE j := by
  rcases p3 with ⟨_, e⟩ | ⟨_, b, h', t', c, d, e⟩
  · rw [e]; exact ⟨hh, tt, EE, h, fun _ _ => rfl⟩
  · have eo := (hF.2.2 ch 230 h2 (by decide) (by decide)).2.2
    refine ⟨_, _, _, h.new (i := 2 * dn + 2) hF (by decide) (fun j hj => ?_) (by rw [tk_nmq hd]; exact p1) b c d e, fun j hj => tr_upn hj⟩
    unfold tk_nm
    by_cases j0 : j = 0
    · rw [if_pos j0, if_pos j0]
    · rw [if_neg j0, if_neg j0]
      by_cases j8 : j = 83
      · rw [if_pos j8, if_pos j8]
      · rw [if_neg j8, if_neg j8, eo]
        by_cases jo : j % 2 = 1
        · rw [if_pos jo, if_pos jo]
        · rw [if_neg jo, if_neg jo, p2 _ (by omega)]

set_option maxHeartbeats 4000000 in
set_option maxRecDepth 100000 in
theorem k_X6_hereCP (l : Launch) (D : va_G) (cy : Nat → ClassId) (S : HS) (a : Nat) (ha : pq_R S a 9) (lv : Nat) (hlv : pq_R S lv 230) (dp : Int32) (e6 : hO S a 6 = .int dp) (hd0 : 0 ≤ dp.toInt) (hd1 : dp.toInt ≤ 40) (hbb : ∃ b, hR S lv dp.toNatClampNeg = some b) : pq_C l D cy yX6_here cX6_here 2 (some (.object "PatternPairs$Ends")) 1 0 0 S [.ref a, .ref lv] (fun v S2 => S2 = S ∧ ∃ x : Nat, v = some (.ref x) ∧ pq_R S2 x 5 ∧ (hR S lv dp.toNatClampNeg = some x)) := by
  refine pq_start (by decide) (Nat.le_of_ble_eq_true rfl) ?_
  intro p e s m args below meth c A F hr hlk hnm hA
  have lqm1 : (-1 : Int32).toInt = -1 := rfl
  have lq0 : (0 : Int32).toInt = 0 := rfl
  have lq1 : (1 : Int32).toInt = 1 := rfl
  obtain ⟨bb, hbb⟩ := hbb
  refine pq_aload_n F dX6_here_0 rfl rfl ?_
  refine pq_aload_n F dX6_here_1 rfl rfl ?_
  refine pq_get F ha (by decide) lk_X6_45 e6 dX6_here_2 ?_
  refine pq_aald F hlv (by decide) (fun n1_5 n2_5 => (by change _ ≤ _ at n1_5; change _ ≤ 41 at n2_5; change 41 ≤ _ at n1_5; focus (simp only [vp_in_iff, Int32.lt_iff_toInt_lt, Int32.le_iff_toInt_le, ← Int32.toInt_inj, Int32.toInt_add, Int32.toInt_sub, Int32.toInt_mul, Int32.toInt_neg, pq_NuO, pq_NuI, pq_NuJ, pq_NuR, pq_shr6, pq_shr7, pq_shr8, lqm1, lq0, lq1] at *; (try simp (disch := omega) only [pq_bm] at *); all_goals omega))) dX6_here_5 (fun o5 e5 k5 => ?_)
  rw [hbb] at e5
  subst e5
  have h5 : pq_R S bb 5 := k5.2 (Or.inl rfl) bb rfl
  refine pq_nonnull (tgt := 22) F dX6_here_6 (by decide) ?_
  refine pq_aload_n F dX6_here_22 rfl rfl ?_
  refine pq_aload_n F dX6_here_23 rfl rfl ?_
  refine pq_get F ha (by decide) lk_X6_45 e6 dX6_here_24 ?_
  refine pq_aald F hlv (by decide) (fun n1_27 n2_27 => (by change _ ≤ _ at n1_27; change _ ≤ 41 at n2_27; change 41 ≤ _ at n1_27; focus (simp only [vp_in_iff, Int32.lt_iff_toInt_lt, Int32.le_iff_toInt_le, ← Int32.toInt_inj, Int32.toInt_add, Int32.toInt_sub, Int32.toInt_mul, Int32.toInt_neg, pq_NuO, pq_NuI, pq_NuJ, pq_NuR, pq_shr6, pq_shr7, pq_shr8, lqm1, lq0, lq1] at *; (try simp (disch := omega) only [pq_bm] at *); all_goals omega))) dX6_here_27 (fun o27 e27 k27 => ?_)
  rw [hbb] at e27
  subst e27
  have h27 : pq_R S bb 5 := k27.2 (Or.inl rfl) bb rfl
  exact pq_aret F hr (by first | exact Or.inl ⟨_, rfl⟩ | exact Or.inr ⟨_, rfl⟩) hlk hA (Nat.le_refl _) (Nat.le_refl _) (⟨rfl, bb, rfl, h27, hbb⟩) dX6_here_28

set_option maxHeartbeats 4000000 in
set_option maxRecDepth 100000 in
theorem k_X6_hereQP (l : Launch) (D : va_G) (cy : Nat → ClassId) (S : HS) (a : Nat) (ha : pq_R S a 9) (lv : Nat) (hlv : pq_R S lv 231) (dp : Int32) (e6 : hO S a 6 = .int dp) (hd0 : 0 ≤ dp.toInt) (hd1 : dp.toInt ≤ 40) (hbb : ∃ b, hR S lv dp.toNatClampNeg = some b) : pq_C l D cy yX6_here cX6_here 2 (some (.object "PatternPairs$Ends")) 1 0 0 S [.ref a, .ref lv] (fun v S2 => S2 = S ∧ ∃ x : Nat, v = some (.ref x) ∧ pq_R S2 x 5 ∧ (hR S lv dp.toNatClampNeg = some x)) := by
  refine pq_start (by decide) (Nat.le_of_ble_eq_true rfl) ?_
  intro p e s m args below meth c A F hr hlk hnm hA
  have lqm1 : (-1 : Int32).toInt = -1 := rfl
  have lq0 : (0 : Int32).toInt = 0 := rfl
  have lq1 : (1 : Int32).toInt = 1 := rfl
  obtain ⟨bb, hbb⟩ := hbb
  refine pq_aload_n F dX6_here_0 rfl rfl ?_
  refine pq_aload_n F dX6_here_1 rfl rfl ?_
  refine pq_get F ha (by decide) lk_X6_45 e6 dX6_here_2 ?_
  refine pq_aald F hlv (by decide) (fun n1_5 n2_5 => (by change _ ≤ _ at n1_5; change _ ≤ 41 at n2_5; change 41 ≤ _ at n1_5; focus (simp only [vp_in_iff, Int32.lt_iff_toInt_lt, Int32.le_iff_toInt_le, ← Int32.toInt_inj, Int32.toInt_add, Int32.toInt_sub, Int32.toInt_mul, Int32.toInt_neg, pq_NuO, pq_NuI, pq_NuJ, pq_NuR, pq_shr6, pq_shr7, pq_shr8, lqm1, lq0, lq1] at *; (try simp (disch := omega) only [pq_bm] at *); all_goals omega))) dX6_here_5 (fun o5 e5 k5 => ?_)
  rw [hbb] at e5
  subst e5
  have h5 : pq_R S bb 5 := k5.2 (Or.inr rfl) bb rfl
  refine pq_nonnull (tgt := 22) F dX6_here_6 (by decide) ?_
  refine pq_aload_n F dX6_here_22 rfl rfl ?_
  refine pq_aload_n F dX6_here_23 rfl rfl ?_
  refine pq_get F ha (by decide) lk_X6_45 e6 dX6_here_24 ?_
  refine pq_aald F hlv (by decide) (fun n1_27 n2_27 => (by change _ ≤ _ at n1_27; change _ ≤ 41 at n2_27; change 41 ≤ _ at n1_27; focus (simp only [vp_in_iff, Int32.lt_iff_toInt_lt, Int32.le_iff_toInt_le, ← Int32.toInt_inj, Int32.toInt_add, Int32.toInt_sub, Int32.toInt_mul, Int32.toInt_neg, pq_NuO, pq_NuI, pq_NuJ, pq_NuR, pq_shr6, pq_shr7, pq_shr8, lqm1, lq0, lq1] at *; (try simp (disch := omega) only [pq_bm] at *); all_goals omega))) dX6_here_27 (fun o27 e27 k27 => ?_)
  rw [hbb] at e27
  subst e27
  have h27 : pq_R S bb 5 := k27.2 (Or.inr rfl) bb rfl
  exact pq_aret F hr (by first | exact Or.inl ⟨_, rfl⟩ | exact Or.inr ⟨_, rfl⟩) hlk hA (Nat.le_refl _) (Nat.le_refl _) (⟨rfl, bb, rfl, h27, hbb⟩) dX6_here_28

set_option maxHeartbeats 4000000 in
set_option maxRecDepth 100000 in
theorem k_X6_beginLevelG (l : Launch) (D : va_G) (cy : Nat → ClassId) (S : HS) (a : Nat) (ha : pq_R S a 9) (ch sq tp : Nat) (dp at1 br t : Int32) (hB : pq_Rd S a ch sq tp dp at1 br t (dp.toInt - 1)) (am wh dn : Nat) (hdn : dp.toInt = (dn : Int)) (hh tt : Nat → Nat) (EE : Nat → tq_E) (hC : tk_Co S ch sq am wh hh tt EE) : pq_C l D cy yX6_beginLevel cX6_beginLevel 1 (none) 4 6 34 S [.ref a] (fun v S2 => v = none ∧ pq_Fr [(190, 0), (191, 0), (5, 2), (230, 0), (231, 0)] S S2 ∧ (pq_Rd S2 a ch sq tp dp at1 br t dp.toInt ∧ ∃ (hh2 tt2 : Nat → Nat) (EE2 : Nat → tq_E), tk_Co S2 ch sq am wh hh2 tt2 EE2 ∧ EE2 (2 * dn + 1) = tq_e0 ∧ EE2 (2 * dn + 2) = tq_e1 ∧ ∀ j, j ≠ 2 * dn + 1 → j ≠ 2 * dn + 2 → EE2 j = EE j)) := by
  refine pq_start (by decide) (Nat.le_of_ble_eq_true rfl) ?_
  intro p e s m args below meth c A F hr hlk hnm hA
  have lqm1 : (-1 : Int32).toInt = -1 := rfl
  have lq0 : (0 : Int32).toInt = 0 := rfl
  have lq1 : (1 : Int32).toInt = 1 := rfl
  obtain ⟨hd0, hd1, ha0, ha1, ht0, ht1⟩ := hB.b
  have hdl : dn ≤ 40 := (by focus ((try clear hB); (try clear hB2); (try clear hB3); (try clear hB4); (try clear hC); (try clear hC5); (try clear hC8); (try clear hC6); (try clear hC9); (try clear hE5); (try clear hE6); (try clear hEn5); (try clear hEn6); (try clear p5); (try clear p8); (try clear p16); (try clear p19); (try clear pc1); (try clear pc2); (try clear pc3); (try clear pq1); (try clear pq2); (try clear pq3); (try clear hn5); (try clear hn6); (try clear p15); (try clear p23); (try clear p26); (try clear p34); (try clear p37); (try clear p39); (try clear hq); (try clear hEc); (try clear hEq); (try clear hdist); (try clear hnc); (try clear hnq); (try clear hnq2); (try clear hEq2); (try clear p31); (try clear p42); (try clear p54); (try clear p57); (try clear p71); (try clear hna); (try clear hEa); simp only [vp_in_iff, Int32.lt_iff_toInt_lt, Int32.le_iff_toInt_le, ← Int32.toInt_inj, Int32.toInt_add, Int32.toInt_sub, Int32.toInt_mul, Int32.toInt_neg, pq_NuO, pq_NuI, pq_NuJ, pq_NuR, pq_shr6, pq_shr7, pq_shr8, lqm1, lq0, lq1] at *; (try simp (disch := omega) only [pq_bm] at *); all_goals omega))
  refine pq_aload_n F dX6_beginLevel_0 rfl rfl ?_
  refine pq_aload_n F dX6_beginLevel_1 rfl rfl ?_
  refine pq_get F ha (by decide) lk_X6_11 hB.e2 dX6_beginLevel_2 ?_
  refine pq_callV (As := [_]) F (k_X6_hereCN l D cy _ _ ?_ _ ?_ _ hB.e6 hd0 hd1) ml_X6_59 ha (by decide) rfl (Nat.le_of_ble_eq_true rfl) ⟨Nat.le_of_ble_eq_true rfl, Nat.le_of_ble_eq_true rfl⟩ ⟨Nat.le_of_ble_eq_true rfl, Nat.le_of_ble_eq_true rfl⟩ dX6_beginLevel_5 (fun v5 S5 w5 => ?_)
  · exact ha
  · exact hB.h2
  obtain ⟨hF5, y5, rfl, hy5, p5⟩ := w5
  have ha_5 := (hF5.1 _ _ ha (by decide)).1
  have hz_5 := (hF5.1 _ _ hB.h2 (by decide)).1
  have ec5_2_ha_5 := hF5.O ha (by decide) (by decide) hB.e2
  have hz_5z := (hF5.1 _ _ hB.h3 (by decide)).1
  have ec5_3_ha_5 := hF5.O ha (by decide) (by decide) hB.e3
  have hz_5zz := (hF5.1 _ _ hB.h0 (by decide)).1
  have ec5_0_ha_5 := hF5.O ha (by decide) (by decide) hB.e0
  have ec5_6_ha_5 := hF5.O ha (by decide) (by decide) hB.e6
  have ec5_5_ha_5 := hF5.O ha (by decide) (by decide) hB.e5
  have ec5_7_ha_5 := hF5.O ha (by decide) (by decide) hB.e7
  have ec5_1_hz_5zz := hF5.O hB.h0 (by decide) (by decide) hB.et
  obtain ⟨pc1, pc2, pc3⟩ := p5
  rw [tk_ix hdn] at pc1 pc2 pc3
  obtain ⟨hh5, tt5, EE5, hC5, hE5⟩ := hC.hereC hF5 hB.h3 hdl pc1 pc2 pc3
  have hn5 : tk_nm S5 ch sq am wh (2 * dn + 1) = some y5 := (by rw [tk_nmc hdl]; exact pc1)
  have hEn5 := hC5.1 _ _ (by omega) hn5
  refine pq_callV (As := []) F (k_X2_noTextG l D cy _ _ ?_ (hh5 (2 * dn + 1)) (tt5 (2 * dn + 1)) (EE5 (2 * dn + 1)) hEn5) ml_X6_73 hy5 (by decide) rfl (Nat.le_of_ble_eq_true rfl) ⟨Nat.le_of_ble_eq_true rfl, Nat.le_of_ble_eq_true rfl⟩ ⟨by decide, by decide⟩ dX6_beginLevel_8 (fun v8 S8 w8 => ?_)
  · exact hy5
  obtain ⟨rfl, hF8, p8⟩ := w8
  have ha_8 := (hF8.1 _ _ ha_5 (by decide)).1
  have hz_8 := (hF8.1 _ _ hz_5 (by decide)).1
  have ec8_2_ha_8 := hF8.O ha_5 (by decide) (by decide) ec5_2_ha_5
  have hz_5z_8 := (hF8.1 _ _ hz_5z (by decide)).1
  have ec8_3_ha_8 := hF8.O ha_5 (by decide) (by decide) ec5_3_ha_5
  have hz_5zz_8 := (hF8.1 _ _ hz_5zz (by decide)).1
  have ec8_0_ha_8 := hF8.O ha_5 (by decide) (by decide) ec5_0_ha_5
  have ec8_6_ha_8 := hF8.O ha_5 (by decide) (by decide) ec5_6_ha_5
  have ec8_5_ha_8 := hF8.O ha_5 (by decide) (by decide) ec5_5_ha_5
  have ec8_7_ha_8 := hF8.O ha_5 (by decide) (by decide) ec5_7_ha_5
  have ec8_1_hz_5zz_8 := hF8.O hz_5zz (by decide) (by decide) ec5_1_hz_5zz
  have hC8 := hC5.af (by omega) hn5 p8.1 p8.2
  refine pq_aload_n F dX6_beginLevel_11 rfl rfl ?_
  refine pq_aload_n F dX6_beginLevel_12 rfl rfl ?_
  refine pq_get F ha_8 (by decide) lk_X6_17 ec8_3_ha_8 dX6_beginLevel_13 ?_
  refine pq_callV (As := [_]) F (k_X6_hereQN l D cy _ _ ?_ _ ?_ _ ((hF5.O ha (by decide) (by decide) hB.e6 |> hF8.O ha_5 (by decide) (by decide))) hd0 hd1) ml_X6_59 ha_8 (by decide) rfl (Nat.le_of_ble_eq_true rfl) ⟨Nat.le_of_ble_eq_true rfl, Nat.le_of_ble_eq_true rfl⟩ ⟨Nat.le_of_ble_eq_true rfl, Nat.le_of_ble_eq_true rfl⟩ dX6_beginLevel_16 (fun v16 S16 w16 => ?_)
  · exact ha_8
  · exact hz_5z_8
  obtain ⟨hF16, y16, rfl, hy16, p16⟩ := w16
  have ha_16 := (hF16.1 _ _ ha_8 (by decide)).1
  have hz_16 := (hF16.1 _ _ hz_8 (by decide)).1
  have ec16_2_ha_16 := hF16.O ha_8 (by decide) (by decide) ec8_2_ha_8
  have hz_5z_16 := (hF16.1 _ _ hz_5z_8 (by decide)).1
  have ec16_3_ha_16 := hF16.O ha_8 (by decide) (by decide) ec8_3_ha_8
  have hz_5zz_16 := (hF16.1 _ _ hz_5zz_8 (by decide)).1
  have ec16_0_ha_16 := hF16.O ha_8 (by decide) (by decide) ec8_0_ha_8
  have ec16_6_ha_16 := hF16.O ha_8 (by decide) (by decide) ec8_6_ha_8
  have ec16_5_ha_16 := hF16.O ha_8 (by decide) (by decide) ec8_5_ha_8
  have ec16_7_ha_16 := hF16.O ha_8 (by decide) (by decide) ec8_7_ha_8
  have ec16_1_hz_5zz_16 := hF16.O hz_5zz_8 (by decide) (by decide) ec8_1_hz_5zz_8
  obtain ⟨pq1, pq2, pq3⟩ := p16
  rw [tk_ix hdn] at pq1 pq2 pq3
  obtain ⟨hh6, tt6, EE6, hC6, hE6⟩ := hC8.hereQ hF16 (hF8.R (hF5.R hB.h2 (by decide)) (by decide)) hdl pq1 pq2 pq3
  have hn6 : tk_nm S16 ch sq am wh (2 * dn + 2) = some y16 := (by rw [tk_nmq hdl]; exact pq1)
  have hEn6 := hC6.1 _ _ (by omega) hn6
  refine pq_callV (As := []) F (k_X2_emptyTextG l D cy _ _ ?_ (hh6 (2 * dn + 2)) (tt6 (2 * dn + 2)) (EE6 (2 * dn + 2)) hEn6) ml_X6_76 hy16 (by decide) rfl (Nat.le_of_ble_eq_true rfl) ⟨Nat.le_of_ble_eq_true rfl, Nat.le_of_ble_eq_true rfl⟩ ⟨by decide, by decide⟩ dX6_beginLevel_19 (fun v19 S19 w19 => ?_)
  · exact hy16
  obtain ⟨rfl, hF19, p19⟩ := w19
  have ha_19 := (hF19.1 _ _ ha_16 (by decide)).1
  have hz_19 := (hF19.1 _ _ hz_16 (by decide)).1
  have ec19_2_ha_19 := hF19.O ha_16 (by decide) (by decide) ec16_2_ha_16
  have hz_5z_19 := (hF19.1 _ _ hz_5z_16 (by decide)).1
  have ec19_3_ha_19 := hF19.O ha_16 (by decide) (by decide) ec16_3_ha_16
  have hz_5zz_19 := (hF19.1 _ _ hz_5zz_16 (by decide)).1
  have ec19_0_ha_19 := hF19.O ha_16 (by decide) (by decide) ec16_0_ha_16
  have ec19_6_ha_19 := hF19.O ha_16 (by decide) (by decide) ec16_6_ha_16
  have ec19_5_ha_19 := hF19.O ha_16 (by decide) (by decide) ec16_5_ha_16
  have ec19_7_ha_19 := hF19.O ha_16 (by decide) (by decide) ec16_7_ha_16
  have ec19_1_hz_5zz_19 := hF19.O hz_5zz_16 (by decide) (by decide) ec16_1_hz_5zz_16
  exact pq_vret F hr hlk hA (Nat.le_refl _) (Nat.le_refl _) (⟨rfl, ((((pq_Fr.rf.cm hF5 (by decide)).cm hF8 (by decide)).cm hF16 (by decide)).cm hF19 (by decide)), hB.fr2 (M := [(190, 0), (191, 0), (5, 2), (230, 0), (231, 0)]) ((((pq_Fr.rf.cm hF5 (by decide)).cm hF8 (by decide)).cm hF16 (by decide)).cm hF19 (by decide)) (by decide) (fun i hi => (by have c2 := hF5.R hB.h2 (by decide); have q2 := hF5.R hB.h3 (by decide); have c3 := hF8.R c2 (by decide); have q3 := hF8.R q2 (by decide); have c4 := hF16.R c3 (by decide); have q4 := hF16.R q3 (by decide); have ck := pq_cl hd0; rw [hF19.Rf c4 (by decide) (by decide), hF16.Rf c3 (by decide) (by decide), hF8.Rf c2 (by decide) (by decide), hF19.Rf q4 (by decide) (by decide)]; by_cases z : i = dn; (rw [z]; exact ⟨⟨_, pc1⟩, ⟨_, pq1⟩⟩); (rw [pc2 i z, pq2 i z, hF8.Rf q2 (by decide) (by decide), hF5.Rf hB.h3 (by decide) (by decide)]; exact hB.j i (by omega)))), hh6, tt6, _, hC6.af (by omega) hn6 p19.1 p19.2, (by rw [tr_upn (by omega), hE6 _ (by omega), tr_ups]), tr_ups, (fun j j1 j2 => (by rw [tr_upn j2, hE6 _ j2, tr_upn j1, hE5 _ j1]))⟩) dX6_beginLevel_22

set_option maxHeartbeats 4000000 in
set_option maxRecDepth 100000 in
theorem k_X6_nextChoiceG (l : Launch) (D : va_G) (cy : Nat → ClassId) (S : HS) (a : Nat) (ha : pq_R S a 9) (ch sq tp : Nat) (dp at1 br t : Int32) (hB : pq_Rd S a ch sq tp dp at1 br t dp.toInt) (hat : at1.toInt ≤ t.toInt) (am wh dn : Nat) (hdn : dp.toInt = (dn : Int)) (hh tt : Nat → Nat) (EE : Nat → tq_E) (hC : tk_Co S ch sq am wh hh tt EE) : pq_C l D cy yX6_nextChoice cX6_nextChoice 1 (none) 4 0 0 S [.ref a] (fun v S2 => v = none ∧ pq_Fr [(190, 0), (191, 0), (5, 2), (9, 5)] S S2 ∧ (pq_Rd S2 a ch sq tp dp (at1 + 1) br t dp.toInt ∧ ∃ EE2 : Nat → tq_E, tk_Co S2 ch sq am wh hh tt EE2 ∧ EE2 (2 * dn + 1) = tq_or (EE (2 * dn + 1)) (EE (2 * dn + 2)) ∧ EE2 (2 * dn + 2) = tq_e1 ∧ ∀ j, j ≠ 2 * dn + 1 → j ≠ 2 * dn + 2 → EE2 j = EE j)) := by
  refine pq_start (by decide) (Nat.le_of_ble_eq_true rfl) ?_
  intro p e s m args below meth c A F hr hlk hnm hA
  have lqm1 : (-1 : Int32).toInt = -1 := rfl
  have lq0 : (0 : Int32).toInt = 0 := rfl
  have lq1 : (1 : Int32).toInt = 1 := rfl
  obtain ⟨hd0, hd1, ha0, ha1, ht0, ht1⟩ := hB.b
  have hdl : dn ≤ 40 := (by focus ((try clear hB); (try clear hB2); (try clear hB3); (try clear hB4); (try clear hC); (try clear hC5); (try clear hC8); (try clear hC6); (try clear hC9); (try clear hE5); (try clear hE6); (try clear hEn5); (try clear hEn6); (try clear p5); (try clear p8); (try clear p16); (try clear p19); (try clear pc1); (try clear pc2); (try clear pc3); (try clear pq1); (try clear pq2); (try clear pq3); (try clear hn5); (try clear hn6); (try clear p15); (try clear p23); (try clear p26); (try clear p34); (try clear p37); (try clear p39); (try clear hq); (try clear hEc); (try clear hEq); (try clear hdist); (try clear hnc); (try clear hnq); (try clear hnq2); (try clear hEq2); (try clear p31); (try clear p42); (try clear p54); (try clear p57); (try clear p71); (try clear hna); (try clear hEa); simp only [vp_in_iff, Int32.lt_iff_toInt_lt, Int32.le_iff_toInt_le, ← Int32.toInt_inj, Int32.toInt_add, Int32.toInt_sub, Int32.toInt_mul, Int32.toInt_neg, pq_NuO, pq_NuI, pq_NuJ, pq_NuR, pq_shr6, pq_shr7, pq_shr8, lqm1, lq0, lq1] at *; (try simp (disch := omega) only [pq_bm] at *); all_goals omega))
  refine pq_aload_n F dX6_nextChoice_0 rfl rfl ?_
  refine pq_dup F dX6_nextChoice_1 rfl ?_
  refine pq_get F ha (by decide) lk_X6_38 hB.e5 dX6_nextChoice_2 ?_
  refine pq_iconst (v := 1) F dX6_nextChoice_5 (by decide) ?_
  refine pq_iadd F dX6_nextChoice_6 ?_
  refine pq_putI F ha (by decide) lp_X6_38 rfl (pq_any1 _) (pq_any2 _) dX6_nextChoice_7 ?_
  refine pq_aload_n F dX6_nextChoice_10 rfl rfl ?_
  refine pq_aload_n F dX6_nextChoice_11 rfl rfl ?_
  refine pq_get F ha (by decide) lk_X6_11 (pq_kp hB.e2 (by decide)) dX6_nextChoice_12 ?_
  refine pq_callV (As := [_]) F (k_X6_hereCP l D cy _ _ ?_ _ ?_ _ (hB.p5 (by focus ((try clear hB); (try clear hB2); (try clear hB3); (try clear hB4); (try clear hC); (try clear hC5); (try clear hC8); (try clear hC6); (try clear hC9); (try clear hE5); (try clear hE6); (try clear hEn5); (try clear hEn6); (try clear p5); (try clear p8); (try clear p16); (try clear p19); (try clear pc1); (try clear pc2); (try clear pc3); (try clear pq1); (try clear pq2); (try clear pq3); (try clear hn5); (try clear hn6); (try clear p15); (try clear p23); (try clear p26); (try clear p34); (try clear p37); (try clear p39); (try clear hq); (try clear hEc); (try clear hEq); (try clear hdist); (try clear hnc); (try clear hnq); (try clear hnq2); (try clear hEq2); (try clear p31); (try clear p42); (try clear p54); (try clear p57); (try clear p71); (try clear hna); (try clear hEa); simp only [vp_in_iff, Int32.lt_iff_toInt_lt, Int32.le_iff_toInt_le, ← Int32.toInt_inj, Int32.toInt_add, Int32.toInt_sub, Int32.toInt_mul, Int32.toInt_neg, pq_NuO, pq_NuI, pq_NuJ, pq_NuR, pq_shr6, pq_shr7, pq_shr8, lqm1, lq0, lq1] at *; (try simp (disch := omega) only [pq_bm] at *); all_goals omega)) (by focus ((try clear hB); (try clear hB2); (try clear hB3); (try clear hB4); (try clear hC); (try clear hC5); (try clear hC8); (try clear hC6); (try clear hC9); (try clear hE5); (try clear hE6); (try clear hEn5); (try clear hEn6); (try clear p5); (try clear p8); (try clear p16); (try clear p19); (try clear pc1); (try clear pc2); (try clear pc3); (try clear pq1); (try clear pq2); (try clear pq3); (try clear hn5); (try clear hn6); (try clear p15); (try clear p23); (try clear p26); (try clear p34); (try clear p37); (try clear p39); (try clear hq); (try clear hEc); (try clear hEq); (try clear hdist); (try clear hnc); (try clear hnq); (try clear hnq2); (try clear hEq2); (try clear p31); (try clear p42); (try clear p54); (try clear p57); (try clear p71); (try clear hna); (try clear hEa); simp only [vp_in_iff, Int32.lt_iff_toInt_lt, Int32.le_iff_toInt_le, ← Int32.toInt_inj, Int32.toInt_add, Int32.toInt_sub, Int32.toInt_mul, Int32.toInt_neg, pq_NuO, pq_NuI, pq_NuJ, pq_NuR, pq_shr6, pq_shr7, pq_shr8, lqm1, lq0, lq1] at *; (try simp (disch := omega) only [pq_bm] at *); all_goals omega))).e6 hd0 hd1 ((hB.p5 (by focus ((try clear hB); (try clear hB2); (try clear hB3); (try clear hB4); (try clear hC); (try clear hC5); (try clear hC8); (try clear hC6); (try clear hC9); (try clear hE5); (try clear hE6); (try clear hEn5); (try clear hEn6); (try clear p5); (try clear p8); (try clear p16); (try clear p19); (try clear pc1); (try clear pc2); (try clear pc3); (try clear pq1); (try clear pq2); (try clear pq3); (try clear hn5); (try clear hn6); (try clear p15); (try clear p23); (try clear p26); (try clear p34); (try clear p37); (try clear p39); (try clear hq); (try clear hEc); (try clear hEq); (try clear hdist); (try clear hnc); (try clear hnq); (try clear hnq2); (try clear hEq2); (try clear p31); (try clear p42); (try clear p54); (try clear p57); (try clear p71); (try clear hna); (try clear hEa); simp only [vp_in_iff, Int32.lt_iff_toInt_lt, Int32.le_iff_toInt_le, ← Int32.toInt_inj, Int32.toInt_add, Int32.toInt_sub, Int32.toInt_mul, Int32.toInt_neg, pq_NuO, pq_NuI, pq_NuJ, pq_NuR, pq_shr6, pq_shr7, pq_shr8, lqm1, lq0, lq1] at *; (try simp (disch := omega) only [pq_bm] at *); all_goals omega)) (by focus ((try clear hB); (try clear hB2); (try clear hB3); (try clear hB4); (try clear hC); (try clear hC5); (try clear hC8); (try clear hC6); (try clear hC9); (try clear hE5); (try clear hE6); (try clear hEn5); (try clear hEn6); (try clear p5); (try clear p8); (try clear p16); (try clear p19); (try clear pc1); (try clear pc2); (try clear pc3); (try clear pq1); (try clear pq2); (try clear pq3); (try clear hn5); (try clear hn6); (try clear p15); (try clear p23); (try clear p26); (try clear p34); (try clear p37); (try clear p39); (try clear hq); (try clear hEc); (try clear hEq); (try clear hdist); (try clear hnc); (try clear hnq); (try clear hnq2); (try clear hEq2); (try clear p31); (try clear p42); (try clear p54); (try clear p57); (try clear p71); (try clear hna); (try clear hEa); simp only [vp_in_iff, Int32.lt_iff_toInt_lt, Int32.le_iff_toInt_le, ← Int32.toInt_inj, Int32.toInt_add, Int32.toInt_sub, Int32.toInt_mul, Int32.toInt_neg, pq_NuO, pq_NuI, pq_NuJ, pq_NuR, pq_shr6, pq_shr7, pq_shr8, lqm1, lq0, lq1] at *; (try simp (disch := omega) only [pq_bm] at *); all_goals omega))).c (Int.le_refl _))) ml_X6_59 ha (by decide) rfl (Nat.le_of_ble_eq_true rfl) ⟨Nat.le_of_ble_eq_true rfl, Nat.le_of_ble_eq_true rfl⟩ ⟨by decide, by decide⟩ dX6_nextChoice_15 (fun v15 S15 w15 => ?_)
  · exact ha
  · exact hB.h2
  obtain ⟨u15, y15, rfl, hy15, p15⟩ := w15
  rw [u15]
  rw [u15] at hy15
  try rw [u15] at p15
  have hC5 : tk_Co (pq_uO S a 5 (.int (at1 + 1))) ch sq am wh hh tt EE := hC.fr ((pq_Fr.rf (M := [(9, 5)]) (S := S)).uO ha (by decide)) hB.h2 hB.h3 (by decide)
  have hEcn : tk_nm (pq_uO S a 5 (.int (at1 + 1))) ch sq am wh (2 * dn + 1) = some y15 := (by rw [tk_nmc hdl, ← tk_ix hdn]; exact p15)
  have hEc := hC5.1 _ _ (by omega) hEcn
  refine pq_aload_n F dX6_nextChoice_18 rfl rfl ?_
  refine pq_aload_n F dX6_nextChoice_19 rfl rfl ?_
  refine pq_get F ha (by decide) lk_X6_17 (pq_kp hB.e3 (by decide)) dX6_nextChoice_20 ?_
  refine pq_callV (As := [_]) F (k_X6_hereQP l D cy _ _ ?_ _ ?_ _ (hB.p5 (by focus ((try clear hB); (try clear hB2); (try clear hB3); (try clear hB4); (try clear hC); (try clear hC5); (try clear hC8); (try clear hC6); (try clear hC9); (try clear hE5); (try clear hE6); (try clear hEn5); (try clear hEn6); (try clear p5); (try clear p8); (try clear p16); (try clear p19); (try clear pc1); (try clear pc2); (try clear pc3); (try clear pq1); (try clear pq2); (try clear pq3); (try clear hn5); (try clear hn6); (try clear p15); (try clear p23); (try clear p26); (try clear p34); (try clear p37); (try clear p39); (try clear hq); (try clear hEc); (try clear hEq); (try clear hdist); (try clear hnc); (try clear hnq); (try clear hnq2); (try clear hEq2); (try clear p31); (try clear p42); (try clear p54); (try clear p57); (try clear p71); (try clear hna); (try clear hEa); simp only [vp_in_iff, Int32.lt_iff_toInt_lt, Int32.le_iff_toInt_le, ← Int32.toInt_inj, Int32.toInt_add, Int32.toInt_sub, Int32.toInt_mul, Int32.toInt_neg, pq_NuO, pq_NuI, pq_NuJ, pq_NuR, pq_shr6, pq_shr7, pq_shr8, lqm1, lq0, lq1] at *; (try simp (disch := omega) only [pq_bm] at *); all_goals omega)) (by focus ((try clear hB); (try clear hB2); (try clear hB3); (try clear hB4); (try clear hC); (try clear hC5); (try clear hC8); (try clear hC6); (try clear hC9); (try clear hE5); (try clear hE6); (try clear hEn5); (try clear hEn6); (try clear p5); (try clear p8); (try clear p16); (try clear p19); (try clear pc1); (try clear pc2); (try clear pc3); (try clear pq1); (try clear pq2); (try clear pq3); (try clear hn5); (try clear hn6); (try clear p15); (try clear p23); (try clear p26); (try clear p34); (try clear p37); (try clear p39); (try clear hq); (try clear hEc); (try clear hEq); (try clear hdist); (try clear hnc); (try clear hnq); (try clear hnq2); (try clear hEq2); (try clear p31); (try clear p42); (try clear p54); (try clear p57); (try clear p71); (try clear hna); (try clear hEa); simp only [vp_in_iff, Int32.lt_iff_toInt_lt, Int32.le_iff_toInt_le, ← Int32.toInt_inj, Int32.toInt_add, Int32.toInt_sub, Int32.toInt_mul, Int32.toInt_neg, pq_NuO, pq_NuI, pq_NuJ, pq_NuR, pq_shr6, pq_shr7, pq_shr8, lqm1, lq0, lq1] at *; (try simp (disch := omega) only [pq_bm] at *); all_goals omega))).e6 hd0 hd1 ((hB.p5 (by focus ((try clear hB); (try clear hB2); (try clear hB3); (try clear hB4); (try clear hC); (try clear hC5); (try clear hC8); (try clear hC6); (try clear hC9); (try clear hE5); (try clear hE6); (try clear hEn5); (try clear hEn6); (try clear p5); (try clear p8); (try clear p16); (try clear p19); (try clear pc1); (try clear pc2); (try clear pc3); (try clear pq1); (try clear pq2); (try clear pq3); (try clear hn5); (try clear hn6); (try clear p15); (try clear p23); (try clear p26); (try clear p34); (try clear p37); (try clear p39); (try clear hq); (try clear hEc); (try clear hEq); (try clear hdist); (try clear hnc); (try clear hnq); (try clear hnq2); (try clear hEq2); (try clear p31); (try clear p42); (try clear p54); (try clear p57); (try clear p71); (try clear hna); (try clear hEa); simp only [vp_in_iff, Int32.lt_iff_toInt_lt, Int32.le_iff_toInt_le, ← Int32.toInt_inj, Int32.toInt_add, Int32.toInt_sub, Int32.toInt_mul, Int32.toInt_neg, pq_NuO, pq_NuI, pq_NuJ, pq_NuR, pq_shr6, pq_shr7, pq_shr8, lqm1, lq0, lq1] at *; (try simp (disch := omega) only [pq_bm] at *); all_goals omega)) (by focus ((try clear hB); (try clear hB2); (try clear hB3); (try clear hB4); (try clear hC); (try clear hC5); (try clear hC8); (try clear hC6); (try clear hC9); (try clear hE5); (try clear hE6); (try clear hEn5); (try clear hEn6); (try clear p5); (try clear p8); (try clear p16); (try clear p19); (try clear pc1); (try clear pc2); (try clear pc3); (try clear pq1); (try clear pq2); (try clear pq3); (try clear hn5); (try clear hn6); (try clear p15); (try clear p23); (try clear p26); (try clear p34); (try clear p37); (try clear p39); (try clear hq); (try clear hEc); (try clear hEq); (try clear hdist); (try clear hnc); (try clear hnq); (try clear hnq2); (try clear hEq2); (try clear p31); (try clear p42); (try clear p54); (try clear p57); (try clear p71); (try clear hna); (try clear hEa); simp only [vp_in_iff, Int32.lt_iff_toInt_lt, Int32.le_iff_toInt_le, ← Int32.toInt_inj, Int32.toInt_add, Int32.toInt_sub, Int32.toInt_mul, Int32.toInt_neg, pq_NuO, pq_NuI, pq_NuJ, pq_NuR, pq_shr6, pq_shr7, pq_shr8, lqm1, lq0, lq1] at *; (try simp (disch := omega) only [pq_bm] at *); all_goals omega))).q (Int.le_refl _))) ml_X6_59 ha (by decide) rfl (Nat.le_of_ble_eq_true rfl) ⟨Nat.le_of_ble_eq_true rfl, Nat.le_of_ble_eq_true rfl⟩ ⟨by decide, by decide⟩ dX6_nextChoice_23 (fun v23 S23 w23 => ?_)
  · exact ha
  · exact hB.h3
  obtain ⟨u23, y23, rfl, hy23, p23⟩ := w23
  rw [u23]
  rw [u23] at hy23
  try rw [u23] at p23
  have hEqn : tk_nm (pq_uO S a 5 (.int (at1 + 1))) ch sq am wh (2 * dn + 2) = some y23 := (by rw [tk_nmq hdl, ← tk_ix hdn]; exact p23)
  have hEq := hC5.1 _ _ (by omega) hEqn
  have hdist := hC5.2 _ _ _ _ (by omega) (by omega) (show 2 * dn + 1 ≠ 2 * dn + 2 by omega) hEcn hEqn
  refine pq_callV (As := [_]) F (k_X2_addChoiceG l D cy _ _ ?_ _ ?_ (hh (2 * dn + 1)) (tt (2 * dn + 1)) (EE (2 * dn + 1)) hEc (hh (2 * dn + 2)) (tt (2 * dn + 2)) (EE (2 * dn + 2)) hEq hdist.2.1 hdist.2.2) ml_X6_63 hy15 (by decide) rfl (Nat.le_of_ble_eq_true rfl) ⟨Nat.le_of_ble_eq_true rfl, Nat.le_of_ble_eq_true rfl⟩ ⟨by decide, by decide⟩ dX6_nextChoice_26 (fun v26 S26 w26 => ?_)
  · exact hy15
  · exact hy23
  obtain ⟨rfl, hF26, p26⟩ := w26
  have ha_26 := (hF26.1 _ _ ha (by decide)).1
  have hz_26 := (hF26.1 _ _ hB.h2 (by decide)).1
  have ec26_2_ha_26 := hF26.O ha (by decide) (by decide) (pq_kp hB.e2 (by decide))
  have hz_26z := (hF26.1 _ _ hB.h3 (by decide)).1
  have ec26_3_ha_26 := hF26.O ha (by decide) (by decide) (pq_kp hB.e3 (by decide))
  have hz_26zz := (hF26.1 _ _ hB.h0 (by decide)).1
  have ec26_0_ha_26 := hF26.O ha (by decide) (by decide) (pq_kp hB.e0 (by decide))
  have ec26_6_ha_26 := hF26.O ha (by decide) (by decide) (pq_kp hB.e6 (by decide))
  have ec26_7_ha_26 := hF26.O ha (by decide) (by decide) (pq_kp hB.e7 (by decide))
  have ec26_1_hz_26zz := hF26.O hB.h0 (by decide) (by decide) (pq_ko hB.et hB.h0 ha (by decide))
  have ec26_5_ha_26 := hF26.O ha (by decide) (by decide) pq_ks
  have hC6 := hC5.af (by omega) hEcn p26.1 p26.2
  refine pq_aload_n F dX6_nextChoice_29 rfl rfl ?_
  refine pq_aload_n F dX6_nextChoice_30 rfl rfl ?_
  refine pq_get F ha_26 (by decide) lk_X6_17 ec26_3_ha_26 dX6_nextChoice_31 ?_
  refine pq_callV (As := [_]) F (k_X6_hereQP l D cy _ _ ?_ _ ?_ _ (((hB.p5 (by focus ((try clear hB); (try clear hB2); (try clear hB3); (try clear hB4); (try clear hC); (try clear hC5); (try clear hC8); (try clear hC6); (try clear hC9); (try clear hE5); (try clear hE6); (try clear hEn5); (try clear hEn6); (try clear p5); (try clear p8); (try clear p16); (try clear p19); (try clear pc1); (try clear pc2); (try clear pc3); (try clear pq1); (try clear pq2); (try clear pq3); (try clear hn5); (try clear hn6); (try clear p15); (try clear p23); (try clear p26); (try clear p34); (try clear p37); (try clear p39); (try clear hq); (try clear hEc); (try clear hEq); (try clear hdist); (try clear hnc); (try clear hnq); (try clear hnq2); (try clear hEq2); (try clear p31); (try clear p42); (try clear p54); (try clear p57); (try clear p71); (try clear hna); (try clear hEa); simp only [vp_in_iff, Int32.lt_iff_toInt_lt, Int32.le_iff_toInt_le, ← Int32.toInt_inj, Int32.toInt_add, Int32.toInt_sub, Int32.toInt_mul, Int32.toInt_neg, pq_NuO, pq_NuI, pq_NuJ, pq_NuR, pq_shr6, pq_shr7, pq_shr8, lqm1, lq0, lq1] at *; (try simp (disch := omega) only [pq_bm] at *); all_goals omega)) (by focus ((try clear hB); (try clear hB2); (try clear hB3); (try clear hB4); (try clear hC); (try clear hC5); (try clear hC8); (try clear hC6); (try clear hC9); (try clear hE5); (try clear hE6); (try clear hEn5); (try clear hEn6); (try clear p5); (try clear p8); (try clear p16); (try clear p19); (try clear pc1); (try clear pc2); (try clear pc3); (try clear pq1); (try clear pq2); (try clear pq3); (try clear hn5); (try clear hn6); (try clear p15); (try clear p23); (try clear p26); (try clear p34); (try clear p37); (try clear p39); (try clear hq); (try clear hEc); (try clear hEq); (try clear hdist); (try clear hnc); (try clear hnq); (try clear hnq2); (try clear hEq2); (try clear p31); (try clear p42); (try clear p54); (try clear p57); (try clear p71); (try clear hna); (try clear hEa); simp only [vp_in_iff, Int32.lt_iff_toInt_lt, Int32.le_iff_toInt_le, ← Int32.toInt_inj, Int32.toInt_add, Int32.toInt_sub, Int32.toInt_mul, Int32.toInt_neg, pq_NuO, pq_NuI, pq_NuJ, pq_NuR, pq_shr6, pq_shr7, pq_shr8, lqm1, lq0, lq1] at *; (try simp (disch := omega) only [pq_bm] at *); all_goals omega))).fr hF26 (by decide))).e6 hd0 hd1 ((((hB.p5 (by focus ((try clear hB); (try clear hB2); (try clear hB3); (try clear hB4); (try clear hC); (try clear hC5); (try clear hC8); (try clear hC6); (try clear hC9); (try clear hE5); (try clear hE6); (try clear hEn5); (try clear hEn6); (try clear p5); (try clear p8); (try clear p16); (try clear p19); (try clear pc1); (try clear pc2); (try clear pc3); (try clear pq1); (try clear pq2); (try clear pq3); (try clear hn5); (try clear hn6); (try clear p15); (try clear p23); (try clear p26); (try clear p34); (try clear p37); (try clear p39); (try clear hq); (try clear hEc); (try clear hEq); (try clear hdist); (try clear hnc); (try clear hnq); (try clear hnq2); (try clear hEq2); (try clear p31); (try clear p42); (try clear p54); (try clear p57); (try clear p71); (try clear hna); (try clear hEa); simp only [vp_in_iff, Int32.lt_iff_toInt_lt, Int32.le_iff_toInt_le, ← Int32.toInt_inj, Int32.toInt_add, Int32.toInt_sub, Int32.toInt_mul, Int32.toInt_neg, pq_NuO, pq_NuI, pq_NuJ, pq_NuR, pq_shr6, pq_shr7, pq_shr8, lqm1, lq0, lq1] at *; (try simp (disch := omega) only [pq_bm] at *); all_goals omega)) (by focus ((try clear hB); (try clear hB2); (try clear hB3); (try clear hB4); (try clear hC); (try clear hC5); (try clear hC8); (try clear hC6); (try clear hC9); (try clear hE5); (try clear hE6); (try clear hEn5); (try clear hEn6); (try clear p5); (try clear p8); (try clear p16); (try clear p19); (try clear pc1); (try clear pc2); (try clear pc3); (try clear pq1); (try clear pq2); (try clear pq3); (try clear hn5); (try clear hn6); (try clear p15); (try clear p23); (try clear p26); (try clear p34); (try clear p37); (try clear p39); (try clear hq); (try clear hEc); (try clear hEq); (try clear hdist); (try clear hnc); (try clear hnq); (try clear hnq2); (try clear hEq2); (try clear p31); (try clear p42); (try clear p54); (try clear p57); (try clear p71); (try clear hna); (try clear hEa); simp only [vp_in_iff, Int32.lt_iff_toInt_lt, Int32.le_iff_toInt_le, ← Int32.toInt_inj, Int32.toInt_add, Int32.toInt_sub, Int32.toInt_mul, Int32.toInt_neg, pq_NuO, pq_NuI, pq_NuJ, pq_NuR, pq_shr6, pq_shr7, pq_shr8, lqm1, lq0, lq1] at *; (try simp (disch := omega) only [pq_bm] at *); all_goals omega))).fr hF26 (by decide))).q (Int.le_refl _))) ml_X6_59 ha_26 (by decide) rfl (Nat.le_of_ble_eq_true rfl) ⟨Nat.le_of_ble_eq_true rfl, Nat.le_of_ble_eq_true rfl⟩ ⟨by decide, by decide⟩ dX6_nextChoice_34 (fun v34 S34 w34 => ?_)
  · exact ha_26
  · exact hz_26z
  obtain ⟨u34, y34, rfl, hy34, p34⟩ := w34
  rw [u34]
  rw [u34] at hy34
  try rw [u34] at p34
  have hEq2n : tk_nm S26 ch sq am wh (2 * dn + 2) = some y34 := (by rw [tk_nmq hdl, ← tk_ix hdn]; exact p34)
  have hEq2 := hC6.1 _ _ (by omega) hEq2n
  rw [tr_upn (show 2 * dn + 2 ≠ 2 * dn + 1 by omega)] at hEq2
  refine pq_callV (As := []) F (k_X2_emptyTextG l D cy _ _ ?_ (hh (2 * dn + 2)) (tt (2 * dn + 2)) (EE (2 * dn + 2)) hEq2) ml_X6_76 hy34 (by decide) rfl (Nat.le_of_ble_eq_true rfl) ⟨Nat.le_of_ble_eq_true rfl, Nat.le_of_ble_eq_true rfl⟩ ⟨by decide, by decide⟩ dX6_nextChoice_37 (fun v37 S37 w37 => ?_)
  · exact hy34
  obtain ⟨rfl, hF37, p37⟩ := w37
  have ha_37 := (hF37.1 _ _ ha_26 (by decide)).1
  have hz_37 := (hF37.1 _ _ hz_26 (by decide)).1
  have ec37_2_ha_37 := hF37.O ha_26 (by decide) (by decide) ec26_2_ha_26
  have hz_26z_37 := (hF37.1 _ _ hz_26z (by decide)).1
  have ec37_3_ha_37 := hF37.O ha_26 (by decide) (by decide) ec26_3_ha_26
  have hz_26zz_37 := (hF37.1 _ _ hz_26zz (by decide)).1
  have ec37_0_ha_37 := hF37.O ha_26 (by decide) (by decide) ec26_0_ha_26
  have ec37_6_ha_37 := hF37.O ha_26 (by decide) (by decide) ec26_6_ha_26
  have ec37_7_ha_37 := hF37.O ha_26 (by decide) (by decide) ec26_7_ha_26
  have ec37_1_hz_26zz_37 := hF37.O hz_26zz (by decide) (by decide) ec26_1_hz_26zz
  have ec37_5_ha_37 := hF37.O ha_26 (by decide) (by decide) ec26_5_ha_26
  exact pq_vret F hr hlk hA (Nat.le_refl _) (Nat.le_refl _) (⟨rfl, (((pq_Fr.rf.uO ha (by decide)).cm hF26 (by decide)).cm hF37 (by decide)), ((hB.p5 (by focus ((try clear hB); (try clear hB2); (try clear hB3); (try clear hB4); (try clear hC); (try clear hC5); (try clear hC8); (try clear hC6); (try clear hC9); (try clear hE5); (try clear hE6); (try clear hEn5); (try clear hEn6); (try clear p5); (try clear p8); (try clear p16); (try clear p19); (try clear pc1); (try clear pc2); (try clear pc3); (try clear pq1); (try clear pq2); (try clear pq3); (try clear hn5); (try clear hn6); (try clear p15); (try clear p23); (try clear p26); (try clear p34); (try clear p37); (try clear p39); (try clear hq); (try clear hEc); (try clear hEq); (try clear hdist); (try clear hnc); (try clear hnq); (try clear hnq2); (try clear hEq2); (try clear p31); (try clear p42); (try clear p54); (try clear p57); (try clear p71); (try clear hna); (try clear hEa); simp only [vp_in_iff, Int32.lt_iff_toInt_lt, Int32.le_iff_toInt_le, ← Int32.toInt_inj, Int32.toInt_add, Int32.toInt_sub, Int32.toInt_mul, Int32.toInt_neg, pq_NuO, pq_NuI, pq_NuJ, pq_NuR, pq_shr6, pq_shr7, pq_shr8, lqm1, lq0, lq1] at *; (try simp (disch := omega) only [pq_bm] at *); all_goals omega)) (by focus ((try clear hB); (try clear hB2); (try clear hB3); (try clear hB4); (try clear hC); (try clear hC5); (try clear hC8); (try clear hC6); (try clear hC9); (try clear hE5); (try clear hE6); (try clear hEn5); (try clear hEn6); (try clear p5); (try clear p8); (try clear p16); (try clear p19); (try clear pc1); (try clear pc2); (try clear pc3); (try clear pq1); (try clear pq2); (try clear pq3); (try clear hn5); (try clear hn6); (try clear p15); (try clear p23); (try clear p26); (try clear p34); (try clear p37); (try clear p39); (try clear hq); (try clear hEc); (try clear hEq); (try clear hdist); (try clear hnc); (try clear hnq); (try clear hnq2); (try clear hEq2); (try clear p31); (try clear p42); (try clear p54); (try clear p57); (try clear p71); (try clear hna); (try clear hEa); simp only [vp_in_iff, Int32.lt_iff_toInt_lt, Int32.le_iff_toInt_le, ← Int32.toInt_inj, Int32.toInt_add, Int32.toInt_sub, Int32.toInt_mul, Int32.toInt_neg, pq_NuO, pq_NuI, pq_NuJ, pq_NuR, pq_shr6, pq_shr7, pq_shr8, lqm1, lq0, lq1] at *; (try simp (disch := omega) only [pq_bm] at *); all_goals omega))).fr hF26 (by decide)).fr hF37 (by decide), _, hC6.af (by omega) hEq2n p37.1 p37.2, (by rw [tr_upn (by omega), tr_ups]), tr_ups, (fun j j1 j2 => (by rw [tr_upn j2, tr_upn j1]))⟩) dX6_nextChoice_40

set_option maxHeartbeats 4000000 in
set_option maxRecDepth 100000 in
theorem k_X6_openGroupG (l : Launch) (D : va_G) (cy : Nat → ClassId) (S : HS) (a : Nat) (ha : pq_R S a 9) (ch sq tp : Nat) (dp at1 br t : Int32) (hB : pq_Rd S a ch sq tp dp at1 br t dp.toInt) (hat : at1.toInt ≤ t.toInt) (am wh dn : Nat) (hdn : dp.toInt = (dn : Int)) (hh tt : Nat → Nat) (EE : Nat → tq_E) (hC : tk_Co S ch sq am wh hh tt EE) : pq_C l D cy yX6_openGroup cX6_openGroup 1 (none) 5 6 34 S [.ref a] (fun v S2 => v = none ∧ pq_Fr [(190, 0), (191, 0), (5, 2), (230, 0), (231, 0), (9, 5), (9, 6), (9, 7)] S S2 ∧ (∃ (dp2 at2 br2 : Int32), pq_Rd S2 a ch sq tp dp2 at2 br2 t dp2.toInt ∧ ((dp.toInt = 40 ∧ br2 = at1 ∧ tk_Co S2 ch sq am wh hh tt EE) ∨ (¬ dp.toInt = 40 ∧ br2 = br ∧ at2 = at1 + 1 ∧ dp2 = dp + 1 ∧ ∃ (hh2 tt2 : Nat → Nat) (EE2 : Nat → tq_E), tk_Co S2 ch sq am wh hh2 tt2 EE2 ∧ EE2 (2 * (dn + 1) + 1) = tq_e0 ∧ EE2 (2 * (dn + 1) + 2) = tq_e1 ∧ ∀ j, j ≠ 2 * (dn + 1) + 1 → j ≠ 2 * (dn + 1) + 2 → EE2 j = EE j)))) := by
  refine pq_start (by decide) (Nat.le_of_ble_eq_true rfl) ?_
  intro p e s m args below meth c A F hr hlk hnm hA
  have lqm1 : (-1 : Int32).toInt = -1 := rfl
  have lq0 : (0 : Int32).toInt = 0 := rfl
  have lq1 : (1 : Int32).toInt = 1 := rfl
  have lq40 : (40 : Int32).toInt = 40 := rfl
  obtain ⟨hd0, hd1, ha0, ha1, ht0, ht1⟩ := hB.b
  refine pq_aload_n F dX6_openGroup_0 rfl rfl ?_
  refine pq_get F ha (by decide) lk_X6_45 hB.e6 dX6_openGroup_1 ?_
  refine pq_bipush (v := 40) F dX6_openGroup_4 (by decide) ?_
  refine pq_icmp_lt (tgt := 18) F dX6_openGroup_6 (by decide) (fun c6 => ?_) (fun c6 => ?_)
  · skip
    refine pq_aload_n F dX6_openGroup_18 rfl rfl ?_
    refine pq_dup F dX6_openGroup_19 rfl ?_
    refine pq_get F ha (by decide) lk_X6_38 hB.e5 dX6_openGroup_20 ?_
    refine pq_iconst (v := 1) F dX6_openGroup_23 (by decide) ?_
    refine pq_iadd F dX6_openGroup_24 ?_
    refine pq_putI F ha (by decide) lp_X6_38 rfl (pq_any1 _) (pq_any2 _) dX6_openGroup_25 ?_
    refine pq_aload_n F dX6_openGroup_28 rfl rfl ?_
    refine pq_dup F dX6_openGroup_29 rfl ?_
    refine pq_get F ha (by decide) lk_X6_45 (pq_kp hB.e6 (by decide)) dX6_openGroup_30 ?_
    refine pq_iconst (v := 1) F dX6_openGroup_33 (by decide) ?_
    refine pq_iadd F dX6_openGroup_34 ?_
    refine pq_putI F ha (by decide) lp_X6_45 rfl (by focus ((try clear hB); (try clear hB2); (try clear hB3); (try clear hB4); (try clear hC); (try clear hC5); (try clear hC8); (try clear hC6); (try clear hC9); (try clear hE5); (try clear hE6); (try clear hEn5); (try clear hEn6); (try clear p5); (try clear p8); (try clear p16); (try clear p19); (try clear pc1); (try clear pc2); (try clear pc3); (try clear pq1); (try clear pq2); (try clear pq3); (try clear hn5); (try clear hn6); (try clear p15); (try clear p23); (try clear p26); (try clear p34); (try clear p37); (try clear p39); (try clear hq); (try clear hEc); (try clear hEq); (try clear hdist); (try clear hnc); (try clear hnq); (try clear hnq2); (try clear hEq2); (try clear p31); (try clear p42); (try clear p54); (try clear p57); (try clear p71); (try clear hna); (try clear hEa); simp only [vp_in_iff, Int32.lt_iff_toInt_lt, Int32.le_iff_toInt_le, ← Int32.toInt_inj, Int32.toInt_add, Int32.toInt_sub, Int32.toInt_mul, Int32.toInt_neg, pq_NuO, pq_NuI, pq_NuJ, pq_NuR, pq_shr6, pq_shr7, pq_shr8, lqm1, lq0, lq1, lq40] at *; (try simp (disch := omega) only [pq_bm] at *); all_goals omega)) (by focus ((try clear hB); (try clear hB2); (try clear hB3); (try clear hB4); (try clear hC); (try clear hC5); (try clear hC8); (try clear hC6); (try clear hC9); (try clear hE5); (try clear hE6); (try clear hEn5); (try clear hEn6); (try clear p5); (try clear p8); (try clear p16); (try clear p19); (try clear pc1); (try clear pc2); (try clear pc3); (try clear pq1); (try clear pq2); (try clear pq3); (try clear hn5); (try clear hn6); (try clear p15); (try clear p23); (try clear p26); (try clear p34); (try clear p37); (try clear p39); (try clear hq); (try clear hEc); (try clear hEq); (try clear hdist); (try clear hnc); (try clear hnq); (try clear hnq2); (try clear hEq2); (try clear p31); (try clear p42); (try clear p54); (try clear p57); (try clear p71); (try clear hna); (try clear hEa); simp only [vp_in_iff, Int32.lt_iff_toInt_lt, Int32.le_iff_toInt_le, ← Int32.toInt_inj, Int32.toInt_add, Int32.toInt_sub, Int32.toInt_mul, Int32.toInt_neg, pq_NuO, pq_NuI, pq_NuJ, pq_NuR, pq_shr6, pq_shr7, pq_shr8, lqm1, lq0, lq1, lq40] at *; (try simp (disch := omega) only [pq_bm] at *); all_goals omega)) dX6_openGroup_35 ?_
    refine pq_aload_n F dX6_openGroup_38 rfl rfl ?_
    refine pq_callV (As := []) F (k_X6_beginLevelG l D cy _ _ ?_ _ _ _ _ _ _ _ (((hB.p5 (by focus ((try clear hB); (try clear hB2); (try clear hB3); (try clear hB4); (try clear hC); (try clear hC5); (try clear hC8); (try clear hC6); (try clear hC9); (try clear hE5); (try clear hE6); (try clear hEn5); (try clear hEn6); (try clear p5); (try clear p8); (try clear p16); (try clear p19); (try clear pc1); (try clear pc2); (try clear pc3); (try clear pq1); (try clear pq2); (try clear pq3); (try clear hn5); (try clear hn6); (try clear p15); (try clear p23); (try clear p26); (try clear p34); (try clear p37); (try clear p39); (try clear hq); (try clear hEc); (try clear hEq); (try clear hdist); (try clear hnc); (try clear hnq); (try clear hnq2); (try clear hEq2); (try clear p31); (try clear p42); (try clear p54); (try clear p57); (try clear p71); (try clear hna); (try clear hEa); simp only [vp_in_iff, Int32.lt_iff_toInt_lt, Int32.le_iff_toInt_le, ← Int32.toInt_inj, Int32.toInt_add, Int32.toInt_sub, Int32.toInt_mul, Int32.toInt_neg, pq_NuO, pq_NuI, pq_NuJ, pq_NuR, pq_shr6, pq_shr7, pq_shr8, lqm1, lq0, lq1, lq40] at *; (try simp (disch := omega) only [pq_bm] at *); all_goals omega)) (by focus ((try clear hB); (try clear hB2); (try clear hB3); (try clear hB4); (try clear hC); (try clear hC5); (try clear hC8); (try clear hC6); (try clear hC9); (try clear hE5); (try clear hE6); (try clear hEn5); (try clear hEn6); (try clear p5); (try clear p8); (try clear p16); (try clear p19); (try clear pc1); (try clear pc2); (try clear pc3); (try clear pq1); (try clear pq2); (try clear pq3); (try clear hn5); (try clear hn6); (try clear p15); (try clear p23); (try clear p26); (try clear p34); (try clear p37); (try clear p39); (try clear hq); (try clear hEc); (try clear hEq); (try clear hdist); (try clear hnc); (try clear hnq); (try clear hnq2); (try clear hEq2); (try clear p31); (try clear p42); (try clear p54); (try clear p57); (try clear p71); (try clear hna); (try clear hEa); simp only [vp_in_iff, Int32.lt_iff_toInt_lt, Int32.le_iff_toInt_le, ← Int32.toInt_inj, Int32.toInt_add, Int32.toInt_sub, Int32.toInt_mul, Int32.toInt_neg, pq_NuO, pq_NuI, pq_NuJ, pq_NuR, pq_shr6, pq_shr7, pq_shr8, lqm1, lq0, lq1, lq40] at *; (try simp (disch := omega) only [pq_bm] at *); all_goals omega))).p6 (by focus ((try clear hB); (try clear hB2); (try clear hB3); (try clear hB4); (try clear hC); (try clear hC5); (try clear hC8); (try clear hC6); (try clear hC9); (try clear hE5); (try clear hE6); (try clear hEn5); (try clear hEn6); (try clear p5); (try clear p8); (try clear p16); (try clear p19); (try clear pc1); (try clear pc2); (try clear pc3); (try clear pq1); (try clear pq2); (try clear pq3); (try clear hn5); (try clear hn6); (try clear p15); (try clear p23); (try clear p26); (try clear p34); (try clear p37); (try clear p39); (try clear hq); (try clear hEc); (try clear hEq); (try clear hdist); (try clear hnc); (try clear hnq); (try clear hnq2); (try clear hEq2); (try clear p31); (try clear p42); (try clear p54); (try clear p57); (try clear p71); (try clear hna); (try clear hEa); simp only [vp_in_iff, Int32.lt_iff_toInt_lt, Int32.le_iff_toInt_le, ← Int32.toInt_inj, Int32.toInt_add, Int32.toInt_sub, Int32.toInt_mul, Int32.toInt_neg, pq_NuO, pq_NuI, pq_NuJ, pq_NuR, pq_shr6, pq_shr7, pq_shr8, lqm1, lq0, lq1, lq40] at *; (try simp (disch := omega) only [pq_bm] at *); all_goals omega)) (by focus ((try clear hB); (try clear hB2); (try clear hB3); (try clear hB4); (try clear hC); (try clear hC5); (try clear hC8); (try clear hC6); (try clear hC9); (try clear hE5); (try clear hE6); (try clear hEn5); (try clear hEn6); (try clear p5); (try clear p8); (try clear p16); (try clear p19); (try clear pc1); (try clear pc2); (try clear pc3); (try clear pq1); (try clear pq2); (try clear pq3); (try clear hn5); (try clear hn6); (try clear p15); (try clear p23); (try clear p26); (try clear p34); (try clear p37); (try clear p39); (try clear hq); (try clear hEc); (try clear hEq); (try clear hdist); (try clear hnc); (try clear hnq); (try clear hnq2); (try clear hEq2); (try clear p31); (try clear p42); (try clear p54); (try clear p57); (try clear p71); (try clear hna); (try clear hEa); simp only [vp_in_iff, Int32.lt_iff_toInt_lt, Int32.le_iff_toInt_le, ← Int32.toInt_inj, Int32.toInt_add, Int32.toInt_sub, Int32.toInt_mul, Int32.toInt_neg, pq_NuO, pq_NuI, pq_NuJ, pq_NuR, pq_shr6, pq_shr7, pq_shr8, lqm1, lq0, lq1, lq40] at *; (try simp (disch := omega) only [pq_bm] at *); all_goals omega))).less (by focus ((try clear hB); (try clear hB2); (try clear hB3); (try clear hB4); (try clear hC); (try clear hC5); (try clear hC8); (try clear hC6); (try clear hC9); (try clear hE5); (try clear hE6); (try clear hEn5); (try clear hEn6); (try clear p5); (try clear p8); (try clear p16); (try clear p19); (try clear pc1); (try clear pc2); (try clear pc3); (try clear pq1); (try clear pq2); (try clear pq3); (try clear hn5); (try clear hn6); (try clear p15); (try clear p23); (try clear p26); (try clear p34); (try clear p37); (try clear p39); (try clear hq); (try clear hEc); (try clear hEq); (try clear hdist); (try clear hnc); (try clear hnq); (try clear hnq2); (try clear hEq2); (try clear p31); (try clear p42); (try clear p54); (try clear p57); (try clear p71); (try clear hna); (try clear hEa); simp only [vp_in_iff, Int32.lt_iff_toInt_lt, Int32.le_iff_toInt_le, ← Int32.toInt_inj, Int32.toInt_add, Int32.toInt_sub, Int32.toInt_mul, Int32.toInt_neg, pq_NuO, pq_NuI, pq_NuJ, pq_NuR, pq_shr6, pq_shr7, pq_shr8, lqm1, lq0, lq1, lq40] at *; (try simp (disch := omega) only [pq_bm] at *); all_goals omega))) am wh (dn + 1) ?_ hh tt EE (hC.fr (((pq_Fr.rf (M := [(9, 5), (9, 6)]) (S := S)).uO ha (by decide)).uO ha (by decide)) hB.h2 hB.h3 (by decide))) ml_X6_48 ha (by decide) rfl (Nat.le_of_ble_eq_true rfl) ⟨Nat.le_of_ble_eq_true rfl, Nat.le_of_ble_eq_true rfl⟩ ⟨Nat.le_of_ble_eq_true rfl, Nat.le_of_ble_eq_true rfl⟩ dX6_openGroup_39 (fun v39 S39 w39 => ?_)
    · exact ha
    · focus ((try clear hB); (try clear hB2); (try clear hB3); (try clear hB4); (try clear hC); (try clear hC5); (try clear hC8); (try clear hC6); (try clear hC9); (try clear hE5); (try clear hE6); (try clear hEn5); (try clear hEn6); (try clear p5); (try clear p8); (try clear p16); (try clear p19); (try clear pc1); (try clear pc2); (try clear pc3); (try clear pq1); (try clear pq2); (try clear pq3); (try clear hn5); (try clear hn6); (try clear p15); (try clear p23); (try clear p26); (try clear p34); (try clear p37); (try clear p39); (try clear hq); (try clear hEc); (try clear hEq); (try clear hdist); (try clear hnc); (try clear hnq); (try clear hnq2); (try clear hEq2); (try clear p31); (try clear p42); (try clear p54); (try clear p57); (try clear p71); (try clear hna); (try clear hEa); simp only [vp_in_iff, Int32.lt_iff_toInt_lt, Int32.le_iff_toInt_le, ← Int32.toInt_inj, Int32.toInt_add, Int32.toInt_sub, Int32.toInt_mul, Int32.toInt_neg, pq_NuO, pq_NuI, pq_NuJ, pq_NuR, pq_shr6, pq_shr7, pq_shr8, lqm1, lq0, lq1, lq40] at *; (try simp (disch := omega) only [pq_bm] at *); all_goals omega)
    obtain ⟨rfl, hF39, p39⟩ := w39
    have ha_39 := (hF39.1 _ _ ha (by decide)).1
    have hz_39 := (hF39.1 _ _ hB.h2 (by decide)).1
    have ec39_2_ha_39 := hF39.O ha (by decide) (by decide) (pq_kp (pq_kp hB.e2 (by decide)) (by decide))
    have hz_39z := (hF39.1 _ _ hB.h3 (by decide)).1
    have ec39_3_ha_39 := hF39.O ha (by decide) (by decide) (pq_kp (pq_kp hB.e3 (by decide)) (by decide))
    have hz_39zz := (hF39.1 _ _ hB.h0 (by decide)).1
    have ec39_0_ha_39 := hF39.O ha (by decide) (by decide) (pq_kp (pq_kp hB.e0 (by decide)) (by decide))
    have ec39_7_ha_39 := hF39.O ha (by decide) (by decide) (pq_kp (pq_kp hB.e7 (by decide)) (by decide))
    have ec39_1_hz_39zz := hF39.O hB.h0 (by decide) (by decide) (pq_ko (pq_ko hB.et hB.h0 ha (by decide)) hB.h0 ha (by decide))
    have ec39_5_ha_39 := hF39.O ha (by decide) (by decide) (pq_kp pq_ks (by decide))
    have ec39_6_ha_39 := hF39.O ha (by decide) (by decide) pq_ks
    exact pq_vret F hr hlk hA (Nat.le_of_ble_eq_true rfl) (Nat.le_of_ble_eq_true rfl) (⟨rfl, (((pq_Fr.rf.uO ha (by decide)).uO ha (by decide)).cm hF39 (by decide)), _, _, _, p39.1, Or.inr ⟨(by focus ((try clear hB); (try clear hB2); (try clear hB3); (try clear hB4); (try clear hC); (try clear hC5); (try clear hC8); (try clear hC6); (try clear hC9); (try clear hE5); (try clear hE6); (try clear hEn5); (try clear hEn6); (try clear p5); (try clear p8); (try clear p16); (try clear p19); (try clear pc1); (try clear pc2); (try clear pc3); (try clear pq1); (try clear pq2); (try clear pq3); (try clear hn5); (try clear hn6); (try clear p15); (try clear p23); (try clear p26); (try clear p34); (try clear p37); (try clear p39); (try clear hq); (try clear hEc); (try clear hEq); (try clear hdist); (try clear hnc); (try clear hnq); (try clear hnq2); (try clear hEq2); (try clear p31); (try clear p42); (try clear p54); (try clear p57); (try clear p71); (try clear hna); (try clear hEa); simp only [vp_in_iff, Int32.lt_iff_toInt_lt, Int32.le_iff_toInt_le, ← Int32.toInt_inj, Int32.toInt_add, Int32.toInt_sub, Int32.toInt_mul, Int32.toInt_neg, pq_NuO, pq_NuI, pq_NuJ, pq_NuR, pq_shr6, pq_shr7, pq_shr8, lqm1, lq0, lq1, lq40] at *; (try simp (disch := omega) only [pq_bm] at *); all_goals omega)), rfl, rfl, rfl, p39.2⟩⟩) dX6_openGroup_42
  · skip
    refine pq_aload_n F dX6_openGroup_9 rfl rfl ?_
    refine pq_aload_n F dX6_openGroup_10 rfl rfl ?_
    refine pq_get F ha (by decide) lk_X6_38 hB.e5 dX6_openGroup_11 ?_
    refine pq_putI F ha (by decide) lp_X6_42 rfl (pq_any1 _) (pq_any2 _) dX6_openGroup_14 ?_
    exact pq_vret F hr hlk hA (Nat.le_of_ble_eq_true rfl) (Nat.le_of_ble_eq_true rfl) (⟨rfl, (pq_Fr.rf.uO ha (by decide)), _, _, _, hB.p7, Or.inl ⟨(by focus ((try clear hB); (try clear hB2); (try clear hB3); (try clear hB4); (try clear hC); (try clear hC5); (try clear hC8); (try clear hC6); (try clear hC9); (try clear hE5); (try clear hE6); (try clear hEn5); (try clear hEn6); (try clear p5); (try clear p8); (try clear p16); (try clear p19); (try clear pc1); (try clear pc2); (try clear pc3); (try clear pq1); (try clear pq2); (try clear pq3); (try clear hn5); (try clear hn6); (try clear p15); (try clear p23); (try clear p26); (try clear p34); (try clear p37); (try clear p39); (try clear hq); (try clear hEc); (try clear hEq); (try clear hdist); (try clear hnc); (try clear hnq); (try clear hnq2); (try clear hEq2); (try clear p31); (try clear p42); (try clear p54); (try clear p57); (try clear p71); (try clear hna); (try clear hEa); simp only [vp_in_iff, Int32.lt_iff_toInt_lt, Int32.le_iff_toInt_le, ← Int32.toInt_inj, Int32.toInt_add, Int32.toInt_sub, Int32.toInt_mul, Int32.toInt_neg, pq_NuO, pq_NuI, pq_NuJ, pq_NuR, pq_shr6, pq_shr7, pq_shr8, lqm1, lq0, lq1, lq40] at *; (try simp (disch := omega) only [pq_bm] at *); all_goals omega)), rfl, hC.fr ((pq_Fr.rf (M := [(9, 7)]) (S := S)).uO ha (by decide)) hB.h2 hB.h3 (by decide)⟩⟩) dX6_openGroup_17

