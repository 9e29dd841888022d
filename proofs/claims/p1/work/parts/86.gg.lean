set_option maxHeartbeats 4000000 in
set_option maxRecDepth 100000 in
theorem k_X10_firstY (l : Launch) (D : va_G) (cy : Nat → ClassId) (hl0 : l.stackTraces = false) (S : HS) (a : Nat) (ha : pq_R S a 13) (kd : Int32) (hY : pf_Y S a) : pq_CX l D cy yX10_first cX10_first 2 (some .int) 6 4 9 S [.ref a, .int kd] (fun v S2 => pq_Fr [(10, 7), (10, 1), (163, 0), (10, 2), (10, 3), (10, 4), (10, 5), (164, 0), (165, 0), (196, 0), (10, 6), (103, 0)] S S2 ∧ ∃ x : Int32, v = some (.int x) ∧ ((0 ≤ kd.toInt ∧ kd.toInt ≤ 4) ∧ x = (if kd = 3 then 0 else if kd = 4 then 1 else -1))) (fun E S2 => E = "java/lang/IllegalArgumentException" ∧ ¬ (0 ≤ kd.toInt ∧ kd.toInt ≤ 4) ∧ pq_Fr [(10, 7), (10, 1), (163, 0), (10, 2), (10, 3), (10, 4), (10, 5), (164, 0), (165, 0), (196, 0), (10, 6), (103, 0)] S S2) := by
  refine pq_startX (by decide) (Nat.le_of_ble_eq_true rfl) ?_
  intro p e s m args below meth c A F hr hlk hnm hA ht
  have lqm1 : (-1 : Int32).toInt = -1 := rfl
  have lq0 : (0 : Int32).toInt = 0 := rfl
  have lq1 : (1 : Int32).toInt = 1 := rfl
  have lq5 : (5 : Int32).toInt = 5 := rfl
  obtain ⟨tp, pl, rd, wk, mg, pt, ct, sr, A9, B9, hIf, ft1, fx8, hAA, hBB, hIs, fs7⟩ := hY
  have hIf2 := hIf
  obtain ⟨⟨fa0, fa1, fa2, fa3, fa4, fa5, fa6, fa7⟩, ⟨fb0, fb1, fb2, fb3, fb4, fb5, fb6, fb7, fb8⟩, ⟨fc0, fc1, fc2, fc3⟩, ⟨fd0, fd1, fd2, fd3⟩⟩ := hIf2
  obtain ⟨koA, stA, acA, ⟨⟨xa0, ka0⟩, ⟨xa3, ka3⟩, xa2, ka2⟩, ⟨xa4, xa5, xa6, xa7⟩, xak, xas, xac⟩ := hAA
  obtain ⟨koB, stB, acB, ⟨⟨xb0, kb0⟩, ⟨xb3, kb3⟩, xb2, kb2⟩, ⟨xb4, xb5, xb6, xb7⟩, xbk, xbs, xbc⟩ := hBB
  refine pq_iload_n F dX10_first_0 rfl rfl ?_
  refine pq_if_lt (tgt := 9) F dX10_first_1 (by decide) (fun c1 => ?_) (fun c1 => ?_)
  · skip
    exact pq_thr F ht hlk hA hl0 (is := 142) (text := "there is no such kind of text") (cls := "java/lang/IllegalArgumentException") (by decide) xw_93 ⟨Nat.le_of_ble_eq_true rfl, Nat.le_of_ble_eq_true rfl⟩ (Nat.le_of_ble_eq_true rfl) (Nat.le_of_ble_eq_true rfl) (Nat.le_of_ble_eq_true rfl) (Nat.le_of_ble_eq_true rfl) (⟨rfl, (fun z => by focus ((try clear hIf); (try clear hIs); (try clear xak); (try clear xas); (try clear xac); (try clear xbk); (try clear xbs); (try clear xbc); (try clear p1); (try clear p36); (try clear hIs2); simp only [vp_in_iff, Int32.lt_iff_toInt_lt, Int32.le_iff_toInt_le, ← Int32.toInt_inj, Int32.toInt_add, Int32.toInt_sub, Int32.toInt_mul, Int32.toInt_neg, pq_NuO, pq_NuI, pq_NuJ, pq_NuR, pq_shr6, pq_shr7, pq_shr8, lqm1, lq0, lq1, lq5] at *; (try simp (disch := omega) only [pq_bm] at *); all_goals omega)), pq_Fr.rf⟩) dX10_first_9 dX10_first_12 dX10_first_13 dX10_first_15 dX10_first_18
  · skip
    refine pq_iload_n F dX10_first_4 rfl rfl ?_
    refine pq_iconst (v := 5) F dX10_first_5 (by decide) ?_
    refine pq_icmp_lt (tgt := 19) F dX10_first_6 (by decide) (fun c6 => ?_) (fun c6 => ?_)
    · skip
      have hIs2 := hIs
      obtain ⟨pr, og, sn, tx, le, ⟨g1, g2, g3, g4, g5, g6, g7, g8⟩, g9, g10, g11, g12, g13⟩ := hIs2
      refine pq_refF fb8 (by decide) (show pq_ft 10 0 = (163 + 3, 0, 0) from rfl) (fun lb flb hlb => ?_)
      refine pq_aload_n F dX10_first_19 rfl rfl ?_
      refine pq_get F ha (by decide) lk_X10_67 fa7 dX10_first_20 ?_
      refine pq_aload_n F dX10_first_23 rfl rfl ?_
      refine pq_get F ha (by decide) lk_X10_53 fa5 dX10_first_24 ?_
      refine pq_iconst (v := 0) F dX10_first_27 (by decide) ?_
      refine pq_aald F fb6 (by decide) (fun n1_28 n2_28 => (by change _ ≤ _ at n1_28; change _ ≤ 2 at n2_28; change 2 ≤ _ at n1_28; focus ((try clear hIf); (try clear hIs); (try clear xak); (try clear xas); (try clear xac); (try clear xbk); (try clear xbs); (try clear xbc); (try clear p1); (try clear p36); (try clear hIs2); simp only [vp_in_iff, Int32.lt_iff_toInt_lt, Int32.le_iff_toInt_le, ← Int32.toInt_inj, Int32.toInt_add, Int32.toInt_sub, Int32.toInt_mul, Int32.toInt_neg, pq_NuO, pq_NuI, pq_NuJ, pq_NuR, pq_shr6, pq_shr7, pq_shr8, lqm1, lq0, lq1, lq5] at *; (try simp (disch := omega) only [pq_bm] at *); all_goals omega))) dX10_first_28 (fun o28 e28 k28 => ?_)
      have e28b : o28 = some A9 := e28.trans fd0
      subst e28b
      refine pq_aload_n F dX10_first_29 rfl rfl ?_
      refine pq_get F ha (by decide) lk_X10_53 fa5 dX10_first_30 ?_
      refine pq_iconst (v := 1) F dX10_first_33 (by decide) ?_
      refine pq_aald F fb6 (by decide) (fun n1_34 n2_34 => (by change _ ≤ _ at n1_34; change _ ≤ 2 at n2_34; change 2 ≤ _ at n1_34; focus ((try clear hIf); (try clear hIs); (try clear xak); (try clear xas); (try clear xac); (try clear xbk); (try clear xbs); (try clear xbc); (try clear p1); (try clear p36); (try clear hIs2); simp only [vp_in_iff, Int32.lt_iff_toInt_lt, Int32.le_iff_toInt_le, ← Int32.toInt_inj, Int32.toInt_add, Int32.toInt_sub, Int32.toInt_mul, Int32.toInt_neg, pq_NuO, pq_NuI, pq_NuJ, pq_NuR, pq_shr6, pq_shr7, pq_shr8, lqm1, lq0, lq1, lq5] at *; (try simp (disch := omega) only [pq_bm] at *); all_goals omega))) dX10_first_34 (fun o34 e34 k34 => ?_)
      have e34b : o34 = some B9 := e34.trans fd1
      subst e34b
      refine pq_iload_n F dX10_first_35 rfl rfl ?_
      refine pq_callV (As := [_, _, _]) F (k_X7_findY l D cy _ _ ?_ _ ?_ _ ?_ _ ?_ ?_ koA stA acA koB stB acB xa0 ka0 xa3 ka3 xa2 ka2 xa4 xb0 kb0 xb3 kb3 xb2 kb2 xb4 xak xas xac xbk xbs xbc xa5 xa6 xa7 xb5 xb6 xb7 pr og sn lb tx g1 g2 g3 g4 g5 g6 flb hlb g7 g8 g11 g12 g13) ml_X10_144 fb8 (by decide) rfl (Nat.le_of_ble_eq_true rfl) ⟨Nat.le_of_ble_eq_true rfl, Nat.le_of_ble_eq_true rfl⟩ ⟨Nat.le_of_ble_eq_true rfl, Nat.le_of_ble_eq_true rfl⟩ dX10_first_36 (fun v36 S36 w36 => ?_)
      · exact fb8
      · exact fd2
      · exact fd3
      · focus ((try clear hIf); (try clear hIs); (try clear xak); (try clear xas); (try clear xac); (try clear xbk); (try clear xbs); (try clear xbc); (try clear p1); (try clear p36); (try clear hIs2); simp only [vp_in_iff, Int32.lt_iff_toInt_lt, Int32.le_iff_toInt_le, ← Int32.toInt_inj, Int32.toInt_add, Int32.toInt_sub, Int32.toInt_mul, Int32.toInt_neg, pq_NuO, pq_NuI, pq_NuJ, pq_NuR, pq_shr6, pq_shr7, pq_shr8, lqm1, lq0, lq1, lq5] at *; (try simp (disch := omega) only [pq_bm] at *); all_goals omega)
      · focus ((try clear hIf); (try clear hIs); (try clear xak); (try clear xas); (try clear xac); (try clear xbk); (try clear xbs); (try clear xbc); (try clear p1); (try clear p36); (try clear hIs2); simp only [vp_in_iff, Int32.lt_iff_toInt_lt, Int32.le_iff_toInt_le, ← Int32.toInt_inj, Int32.toInt_add, Int32.toInt_sub, Int32.toInt_mul, Int32.toInt_neg, pq_NuO, pq_NuI, pq_NuJ, pq_NuR, pq_shr6, pq_shr7, pq_shr8, lqm1, lq0, lq1, lq5] at *; (try simp (disch := omega) only [pq_bm] at *); all_goals omega)
      obtain ⟨hF36, y36, rfl, p36⟩ := w36
      have ha_36 := (hF36.1 _ _ ha (by decide)).1
      have fb1_36 := (hF36.1 _ _ fb1 (by decide)).1
      have ec36_0_ha_36 := hF36.O ha (by decide) (by decide) fa0
      have fb2_36 := (hF36.1 _ _ fb2 (by decide)).1
      have ec36_1_ha_36 := hF36.O ha (by decide) (by decide) fa1
      have fb3_36 := (hF36.1 _ _ fb3 (by decide)).1
      have ec36_2_ha_36 := hF36.O ha (by decide) (by decide) fa2
      have fb4_36 := (hF36.1 _ _ fb4 (by decide)).1
      have ec36_3_ha_36 := hF36.O ha (by decide) (by decide) fa3
      have fb5_36 := (hF36.1 _ _ fb5 (by decide)).1
      have ec36_4_ha_36 := hF36.O ha (by decide) (by decide) fa4
      have fb6_36 := (hF36.1 _ _ fb6 (by decide)).1
      have ec36_5_ha_36 := hF36.O ha (by decide) (by decide) fa5
      have fb7_36 := (hF36.1 _ _ fb7 (by decide)).1
      have ec36_6_ha_36 := hF36.O ha (by decide) (by decide) fa6
      have fb8_36 := (hF36.1 _ _ fb8 (by decide)).1
      have ec36_7_ha_36 := hF36.O ha (by decide) (by decide) fa7
      have ec36_1_fb1_36 := hF36.O fb1 (by decide) (by decide) ft1
      have ec36_8_ha_36 := hF36.O ha (by decide) (by decide) fx8
      have ka0_36 := (hF36.1 _ _ ka0 (by decide)).1
      have fd2_36 := (hF36.1 _ _ fd2 (by decide)).1
      have ec36_0_fd2_36 := hF36.O fd2 (by decide) (by decide) xa0
      have ka3_36 := (hF36.1 _ _ ka3 (by decide)).1
      have ec36_3_fd2_36 := hF36.O fd2 (by decide) (by decide) xa3
      have ka2_36 := (hF36.1 _ _ ka2 (by decide)).1
      have ec36_2_fd2_36 := hF36.O fd2 (by decide) (by decide) xa2
      have ec36_4_fd2_36 := hF36.O fd2 (by decide) (by decide) xa4
      have ec36_5_fd2_36 := hF36.O fd2 (by decide) (by decide) xa5
      have ec36_6_fd2_36 := hF36.O fd2 (by decide) (by decide) xa6
      have ec36_7_fd2_36 := hF36.O fd2 (by decide) (by decide) xa7
      have kb0_36 := (hF36.1 _ _ kb0 (by decide)).1
      have fd3_36 := (hF36.1 _ _ fd3 (by decide)).1
      have ec36_0_fd3_36 := hF36.O fd3 (by decide) (by decide) xb0
      have kb3_36 := (hF36.1 _ _ kb3 (by decide)).1
      have ec36_3_fd3_36 := hF36.O fd3 (by decide) (by decide) xb3
      have kb2_36 := (hF36.1 _ _ kb2 (by decide)).1
      have ec36_2_fd3_36 := hF36.O fd3 (by decide) (by decide) xb2
      have ec36_4_fd3_36 := hF36.O fd3 (by decide) (by decide) xb4
      have ec36_5_fd3_36 := hF36.O fd3 (by decide) (by decide) xb5
      have ec36_6_fd3_36 := hF36.O fd3 (by decide) (by decide) xb6
      have ec36_7_fd3_36 := hF36.O fd3 (by decide) (by decide) xb7
      exact pq_lift (pq_iret F hr hlk hA (Nat.le_of_ble_eq_true rfl) (Nat.le_of_ble_eq_true rfl) (⟨(pq_Fr.rf.cm hF36 (by decide)), _, rfl, ⟨(by focus ((try clear hIf); (try clear hIs); (try clear xak); (try clear xas); (try clear xac); (try clear xbk); (try clear xbs); (try clear xbc); (try clear p1); (try clear p36); (try clear hIs2); simp only [vp_in_iff, Int32.lt_iff_toInt_lt, Int32.le_iff_toInt_le, ← Int32.toInt_inj, Int32.toInt_add, Int32.toInt_sub, Int32.toInt_mul, Int32.toInt_neg, pq_NuO, pq_NuI, pq_NuJ, pq_NuR, pq_shr6, pq_shr7, pq_shr8, lqm1, lq0, lq1, lq5] at *; (try simp (disch := omega) only [pq_bm] at *); all_goals omega)), (by focus ((try clear hIf); (try clear hIs); (try clear xak); (try clear xas); (try clear xac); (try clear xbk); (try clear xbs); (try clear xbc); (try clear p1); (try clear p36); (try clear hIs2); simp only [vp_in_iff, Int32.lt_iff_toInt_lt, Int32.le_iff_toInt_le, ← Int32.toInt_inj, Int32.toInt_add, Int32.toInt_sub, Int32.toInt_mul, Int32.toInt_neg, pq_NuO, pq_NuI, pq_NuJ, pq_NuR, pq_shr6, pq_shr7, pq_shr8, lqm1, lq0, lq1, lq5] at *; (try simp (disch := omega) only [pq_bm] at *); all_goals omega))⟩, p36⟩) dX10_first_39)
    · skip
      exact pq_thr F ht hlk hA hl0 (is := 142) (text := "there is no such kind of text") (cls := "java/lang/IllegalArgumentException") (by decide) xw_93 ⟨Nat.le_of_ble_eq_true rfl, Nat.le_of_ble_eq_true rfl⟩ (Nat.le_of_ble_eq_true rfl) (Nat.le_of_ble_eq_true rfl) (Nat.le_of_ble_eq_true rfl) (Nat.le_of_ble_eq_true rfl) (⟨rfl, (fun z => by focus ((try clear hIf); (try clear hIs); (try clear xak); (try clear xas); (try clear xac); (try clear xbk); (try clear xbs); (try clear xbc); (try clear p1); (try clear p36); (try clear hIs2); simp only [vp_in_iff, Int32.lt_iff_toInt_lt, Int32.le_iff_toInt_le, ← Int32.toInt_inj, Int32.toInt_add, Int32.toInt_sub, Int32.toInt_mul, Int32.toInt_neg, pq_NuO, pq_NuI, pq_NuJ, pq_NuR, pq_shr6, pq_shr7, pq_shr8, lqm1, lq0, lq1, lq5] at *; (try simp (disch := omega) only [pq_bm] at *); all_goals omega)), pq_Fr.rf⟩) dX10_first_9 dX10_first_12 dX10_first_13 dX10_first_15 dX10_first_18

