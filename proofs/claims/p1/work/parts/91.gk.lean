set_option maxHeartbeats 4000000 in
set_option maxRecDepth 100000 in
theorem k_X10_setY (l : Launch) (D : va_G) (cy : Nat → ClassId) (hl0 : l.stackTraces = false) (S : HS) (a : Nat) (ha : pq_R S a 13) (pw : Int32) (hY : pf_Y S a) : pq_CX l D cy yX10_set cX10_set 3 (some .int) 6 9 1246 S [.ref a, .int pw] (fun v S2 => pq_Fr [(9, 5), (9, 6), (9, 7), (9, 8), (9, 9), (5, 2), (190, 0), (191, 0), (195, 0), (194, 0), (8, 3), (230, 0), (231, 0), (13, 8), (12, 1), (6, 3), (156, 0), (157, 0), (158, 0), (11, 6), (198, 0), (199, 0), (167, 0), (11, 7), (11, 8), (11, 9), (166, 0), (197, 0), (7, 7), (159, 0), (192, 0), (193, 0), (161, 0), (162, 0), (160, 0), (150, 0), (151, 0), (3, 4), (3, 5), (3, 3), (3, 6), (3, 7), (206, 0), (152, 0), (153, 0), (154, 0), (33, 4), (33, 5), (33, 3), (33, 6), (33, 7), (207, 0), (155, 0)] S S2 ∧ ∃ x : Int32, v = some (.int x) ∧ ((pw = 0 ∨ pw = 1) ∧ x = 0)) (fun E S2 => E = "java/lang/IllegalArgumentException" ∧ ¬ (pw = 0 ∨ pw = 1) ∧ pq_Fr [(9, 5), (9, 6), (9, 7), (9, 8), (9, 9), (5, 2), (190, 0), (191, 0), (195, 0), (194, 0), (8, 3), (230, 0), (231, 0), (13, 8), (12, 1), (6, 3), (156, 0), (157, 0), (158, 0), (11, 6), (198, 0), (199, 0), (167, 0), (11, 7), (11, 8), (11, 9), (166, 0), (197, 0), (7, 7), (159, 0), (192, 0), (193, 0), (161, 0), (162, 0), (160, 0), (150, 0), (151, 0), (3, 4), (3, 5), (3, 3), (3, 6), (3, 7), (206, 0), (152, 0), (153, 0), (154, 0), (33, 4), (33, 5), (33, 3), (33, 6), (33, 7), (207, 0), (155, 0)] S S2) := by
  refine pq_startX (by decide) (Nat.le_of_ble_eq_true rfl) ?_
  intro p e s m args below meth c A F hr hlk hnm hA ht
  have lqm1 : (-1 : Int32).toInt = -1 := rfl
  have lq0 : (0 : Int32).toInt = 0 := rfl
  have lq1 : (1 : Int32).toInt = 1 := rfl
  obtain ⟨tp, pl, rd, wk, mg, pt, ct, sr, A9, B9, hIf, ft1, fx8, hAA, hBB, hIs, fs7⟩ := hY
  have hIf2 := hIf
  obtain ⟨⟨fa0, fa1, fa2, fa3, fa4, fa5, fa6, fa7⟩, ⟨fb0, fb1, fb2, fb3, fb4, fb5, fb6, fb7, fb8⟩, ⟨fc0, fc1, fc2, fc3⟩, ⟨fd0, fd1, fd2, fd3⟩⟩ := hIf2
  obtain ⟨koA, stA, acA, ⟨⟨xa0, ka0⟩, ⟨xa3, ka3⟩, xa2, ka2⟩, ⟨xa4, xa5, xa6, xa7⟩, xak, xas, xac⟩ := hAA
  obtain ⟨koB, stB, acB, ⟨⟨xb0, kb0⟩, ⟨xb3, kb3⟩, xb2, kb2⟩, ⟨xb4, xb5, xb6, xb7⟩, xbk, xbs, xbc⟩ := hBB
  refine pq_peekR (k := 2) (show pq_R _ rd 9 from fb3) (by decide) rfl (fun ch fch hch => ?_)
  refine pq_peekR (k := 3) (show pq_R _ rd 9 from fb3) (by decide) rfl (fun sq fsq hsq => ?_)
  refine pq_peekR (k := 0) (show pq_R _ pl 8 from fb2) (by decide) rfl (fun tk ftk htk => ?_)
  refine pq_iload_n F dX10_set_0 rfl rfl ?_
  refine pq_callS (As := [_]) F (k_X10_isPattern l D cy _ _) ml_X10_94 (Nat.le_of_ble_eq_true rfl) ⟨Nat.le_of_ble_eq_true rfl, Nat.le_of_ble_eq_true rfl⟩ ⟨by decide, by decide⟩ dX10_set_1 (fun v1 S1 w1 => ?_)
  obtain ⟨u1, y1, rfl, yl1_0, yl1_1, p1⟩ := w1
  rw [u1]
  try rw [u1] at p1
  refine pq_istore_n F dX10_set_4 rfl (by decide) ?_
  refine pq_aload_n F dX10_set_5 rfl rfl ?_
  refine pq_iload_n F dX10_set_6 rfl rfl ?_
  refine pq_if_eq (tgt := 20) F dX10_set_7 (by decide) (fun c7 => ?_) (fun c7 => ?_)
  · skip
    refine pq_iconst (v := -1) F dX10_set_20 (by decide) ?_
    refine pq_putI F ha (by decide) lp_X10_71 rfl (pq_any1 _) (pq_any2 _) dX10_set_21 ?_
    refine pq_aload_n F dX10_set_24 rfl rfl ?_
    refine pq_get F ha (by decide) lk_X10_10 (pq_kp fa0 (by decide)) dX10_set_25 ?_
    refine pq_iconst (v := 0) F dX10_set_28 (by decide) ?_
    refine pq_putI F fb1 (by decide) lp_X10_75 rfl (by focus ((try clear hIf); (try clear hIs); (try clear xak); (try clear xas); (try clear xac); (try clear xbk); (try clear xbs); (try clear xbc); (try clear p1); (try clear p14); (try clear p67); (try clear p77); (try clear p113); (try clear hZ); (try clear hW9); (try clear hst9); (try clear hko9); (try clear hW7); (try clear hst7); (try clear hlt7); (try clear hIf7); (try clear hZr); (try clear hG); (try clear hG1); (try clear hIf8); (try clear hAuN); simp only [vp_in_iff, Int32.lt_iff_toInt_lt, Int32.le_iff_toInt_le, ← Int32.toInt_inj, Int32.toInt_add, Int32.toInt_sub, Int32.toInt_mul, Int32.toInt_neg, pq_NuO, pq_NuI, pq_NuJ, pq_NuR, pq_shr6, pq_shr7, pq_shr8, lqm1, lq0, lq1] at *; (try simp (disch := omega) only [pq_bm] at *); all_goals omega)) (by focus ((try clear hIf); (try clear hIs); (try clear xak); (try clear xas); (try clear xac); (try clear xbk); (try clear xbs); (try clear xbc); (try clear p1); (try clear p14); (try clear p67); (try clear p77); (try clear p113); (try clear hZ); (try clear hW9); (try clear hst9); (try clear hko9); (try clear hW7); (try clear hst7); (try clear hlt7); (try clear hIf7); (try clear hZr); (try clear hG); (try clear hG1); (try clear hIf8); (try clear hAuN); simp only [vp_in_iff, Int32.lt_iff_toInt_lt, Int32.le_iff_toInt_le, ← Int32.toInt_inj, Int32.toInt_add, Int32.toInt_sub, Int32.toInt_mul, Int32.toInt_neg, pq_NuO, pq_NuI, pq_NuJ, pq_NuR, pq_shr6, pq_shr7, pq_shr8, lqm1, lq0, lq1] at *; (try simp (disch := omega) only [pq_bm] at *); all_goals omega)) dX10_set_29 ?_
    refine pq_iload_n F dX10_set_32 rfl rfl ?_
    refine pq_if_ne (tgt := 46) F dX10_set_33 (by decide) (fun c33 => ?_) (fun c33 => ?_)
    · exact absurd c7 c33
    · skip
      exact pq_thr F ht hlk hA hl0 (is := 102) (text := "there is no such pattern") (cls := "java/lang/IllegalArgumentException") (by decide) xw_93 ⟨Nat.le_of_ble_eq_true rfl, Nat.le_of_ble_eq_true rfl⟩ (Nat.le_of_ble_eq_true rfl) (Nat.le_of_ble_eq_true rfl) (Nat.le_of_ble_eq_true rfl) (Nat.le_of_ble_eq_true rfl) (⟨rfl, (fun z => absurd (c7.symm.trans (p1.2 z)) (by decide)), ((pq_Fr.rf.uO ha (by decide)).uO fb1 (by decide))⟩) dX10_set_36 dX10_set_39 dX10_set_40 dX10_set_42 dX10_set_45
  · skip
    refine pq_aload_n F dX10_set_10 rfl rfl ?_
    refine pq_get F ha (by decide) lk_X10_28 fa2 dX10_set_11 ?_
    refine pq_callV (As := []) F (k_X6_readTapeY l D cy _ _ ?_ ch sq tp pl tk 0 fch hch fsq hsq fc0 fb1 ft1 rfl fc1 fb2 ftk htk) ml_X10_98 fb3 (by decide) rfl (Nat.le_of_ble_eq_true rfl) ⟨Nat.le_of_ble_eq_true rfl, Nat.le_of_ble_eq_true rfl⟩ ⟨Nat.le_of_ble_eq_true rfl, Nat.le_of_ble_eq_true rfl⟩ dX10_set_14 (fun v14 S14 w14 => ?_)
    · exact fb3
    obtain ⟨hF14, y14, rfl, p14⟩ := w14
    have ha_14 := (hF14.1 _ _ ha (by decide)).1
    have fb1_14 := (hF14.1 _ _ fb1 (by decide)).1
    have ec14_0_ha_14 := hF14.O ha (by decide) (by decide) fa0
    have fb2_14 := (hF14.1 _ _ fb2 (by decide)).1
    have ec14_1_ha_14 := hF14.O ha (by decide) (by decide) fa1
    have fb3_14 := (hF14.1 _ _ fb3 (by decide)).1
    have ec14_2_ha_14 := hF14.O ha (by decide) (by decide) fa2
    have fb4_14 := (hF14.1 _ _ fb4 (by decide)).1
    have ec14_3_ha_14 := hF14.O ha (by decide) (by decide) fa3
    have fb5_14 := (hF14.1 _ _ fb5 (by decide)).1
    have ec14_4_ha_14 := hF14.O ha (by decide) (by decide) fa4
    have fb6_14 := (hF14.1 _ _ fb6 (by decide)).1
    have ec14_5_ha_14 := hF14.O ha (by decide) (by decide) fa5
    have fb7_14 := (hF14.1 _ _ fb7 (by decide)).1
    have ec14_6_ha_14 := hF14.O ha (by decide) (by decide) fa6
    have fb8_14 := (hF14.1 _ _ fb8 (by decide)).1
    have ec14_7_ha_14 := hF14.O ha (by decide) (by decide) fa7
    have ec14_1_fb1_14 := hF14.O fb1 (by decide) (by decide) ft1
    have ec14_7_fb8_14 := hF14.O fb8 (by decide) (by decide) fs7
    have ec14_8_ha_14 := hF14.O ha (by decide) (by decide) fx8
    have htk_14 := (hF14.1 _ _ htk (by decide)).1
    have ec14_0_fb2_14 := hF14.O fb2 (by decide) (by decide) ftk
    have ec14_0_fb4_14 := hF14.O fb4 (by decide) (by decide) fc2
    have ec14_0_fb5_14 := hF14.O fb5 (by decide) (by decide) fc3
    have y14e := p14.1
    subst y14e
    refine pq_goto (tgt := 21) F dX10_set_17 (by decide) ?_
    refine pq_putI F ha_14 (by decide) lp_X10_71 rfl (pq_any1 _) (pq_any2 _) dX10_set_21 ?_
    refine pq_aload_n F dX10_set_24 rfl rfl ?_
    refine pq_get F ha_14 (by decide) lk_X10_10 (pq_kp ec14_0_ha_14 (by decide)) dX10_set_25 ?_
    refine pq_iconst (v := 0) F dX10_set_28 (by decide) ?_
    refine pq_putI F fb1_14 (by decide) lp_X10_75 rfl (by focus ((try clear hIf); (try clear hIs); (try clear xak); (try clear xas); (try clear xac); (try clear xbk); (try clear xbs); (try clear xbc); (try clear p1); (try clear p14); (try clear p67); (try clear p77); (try clear p113); (try clear hZ); (try clear hW9); (try clear hst9); (try clear hko9); (try clear hW7); (try clear hst7); (try clear hlt7); (try clear hIf7); (try clear hZr); (try clear hG); (try clear hG1); (try clear hIf8); (try clear hAuN); simp only [vp_in_iff, Int32.lt_iff_toInt_lt, Int32.le_iff_toInt_le, ← Int32.toInt_inj, Int32.toInt_add, Int32.toInt_sub, Int32.toInt_mul, Int32.toInt_neg, pq_NuO, pq_NuI, pq_NuJ, pq_NuR, pq_shr6, pq_shr7, pq_shr8, lqm1, lq0, lq1] at *; (try simp (disch := omega) only [pq_bm] at *); all_goals omega)) (by focus ((try clear hIf); (try clear hIs); (try clear xak); (try clear xas); (try clear xac); (try clear xbk); (try clear xbs); (try clear xbc); (try clear p1); (try clear p14); (try clear p67); (try clear p77); (try clear p113); (try clear hZ); (try clear hW9); (try clear hst9); (try clear hko9); (try clear hW7); (try clear hst7); (try clear hlt7); (try clear hIf7); (try clear hZr); (try clear hG); (try clear hG1); (try clear hIf8); (try clear hAuN); simp only [vp_in_iff, Int32.lt_iff_toInt_lt, Int32.le_iff_toInt_le, ← Int32.toInt_inj, Int32.toInt_add, Int32.toInt_sub, Int32.toInt_mul, Int32.toInt_neg, pq_NuO, pq_NuI, pq_NuJ, pq_NuR, pq_shr6, pq_shr7, pq_shr8, lqm1, lq0, lq1] at *; (try simp (disch := omega) only [pq_bm] at *); all_goals omega)) dX10_set_29 ?_
    refine pq_iload_n F dX10_set_32 rfl rfl ?_
    refine pq_if_ne (tgt := 46) F dX10_set_33 (by decide) (fun c33 => ?_) (fun c33 => ?_)
    · skip
      refine pq_aload_n F dX10_set_46 rfl rfl ?_
      refine pq_get F ha_14 (by decide) lk_X10_71 (pq_ko pq_ks ha_14 fb1_14 (by decide)) dX10_set_47 ?_
      refine pq_if_lt (tgt := 63) F dX10_set_50 (by decide) (fun c50 => ?_) (fun c50 => ?_)
      · skip
        refine pq_aload_n F dX10_set_63 rfl rfl ?_
        refine pq_peekR (k := 1) (show pq_R _ wk 11 from fb4_14) (by decide) rfl (fun kd fkd hkd => ?_)
        refine pq_peekR (k := 6) (show pq_R _ wk 11 from fb4_14) (by decide) rfl (fun sto fsto hsto => ?_)
        refine pq_peekR (k := 3) (show pq_R _ wk 11 from fb4_14) (by decide) rfl (fun sl fsl hsl => ?_)
        refine pq_peekR (k := 0) hkd (by decide) rfl (fun ko fko hko => ?_)
        have hZr : ∀ i : Nat, i < hN S14 tk → hJ S14 tk i = 0 := fun i hi => p14.2 i (by rw [← (hF14.1 tk 194 htk (by decide)).2]; exact hi)
        refine pq_get F ha_14 (by decide) lk_X10_37 (pq_ko (pq_kp ec14_3_ha_14 (by decide)) ha_14 fb1_14 (by decide)) dX10_set_64 ?_
        refine pq_callV (As := []) F (k_X8_visitAllY l D cy _ _ ?_ pl tk kd ko sto sl (pq_ko (pq_ko ec14_0_fb4_14 fb4_14 ha_14 (by decide)) fb4_14 fb1_14 (by decide)) fb2_14 (pq_ko (pq_ko ec14_0_fb2_14 fb2_14 ha_14 (by decide)) fb2_14 fb1_14 (by decide)) htk_14 fkd hkd fko hko fsto hsto fsl hsl hZr) ml_X10_109 fb4_14 (by decide) rfl (Nat.le_of_ble_eq_true rfl) ⟨Nat.le_of_ble_eq_true rfl, Nat.le_of_ble_eq_true rfl⟩ ⟨Nat.le_of_ble_eq_true rfl, Nat.le_of_ble_eq_true rfl⟩ dX10_set_67 (fun v67 S67 w67 => ?_)
        · exact fb4_14
        obtain ⟨hF67, y67, rfl, yl67_0, yl67_1, p67⟩ := w67
        have ha_67 := (hF67.1 _ _ ha_14 (by decide)).1
        have fb1_67 := (hF67.1 _ _ fb1_14 (by decide)).1
        have ec67_0_ha_67 := hF67.O ha_14 (by decide) (by decide) (pq_ko (pq_kp ec14_0_ha_14 (by decide)) ha_14 fb1_14 (by decide))
        have fb2_67 := (hF67.1 _ _ fb2_14 (by decide)).1
        have ec67_1_ha_67 := hF67.O ha_14 (by decide) (by decide) (pq_ko (pq_kp ec14_1_ha_14 (by decide)) ha_14 fb1_14 (by decide))
        have fb3_67 := (hF67.1 _ _ fb3_14 (by decide)).1
        have ec67_2_ha_67 := hF67.O ha_14 (by decide) (by decide) (pq_ko (pq_kp ec14_2_ha_14 (by decide)) ha_14 fb1_14 (by decide))
        have fb4_67 := (hF67.1 _ _ fb4_14 (by decide)).1
        have ec67_3_ha_67 := hF67.O ha_14 (by decide) (by decide) (pq_ko (pq_kp ec14_3_ha_14 (by decide)) ha_14 fb1_14 (by decide))
        have fb5_67 := (hF67.1 _ _ fb5_14 (by decide)).1
        have ec67_4_ha_67 := hF67.O ha_14 (by decide) (by decide) (pq_ko (pq_kp ec14_4_ha_14 (by decide)) ha_14 fb1_14 (by decide))
        have fb6_67 := (hF67.1 _ _ fb6_14 (by decide)).1
        have ec67_5_ha_67 := hF67.O ha_14 (by decide) (by decide) (pq_ko (pq_kp ec14_5_ha_14 (by decide)) ha_14 fb1_14 (by decide))
        have fb7_67 := (hF67.1 _ _ fb7_14 (by decide)).1
        have ec67_6_ha_67 := hF67.O ha_14 (by decide) (by decide) (pq_ko (pq_kp ec14_6_ha_14 (by decide)) ha_14 fb1_14 (by decide))
        have fb8_67 := (hF67.1 _ _ fb8_14 (by decide)).1
        have ec67_7_ha_67 := hF67.O ha_14 (by decide) (by decide) (pq_ko (pq_kp ec14_7_ha_14 (by decide)) ha_14 fb1_14 (by decide))
        have ec67_7_fb8_67 := hF67.O fb8_14 (by decide) (by decide) (pq_ko (pq_ko ec14_7_fb8_14 fb8_14 ha_14 (by decide)) fb8_14 fb1_14 (by decide))
        have htk_67 := (hF67.1 _ _ htk_14 (by decide)).1
        have ec67_0_fb2_67 := hF67.O fb2_14 (by decide) (by decide) (pq_ko (pq_ko ec14_0_fb2_14 fb2_14 ha_14 (by decide)) fb2_14 fb1_14 (by decide))
        have ec67_0_fb4_67 := hF67.O fb4_14 (by decide) (by decide) (pq_ko (pq_ko ec14_0_fb4_14 fb4_14 ha_14 (by decide)) fb4_14 fb1_14 (by decide))
        have ec67_0_fb5_67 := hF67.O fb5_14 (by decide) (by decide) (pq_ko (pq_ko ec14_0_fb5_14 fb5_14 ha_14 (by decide)) fb5_14 fb1_14 (by decide))
        have ec67_8_ha_67 := hF67.O ha_14 (by decide) (by decide) (pq_ko pq_ks ha_14 fb1_14 (by decide))
        have ec67_1_fb1_67 := hF67.O fb1_14 (by decide) (by decide) pq_ks
        obtain ⟨yz67, st9, hW9, hko9, hst9⟩ := p67
        have p67 := And.intro yz67 trivial
        refine pq_if_eq (tgt := 83) F dX10_set_70 (by decide) (fun c70 => ?_) (fun c70 => ?_)
        · exact absurd (c70.symm.trans p67.1) (by decide)
        · skip
          refine pq_aload_n F dX10_set_73 rfl rfl ?_
          refine pq_peekR (k := 1) (show pq_R _ mg 7 from fb5_67) (by decide) rfl (fun bo fbo hbo => ?_)
          refine pq_peekR (k := 2) (show pq_R _ mg 7 from fb5_67) (by decide) rfl (fun nb fnb hnb => ?_)
          refine pq_peekR (k := 3) (show pq_R _ mg 7 from fb5_67) (by decide) rfl (fun am fam ham => ?_)
          refine pq_peekR (k := 4) (show pq_R _ mg 7 from fb5_67) (by decide) rfl (fun nx fnx hnx => ?_)
          refine pq_get F ha_67 (by decide) lk_X10_46 ec67_4_ha_67 dX10_set_74 ?_
          refine pq_callV (As := []) F (k_X4_mergeAllY l D cy _ _ ?_ wk kd st9 ec67_0_fb5_67 fb4_67 hW9 bo nb am nx fbo hbo fnb hnb fam ham fnx hnx hst9) ml_X10_113 fb5_67 (by decide) rfl (Nat.le_of_ble_eq_true rfl) ⟨Nat.le_of_ble_eq_true rfl, Nat.le_of_ble_eq_true rfl⟩ ⟨by decide, by decide⟩ dX10_set_77 (fun v77 S77 w77 => ?_)
          · exact fb5_67
          obtain ⟨hF77, y77, rfl, yl77_0, yl77_1, p77⟩ := w77
          have ha_77 := (hF77.1 _ _ ha_67 (by decide)).1
          have fb1_77 := (hF77.1 _ _ fb1_67 (by decide)).1
          have ec77_0_ha_77 := hF77.O ha_67 (by decide) (by decide) ec67_0_ha_67
          have fb2_77 := (hF77.1 _ _ fb2_67 (by decide)).1
          have ec77_1_ha_77 := hF77.O ha_67 (by decide) (by decide) ec67_1_ha_67
          have fb3_77 := (hF77.1 _ _ fb3_67 (by decide)).1
          have ec77_2_ha_77 := hF77.O ha_67 (by decide) (by decide) ec67_2_ha_67
          have fb4_77 := (hF77.1 _ _ fb4_67 (by decide)).1
          have ec77_3_ha_77 := hF77.O ha_67 (by decide) (by decide) ec67_3_ha_67
          have fb5_77 := (hF77.1 _ _ fb5_67 (by decide)).1
          have ec77_4_ha_77 := hF77.O ha_67 (by decide) (by decide) ec67_4_ha_67
          have fb6_77 := (hF77.1 _ _ fb6_67 (by decide)).1
          have ec77_5_ha_77 := hF77.O ha_67 (by decide) (by decide) ec67_5_ha_67
          have fb7_77 := (hF77.1 _ _ fb7_67 (by decide)).1
          have ec77_6_ha_77 := hF77.O ha_67 (by decide) (by decide) ec67_6_ha_67
          have fb8_77 := (hF77.1 _ _ fb8_67 (by decide)).1
          have ec77_7_ha_77 := hF77.O ha_67 (by decide) (by decide) ec67_7_ha_67
          have ec77_7_fb8_77 := hF77.O fb8_67 (by decide) (by decide) ec67_7_fb8_67
          have htk_77 := (hF77.1 _ _ htk_67 (by decide)).1
          have ec77_0_fb2_77 := hF77.O fb2_67 (by decide) (by decide) ec67_0_fb2_67
          have ec77_0_fb4_77 := hF77.O fb4_67 (by decide) (by decide) ec67_0_fb4_67
          have ec77_0_fb5_77 := hF77.O fb5_67 (by decide) (by decide) ec67_0_fb5_67
          have ec77_8_ha_77 := hF77.O ha_67 (by decide) (by decide) ec67_8_ha_67
          have ec77_1_fb1_77 := hF77.O fb1_67 (by decide) (by decide) ec67_1_fb1_67
          refine pq_if_ne (tgt := 93) F dX10_set_80 (by decide) (fun c80 => ?_) (fun c80 => ?_)
          · skip
            have hwc : pw = 0 ∨ pw = 1 := p1.1 (Int32.toInt_inj.mp (by focus ((try clear hIf); (try clear hIs); (try clear xak); (try clear xas); (try clear xac); (try clear xbk); (try clear xbs); (try clear xbc); (try clear p1); (try clear p14); (try clear p67); (try clear p77); (try clear p113); (try clear hZ); (try clear hW9); (try clear hst9); (try clear hko9); (try clear hW7); (try clear hst7); (try clear hlt7); (try clear hIf7); (try clear hZr); (try clear hG); (try clear hG1); (try clear hIf8); (try clear hAuN); simp only [vp_in_iff, Int32.lt_iff_toInt_lt, Int32.le_iff_toInt_le, ← Int32.toInt_inj, Int32.toInt_add, Int32.toInt_sub, Int32.toInt_mul, Int32.toInt_neg, pq_NuO, pq_NuI, pq_NuJ, pq_NuR, pq_shr6, pq_shr7, pq_shr8, lqm1, lq0, lq1] at *; (try simp (disch := omega) only [pq_bm] at *); all_goals omega)))
            have hwd := hwc
            have hG : pq_Fr [(9, 5), (9, 6), (9, 7), (9, 8), (9, 9), (5, 2), (190, 0), (191, 0), (195, 0), (194, 0), (8, 3), (230, 0), (231, 0), (13, 8), (12, 1), (6, 3), (156, 0), (157, 0), (158, 0), (11, 6), (198, 0), (199, 0), (167, 0), (11, 7), (11, 8), (11, 9), (166, 0), (197, 0), (7, 7), (159, 0), (192, 0), (193, 0), (161, 0), (162, 0), (160, 0)] S S77 := (((((pq_Fr.rf.cm hF14 (by decide)).uO ha_14 (by decide)).uO fb1_14 (by decide)).cm hF67 (by decide)).cm hF77 (by decide))
            have hIf7 := hIf.fr hG (by decide)
            obtain ⟨⟨ga0, ga1, ga2, ga3, ga4, ga5, ga6, ga7⟩, ⟨gb0, gb1, gb2, gb3, gb4, gb5, gb6, gb7, gb8⟩, ⟨gc0, gc1, gc2, gc3⟩, ⟨gd0, gd1, gd2, gd3⟩⟩ := hIf7
            have hlt7 := p77.2.2
            have hW7 := hW9.fr fb4_67 hF77 (by decide)
            have hst7 : pq_lt (hI S77 st9) ((2 : Int32).toInt * (1 : Int32).toInt) (2 : Int32).toInt := (by rw [hF77.I hW9.hs (by decide) (by decide)]; exact hst9.mono (by decide) (by decide))
            refine pq_aload_n F dX10_set_93 rfl rfl ?_
            rcases hwc with hw9 | hw9
            · skip
              refine pq_get F ha_77 (by decide) lk_X10_46 ec77_4_ha_77 dX10_set_94 ?_
              refine pq_aload_n F dX10_set_97 rfl rfl ?_
              refine pq_get F ha_77 (by decide) lk_X10_53 ec77_5_ha_77 dX10_set_98 ?_
              refine pq_iload_n F dX10_set_101 rfl rfl ?_
              refine pq_aald F fb6_77 (by decide) (fun n1_102 n2_102 => (by change _ ≤ _ at n1_102; change _ ≤ 2 at n2_102; change 2 ≤ _ at n1_102; focus ((try clear hIf); (try clear hIs); (try clear xak); (try clear xas); (try clear xac); (try clear xbk); (try clear xbs); (try clear xbc); (try clear p1); (try clear p14); (try clear p67); (try clear p77); (try clear p113); (try clear hZ); (try clear hW9); (try clear hst9); (try clear hko9); (try clear hW7); (try clear hst7); (try clear hlt7); (try clear hIf7); (try clear hZr); (try clear hG); (try clear hG1); (try clear hIf8); (try clear hAuN); simp only [vp_in_iff, Int32.lt_iff_toInt_lt, Int32.le_iff_toInt_le, ← Int32.toInt_inj, Int32.toInt_add, Int32.toInt_sub, Int32.toInt_mul, Int32.toInt_neg, pq_NuO, pq_NuI, pq_NuJ, pq_NuR, pq_shr6, pq_shr7, pq_shr8, lqm1, lq0, lq1] at *; (try simp (disch := omega) only [pq_bm] at *); all_goals omega))) dX10_set_102 (fun o102 e102 k102 => ?_)
              have e102b : o102 = some A9 := e102.trans (by rw [hw9]; exact gd0)
              subst e102b
              refine pq_aload_n F dX10_set_103 rfl rfl ?_
              refine pq_get F ha_77 (by decide) lk_X10_19 ec77_1_ha_77 dX10_set_104 ?_
              refine pq_getR F fb2_77 (by decide) lk_X10_118 rfl dX10_set_107 (fun r107 e107 h107 => ?_)
              refine pq_getI F h107 (by decide) lk_X10_122 rfl dX10_set_110 (fun x110 e110 l110 u110 => ?_)
              refine pq_callV (As := [_, _]) F (k_X4_fillA l D cy _ _ ?_ _ ?_ _ ?_ ?_ wk kd st9 1 2 gc3 gb4 hW7 bo ko koA stA 402 1 (hF77.O fb5_67 (by decide) (by decide) fbo) (hF77.R hbo (by decide)) p77.2.1 (by decide) (by decide) hlt7 hst7 (hF77.O (hF67.R hkd (by decide)) (by decide) (by decide) (hF67.O hkd (by decide) (by decide) fko)) (hF77.R (hF67.R hko (by decide)) (by decide)) (by rw [hF77.I (hF67.R hko (by decide)) (by decide) (by decide)]; exact hko9) (hG.O fd2 (by decide) (by decide) xa0) (hG.R ka0 (by decide)) (hG.O fd2 (by decide) (by decide) xa3) (hG.R ka3 (by decide)) (Or.inl ⟨rfl, Nat.le_refl _⟩)) ml_X10_128 fb5_77 (by decide) rfl (Nat.le_of_ble_eq_true rfl) ⟨Nat.le_of_ble_eq_true rfl, Nat.le_of_ble_eq_true rfl⟩ ⟨Nat.le_of_ble_eq_true rfl, Nat.le_of_ble_eq_true rfl⟩ dX10_set_113 (fun v113 S113 w113 => ?_)
              · exact fb5_77
              · exact gd2
              · focus ((try clear hIf); (try clear hIs); (try clear xak); (try clear xas); (try clear xac); (try clear xbk); (try clear xbs); (try clear xbc); (try clear p1); (try clear p14); (try clear p67); (try clear p77); (try clear p113); (try clear hZ); (try clear hW9); (try clear hst9); (try clear hko9); (try clear hW7); (try clear hst7); (try clear hlt7); (try clear hIf7); (try clear hZr); (try clear hG); (try clear hG1); (try clear hIf8); (try clear hAuN); simp only [vp_in_iff, Int32.lt_iff_toInt_lt, Int32.le_iff_toInt_le, ← Int32.toInt_inj, Int32.toInt_add, Int32.toInt_sub, Int32.toInt_mul, Int32.toInt_neg, pq_NuO, pq_NuI, pq_NuJ, pq_NuR, pq_shr6, pq_shr7, pq_shr8, lqm1, lq0, lq1] at *; (try simp (disch := omega) only [pq_bm] at *); all_goals omega)
              · focus ((try clear hIf); (try clear hIs); (try clear xak); (try clear xas); (try clear xac); (try clear xbk); (try clear xbs); (try clear xbc); (try clear p1); (try clear p14); (try clear p67); (try clear p77); (try clear p113); (try clear hZ); (try clear hW9); (try clear hst9); (try clear hko9); (try clear hW7); (try clear hst7); (try clear hlt7); (try clear hIf7); (try clear hZr); (try clear hG); (try clear hG1); (try clear hIf8); (try clear hAuN); simp only [vp_in_iff, Int32.lt_iff_toInt_lt, Int32.le_iff_toInt_le, ← Int32.toInt_inj, Int32.toInt_add, Int32.toInt_sub, Int32.toInt_mul, Int32.toInt_neg, pq_NuO, pq_NuI, pq_NuJ, pq_NuR, pq_shr6, pq_shr7, pq_shr8, lqm1, lq0, lq1] at *; (try simp (disch := omega) only [pq_bm] at *); all_goals omega)
              obtain ⟨rfl, hF113, p113⟩ := w113
              have ha_113 := (hF113.1 _ _ ha_77 (by decide)).1
              have fb1_113 := (hF113.1 _ _ fb1_77 (by decide)).1
              have ec113_0_ha_113 := hF113.O ha_77 (by decide) (by decide) ec77_0_ha_77
              have fb2_113 := (hF113.1 _ _ fb2_77 (by decide)).1
              have ec113_1_ha_113 := hF113.O ha_77 (by decide) (by decide) ec77_1_ha_77
              have fb3_113 := (hF113.1 _ _ fb3_77 (by decide)).1
              have ec113_2_ha_113 := hF113.O ha_77 (by decide) (by decide) ec77_2_ha_77
              have fb4_113 := (hF113.1 _ _ fb4_77 (by decide)).1
              have ec113_3_ha_113 := hF113.O ha_77 (by decide) (by decide) ec77_3_ha_77
              have fb5_113 := (hF113.1 _ _ fb5_77 (by decide)).1
              have ec113_4_ha_113 := hF113.O ha_77 (by decide) (by decide) ec77_4_ha_77
              have fb6_113 := (hF113.1 _ _ fb6_77 (by decide)).1
              have ec113_5_ha_113 := hF113.O ha_77 (by decide) (by decide) ec77_5_ha_77
              have fb7_113 := (hF113.1 _ _ fb7_77 (by decide)).1
              have ec113_6_ha_113 := hF113.O ha_77 (by decide) (by decide) ec77_6_ha_77
              have fb8_113 := (hF113.1 _ _ fb8_77 (by decide)).1
              have ec113_7_ha_113 := hF113.O ha_77 (by decide) (by decide) ec77_7_ha_77
              have ec113_7_fb8_113 := hF113.O fb8_77 (by decide) (by decide) ec77_7_fb8_77
              have htk_113 := (hF113.1 _ _ htk_77 (by decide)).1
              have ec113_0_fb2_113 := hF113.O fb2_77 (by decide) (by decide) ec77_0_fb2_77
              have ec113_0_fb4_113 := hF113.O fb4_77 (by decide) (by decide) ec77_0_fb4_77
              have ec113_0_fb5_113 := hF113.O fb5_77 (by decide) (by decide) ec77_0_fb5_77
              have ec113_8_ha_113 := hF113.O ha_77 (by decide) (by decide) ec77_8_ha_77
              have ec113_1_fb1_113 := hF113.O fb1_77 (by decide) (by decide) ec77_1_fb1_77
              have h107_113 := (hF113.1 _ _ h107 (by decide)).1
              have ec113_2_fb2_113 := hF113.O fb2_77 (by decide) (by decide) e107
              have ec113_2_h107_113 := hF113.O h107 (by decide) (by decide) e110
              obtain ⟨st3, s3, hAuN⟩ := p113
              have hG1 : pq_Fr [(9, 5), (9, 6), (9, 7), (9, 8), (9, 9), (5, 2), (190, 0), (191, 0), (195, 0), (194, 0), (8, 3), (230, 0), (231, 0), (13, 8), (12, 1), (6, 3), (156, 0), (157, 0), (158, 0), (11, 6), (198, 0), (199, 0), (167, 0), (11, 7), (11, 8), (11, 9), (166, 0), (197, 0), (7, 7), (159, 0), (192, 0), (193, 0), (161, 0), (162, 0), (160, 0), (150, 0), (151, 0), (3, 4), (3, 5), (3, 3), (3, 6), (3, 7), (206, 0), (152, 0)] S S113 := ((((((pq_Fr.rf.cm hF14 (by decide)).uO ha_14 (by decide)).uO fb1_14 (by decide)).cm hF67 (by decide)).cm hF77 (by decide)).cm hF113 (by decide))
              have hIf8 := hIf.fr hG1 (by decide)
              obtain ⟨⟨ka0, ka1, ka2, ka3, ka4, ka5, ka6, ka7⟩, ⟨kb0, kb1, kb2, kb3, kb4, kb5, kb6, kb7, kb8⟩, ⟨kc0, kc1, kc2, kc3⟩, ⟨kd0, kd1, kd2, kd3⟩⟩ := hIf8
              refine pq_aload_n F dX10_set_116 rfl rfl ?_
              refine pq_get F ha_113 (by decide) lk_X10_53 ec113_5_ha_113 dX10_set_117 ?_
              refine pq_iload_n F dX10_set_120 rfl rfl ?_
              refine pq_aald F fb6_113 (by decide) (fun n1_121 n2_121 => (by change _ ≤ _ at n1_121; change _ ≤ 2 at n2_121; change 2 ≤ _ at n1_121; focus ((try clear hIf); (try clear hIs); (try clear xak); (try clear xas); (try clear xac); (try clear xbk); (try clear xbs); (try clear xbc); (try clear p1); (try clear p14); (try clear p67); (try clear p77); (try clear p113); (try clear hZ); (try clear hW9); (try clear hst9); (try clear hko9); (try clear hW7); (try clear hst7); (try clear hlt7); (try clear hIf7); (try clear hZr); (try clear hG); (try clear hG1); (try clear hIf8); (try clear hAuN); simp only [vp_in_iff, Int32.lt_iff_toInt_lt, Int32.le_iff_toInt_le, ← Int32.toInt_inj, Int32.toInt_add, Int32.toInt_sub, Int32.toInt_mul, Int32.toInt_neg, pq_NuO, pq_NuI, pq_NuJ, pq_NuR, pq_shr6, pq_shr7, pq_shr8, lqm1, lq0, lq1] at *; (try simp (disch := omega) only [pq_bm] at *); all_goals omega))) dX10_set_121 (fun o121 e121 k121 => ?_)
              have e121b : o121 = some A9 := e121.trans (by rw [hw9]; exact kd0)
              subst e121b
              refine pq_callV (As := []) F (k_X0_liveYA l D cy _ _ ?_ hAuN.e5) ml_X10_132 kd2 (by decide) rfl (Nat.le_of_ble_eq_true rfl) ⟨Nat.le_of_ble_eq_true rfl, Nat.le_of_ble_eq_true rfl⟩ ⟨by decide, by decide⟩ dX10_set_122 (fun v122 S122 w122 => ?_)
              · exact kd2
              obtain ⟨u122, y122, rfl, p122⟩ := w122
              rw [u122]
              try rw [u122] at p122
              exact pq_lift (pq_iret F hr hlk hA (Nat.le_of_ble_eq_true rfl) (Nat.le_of_ble_eq_true rfl) (⟨((((((pq_Fr.rf.cm hF14 (by decide)).uO ha_14 (by decide)).uO fb1_14 (by decide)).cm hF67 (by decide)).cm hF77 (by decide)).cm hF113 (by decide)), _, rfl, hwd, p122⟩) dX10_set_125)
            · skip
              refine pq_get F ha_77 (by decide) lk_X10_46 ec77_4_ha_77 dX10_set_94 ?_
              refine pq_aload_n F dX10_set_97 rfl rfl ?_
              refine pq_get F ha_77 (by decide) lk_X10_53 ec77_5_ha_77 dX10_set_98 ?_
              refine pq_iload_n F dX10_set_101 rfl rfl ?_
              refine pq_aald F fb6_77 (by decide) (fun n1_102 n2_102 => (by change _ ≤ _ at n1_102; change _ ≤ 2 at n2_102; change 2 ≤ _ at n1_102; focus ((try clear hIf); (try clear hIs); (try clear xak); (try clear xas); (try clear xac); (try clear xbk); (try clear xbs); (try clear xbc); (try clear p1); (try clear p14); (try clear p67); (try clear p77); (try clear p113); (try clear hZ); (try clear hW9); (try clear hst9); (try clear hko9); (try clear hW7); (try clear hst7); (try clear hlt7); (try clear hIf7); (try clear hZr); (try clear hG); (try clear hG1); (try clear hIf8); (try clear hAuN); simp only [vp_in_iff, Int32.lt_iff_toInt_lt, Int32.le_iff_toInt_le, ← Int32.toInt_inj, Int32.toInt_add, Int32.toInt_sub, Int32.toInt_mul, Int32.toInt_neg, pq_NuO, pq_NuI, pq_NuJ, pq_NuR, pq_shr6, pq_shr7, pq_shr8, lqm1, lq0, lq1] at *; (try simp (disch := omega) only [pq_bm] at *); all_goals omega))) dX10_set_102 (fun o102 e102 k102 => ?_)
              have e102b : o102 = some B9 := e102.trans (by rw [hw9]; exact gd1)
              subst e102b
              refine pq_aload_n F dX10_set_103 rfl rfl ?_
              refine pq_get F ha_77 (by decide) lk_X10_19 ec77_1_ha_77 dX10_set_104 ?_
              refine pq_getR F fb2_77 (by decide) lk_X10_118 rfl dX10_set_107 (fun r107 e107 h107 => ?_)
              refine pq_getI F h107 (by decide) lk_X10_122 rfl dX10_set_110 (fun x110 e110 l110 u110 => ?_)
              refine pq_callV (As := [_, _]) F (k_X4_fillB l D cy _ _ ?_ _ ?_ _ ?_ ?_ wk kd st9 1 2 gc3 gb4 hW7 bo ko koB stB 402 1 (hF77.O fb5_67 (by decide) (by decide) fbo) (hF77.R hbo (by decide)) p77.2.1 (by decide) (by decide) hlt7 hst7 (hF77.O (hF67.R hkd (by decide)) (by decide) (by decide) (hF67.O hkd (by decide) (by decide) fko)) (hF77.R (hF67.R hko (by decide)) (by decide)) (by rw [hF77.I (hF67.R hko (by decide)) (by decide) (by decide)]; exact hko9) (hG.O fd3 (by decide) (by decide) xb0) (hG.R kb0 (by decide)) (hG.O fd3 (by decide) (by decide) xb3) (hG.R kb3 (by decide)) (Or.inl ⟨rfl, Nat.le_refl _⟩)) ml_X10_128 fb5_77 (by decide) rfl (Nat.le_of_ble_eq_true rfl) ⟨Nat.le_of_ble_eq_true rfl, Nat.le_of_ble_eq_true rfl⟩ ⟨Nat.le_of_ble_eq_true rfl, Nat.le_of_ble_eq_true rfl⟩ dX10_set_113 (fun v113 S113 w113 => ?_)
              · exact fb5_77
              · exact gd3
              · focus ((try clear hIf); (try clear hIs); (try clear xak); (try clear xas); (try clear xac); (try clear xbk); (try clear xbs); (try clear xbc); (try clear p1); (try clear p14); (try clear p67); (try clear p77); (try clear p113); (try clear hZ); (try clear hW9); (try clear hst9); (try clear hko9); (try clear hW7); (try clear hst7); (try clear hlt7); (try clear hIf7); (try clear hZr); (try clear hG); (try clear hG1); (try clear hIf8); (try clear hAuN); simp only [vp_in_iff, Int32.lt_iff_toInt_lt, Int32.le_iff_toInt_le, ← Int32.toInt_inj, Int32.toInt_add, Int32.toInt_sub, Int32.toInt_mul, Int32.toInt_neg, pq_NuO, pq_NuI, pq_NuJ, pq_NuR, pq_shr6, pq_shr7, pq_shr8, lqm1, lq0, lq1] at *; (try simp (disch := omega) only [pq_bm] at *); all_goals omega)
              · focus ((try clear hIf); (try clear hIs); (try clear xak); (try clear xas); (try clear xac); (try clear xbk); (try clear xbs); (try clear xbc); (try clear p1); (try clear p14); (try clear p67); (try clear p77); (try clear p113); (try clear hZ); (try clear hW9); (try clear hst9); (try clear hko9); (try clear hW7); (try clear hst7); (try clear hlt7); (try clear hIf7); (try clear hZr); (try clear hG); (try clear hG1); (try clear hIf8); (try clear hAuN); simp only [vp_in_iff, Int32.lt_iff_toInt_lt, Int32.le_iff_toInt_le, ← Int32.toInt_inj, Int32.toInt_add, Int32.toInt_sub, Int32.toInt_mul, Int32.toInt_neg, pq_NuO, pq_NuI, pq_NuJ, pq_NuR, pq_shr6, pq_shr7, pq_shr8, lqm1, lq0, lq1] at *; (try simp (disch := omega) only [pq_bm] at *); all_goals omega)
              obtain ⟨rfl, hF113, p113⟩ := w113
              have ha_113 := (hF113.1 _ _ ha_77 (by decide)).1
              have fb1_113 := (hF113.1 _ _ fb1_77 (by decide)).1
              have ec113_0_ha_113 := hF113.O ha_77 (by decide) (by decide) ec77_0_ha_77
              have fb2_113 := (hF113.1 _ _ fb2_77 (by decide)).1
              have ec113_1_ha_113 := hF113.O ha_77 (by decide) (by decide) ec77_1_ha_77
              have fb3_113 := (hF113.1 _ _ fb3_77 (by decide)).1
              have ec113_2_ha_113 := hF113.O ha_77 (by decide) (by decide) ec77_2_ha_77
              have fb4_113 := (hF113.1 _ _ fb4_77 (by decide)).1
              have ec113_3_ha_113 := hF113.O ha_77 (by decide) (by decide) ec77_3_ha_77
              have fb5_113 := (hF113.1 _ _ fb5_77 (by decide)).1
              have ec113_4_ha_113 := hF113.O ha_77 (by decide) (by decide) ec77_4_ha_77
              have fb6_113 := (hF113.1 _ _ fb6_77 (by decide)).1
              have ec113_5_ha_113 := hF113.O ha_77 (by decide) (by decide) ec77_5_ha_77
              have fb7_113 := (hF113.1 _ _ fb7_77 (by decide)).1
              have ec113_6_ha_113 := hF113.O ha_77 (by decide) (by decide) ec77_6_ha_77
              have fb8_113 := (hF113.1 _ _ fb8_77 (by decide)).1
              have ec113_7_ha_113 := hF113.O ha_77 (by decide) (by decide) ec77_7_ha_77
              have ec113_7_fb8_113 := hF113.O fb8_77 (by decide) (by decide) ec77_7_fb8_77
              have htk_113 := (hF113.1 _ _ htk_77 (by decide)).1
              have ec113_0_fb2_113 := hF113.O fb2_77 (by decide) (by decide) ec77_0_fb2_77
              have ec113_0_fb4_113 := hF113.O fb4_77 (by decide) (by decide) ec77_0_fb4_77
              have ec113_0_fb5_113 := hF113.O fb5_77 (by decide) (by decide) ec77_0_fb5_77
              have ec113_8_ha_113 := hF113.O ha_77 (by decide) (by decide) ec77_8_ha_77
              have ec113_1_fb1_113 := hF113.O fb1_77 (by decide) (by decide) ec77_1_fb1_77
              have h107_113 := (hF113.1 _ _ h107 (by decide)).1
              have ec113_2_fb2_113 := hF113.O fb2_77 (by decide) (by decide) e107
              have ec113_2_h107_113 := hF113.O h107 (by decide) (by decide) e110
              obtain ⟨st3, s3, hAuN⟩ := p113
              have hG1 : pq_Fr [(9, 5), (9, 6), (9, 7), (9, 8), (9, 9), (5, 2), (190, 0), (191, 0), (195, 0), (194, 0), (8, 3), (230, 0), (231, 0), (13, 8), (12, 1), (6, 3), (156, 0), (157, 0), (158, 0), (11, 6), (198, 0), (199, 0), (167, 0), (11, 7), (11, 8), (11, 9), (166, 0), (197, 0), (7, 7), (159, 0), (192, 0), (193, 0), (161, 0), (162, 0), (160, 0), (153, 0), (154, 0), (33, 4), (33, 5), (33, 3), (33, 6), (33, 7), (207, 0), (155, 0)] S S113 := ((((((pq_Fr.rf.cm hF14 (by decide)).uO ha_14 (by decide)).uO fb1_14 (by decide)).cm hF67 (by decide)).cm hF77 (by decide)).cm hF113 (by decide))
              have hIf8 := hIf.fr hG1 (by decide)
              obtain ⟨⟨ka0, ka1, ka2, ka3, ka4, ka5, ka6, ka7⟩, ⟨kb0, kb1, kb2, kb3, kb4, kb5, kb6, kb7, kb8⟩, ⟨kc0, kc1, kc2, kc3⟩, ⟨kd0, kd1, kd2, kd3⟩⟩ := hIf8
              refine pq_aload_n F dX10_set_116 rfl rfl ?_
              refine pq_get F ha_113 (by decide) lk_X10_53 ec113_5_ha_113 dX10_set_117 ?_
              refine pq_iload_n F dX10_set_120 rfl rfl ?_
              refine pq_aald F fb6_113 (by decide) (fun n1_121 n2_121 => (by change _ ≤ _ at n1_121; change _ ≤ 2 at n2_121; change 2 ≤ _ at n1_121; focus ((try clear hIf); (try clear hIs); (try clear xak); (try clear xas); (try clear xac); (try clear xbk); (try clear xbs); (try clear xbc); (try clear p1); (try clear p14); (try clear p67); (try clear p77); (try clear p113); (try clear hZ); (try clear hW9); (try clear hst9); (try clear hko9); (try clear hW7); (try clear hst7); (try clear hlt7); (try clear hIf7); (try clear hZr); (try clear hG); (try clear hG1); (try clear hIf8); (try clear hAuN); simp only [vp_in_iff, Int32.lt_iff_toInt_lt, Int32.le_iff_toInt_le, ← Int32.toInt_inj, Int32.toInt_add, Int32.toInt_sub, Int32.toInt_mul, Int32.toInt_neg, pq_NuO, pq_NuI, pq_NuJ, pq_NuR, pq_shr6, pq_shr7, pq_shr8, lqm1, lq0, lq1] at *; (try simp (disch := omega) only [pq_bm] at *); all_goals omega))) dX10_set_121 (fun o121 e121 k121 => ?_)
              have e121b : o121 = some B9 := e121.trans (by rw [hw9]; exact kd1)
              subst e121b
              refine pq_callV (As := []) F (k_X0_liveYB l D cy _ _ ?_ hAuN.e5) ml_X10_132 kd3 (by decide) rfl (Nat.le_of_ble_eq_true rfl) ⟨Nat.le_of_ble_eq_true rfl, Nat.le_of_ble_eq_true rfl⟩ ⟨by decide, by decide⟩ dX10_set_122 (fun v122 S122 w122 => ?_)
              · exact kd3
              obtain ⟨u122, y122, rfl, p122⟩ := w122
              rw [u122]
              try rw [u122] at p122
              exact pq_lift (pq_iret F hr hlk hA (Nat.le_of_ble_eq_true rfl) (Nat.le_of_ble_eq_true rfl) (⟨((((((pq_Fr.rf.cm hF14 (by decide)).uO ha_14 (by decide)).uO fb1_14 (by decide)).cm hF67 (by decide)).cm hF77 (by decide)).cm hF113 (by decide)), _, rfl, hwd, p122⟩) dX10_set_125)
          · exact absurd (c80.symm.trans p77.1) (by decide)
      · exact False.elim (by focus ((try clear hIf); (try clear hIs); (try clear xak); (try clear xas); (try clear xac); (try clear xbk); (try clear xbs); (try clear xbc); (try clear p1); (try clear p14); (try clear p67); (try clear p77); (try clear p113); (try clear hZ); (try clear hW9); (try clear hst9); (try clear hko9); (try clear hW7); (try clear hst7); (try clear hlt7); (try clear hIf7); (try clear hZr); (try clear hG); (try clear hG1); (try clear hIf8); (try clear hAuN); simp only [vp_in_iff, Int32.lt_iff_toInt_lt, Int32.le_iff_toInt_le, ← Int32.toInt_inj, Int32.toInt_add, Int32.toInt_sub, Int32.toInt_mul, Int32.toInt_neg, pq_NuO, pq_NuI, pq_NuJ, pq_NuR, pq_shr6, pq_shr7, pq_shr8, lqm1, lq0, lq1] at *; (try simp (disch := omega) only [pq_bm] at *); all_goals omega))
    · exact absurd c33 c7

