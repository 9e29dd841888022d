set_option maxHeartbeats 4000000 in
set_option maxRecDepth 100000 in
theorem k_X8_visitAllY (l : Launch) (D : va_G) (cy : Nat → ClassId) (S : HS) (a : Nat) (ha : pq_R S a 11) (pl tk kd ko st sl : Nat) (ep : hO S a 0 = .ref pl) (hpl : pq_R S pl 8) (etk : hO S pl 0 = .ref tk) (htk : pq_R S tk 194) (e1 : hO S a 1 = .ref kd) (hkd : pq_R S kd 6) (eko : hO S kd 0 = .ref ko) (hko : pq_R S ko 156) (e6 : hO S a 6 = .ref st) (hst : pq_R S st 167) (e3 : hO S a 3 = .ref sl) (hsl : pq_R S sl 166) (hZ0 : (∀ i, i < hN S tk → hJ S tk i = 0)) : pq_C l D cy yX8_visitAll cX8_visitAll 2 (some .boolean) 4 1 804 S [.ref a] (fun v S2 => pq_Fr [(6, 3), (156, 0), (157, 0), (158, 0), (11, 6), (198, 0), (199, 0), (167, 0), (11, 7), (11, 8), (11, 9), (166, 0), (197, 0)] S S2 ∧ ∃ x : Int32, v = some (.int x) ∧ 0 ≤ x.toInt ∧ x.toInt ≤ 1 ∧ (x = 1 ∧ ∃ st2 : Nat, pq_Wk S2 a kd st2 1 2 ∧ pq_lt (hI S2 ko) 128 1 ∧ pq_lt (hI S2 st2) 2 1)) := by
  refine pq_start (by decide) (Nat.le_of_ble_eq_true rfl) ?_
  intro p e s m args below meth c A F hr hlk hnm hA
  have lqm1 : (-1 : Int32).toInt = -1 := rfl
  have lq0 : (0 : Int32).toInt = 0 := rfl
  have lq1 : (1 : Int32).toInt = 1 := rfl
  have lq2 : (2 : Int32).toInt = 2 := rfl
  have lq402 : (402 : Int32).toInt = 402 := rfl
  refine pq_aload_n F dX8_visitAll_0 rfl rfl ?_
  refine pq_callV (As := []) F (k_X8_begin l D cy _ _ ?_ pl tk kd ko st sl 804 ep hpl etk htk e1 hkd eko hko e6 hst e3 hsl (Or.inl ⟨hZ0, Nat.le_refl _⟩)) ml_X8_39 ha (by decide) rfl (Nat.le_of_ble_eq_true rfl) ⟨Nat.le_of_ble_eq_true rfl, Nat.le_of_ble_eq_true rfl⟩ ⟨Nat.le_of_ble_eq_true rfl, Nat.le_of_ble_eq_true rfl⟩ dX8_visitAll_1 (fun v1 S1 w1 => ?_)
  · exact ha
  obtain ⟨rfl, hF1, p1⟩ := w1
  have ha_1 := (hF1.1 _ _ ha (by decide)).1
  have hpl_1 := (hF1.1 _ _ hpl (by decide)).1
  have ec1_0_ha_1 := hF1.O ha (by decide) (by decide) ep
  have htk_1 := (hF1.1 _ _ htk (by decide)).1
  have ec1_0_hpl_1 := hF1.O hpl (by decide) (by decide) etk
  have hkd_1 := (hF1.1 _ _ hkd (by decide)).1
  have ec1_1_ha_1 := hF1.O ha (by decide) (by decide) e1
  have hko_1 := (hF1.1 _ _ hko (by decide)).1
  have ec1_0_hkd_1 := hF1.O hkd (by decide) (by decide) eko
  have hsl_1 := (hF1.1 _ _ hsl (by decide)).1
  have ec1_3_ha_1 := hF1.O ha (by decide) (by decide) e3
  obtain ⟨n, st2, hWb, hcb, hko1, hflb, hslb, hzn⟩ := p1
  have hn1 : n = 1 := Int32.toInt_inj.mp (hzn hZ0)
  subst hn1
  refine pq_iconst (v := 1) F dX8_visitAll_4 (by decide) ?_
  refine pq_istore_n F dX8_visitAll_5 rfl (by decide) ?_
  refine pq_iload_n F dX8_visitAll_6 rfl rfl ?_
  refine pq_aload_n F dX8_visitAll_7 rfl rfl ?_
  refine pq_get F ha_1 (by decide) lk_X8_42 hWb.e7 dX8_visitAll_8 ?_
  refine pq_icmp_ge (tgt := 44) F dX8_visitAll_11 (by decide) (fun c11 => ?_) (fun c11 => ?_)
  · exact False.elim (by focus ((try clear hZ0); (try clear hWb); (try clear hW30); (try clear hko1); (try clear hflb); (try clear hslb); (try clear hzn); (try clear p1); (try clear p35); (try clear hW6); (try clear hfl6); (try clear hZ3); simp only [vp_in_iff, Int32.lt_iff_toInt_lt, Int32.le_iff_toInt_le, ← Int32.toInt_inj, Int32.toInt_add, Int32.toInt_sub, Int32.toInt_mul, Int32.toInt_neg, pq_NuO, pq_NuI, pq_NuJ, pq_NuR, pq_shr6, pq_shr7, pq_shr8, lqm1, lq0, lq1, lq2, lq402] at *; (try simp (disch := omega) only [pq_bm] at *); all_goals omega))
  · skip
    refine pq_iload_n F dX8_visitAll_14 rfl rfl ?_
    refine pq_sipush (v := 402) F dX8_visitAll_15 (by decide) ?_
    refine pq_icmp_ge (tgt := 44) F dX8_visitAll_18 (by decide) (fun c18 => ?_) (fun c18 => ?_)
    · exact False.elim (by focus ((try clear hZ0); (try clear hWb); (try clear hW30); (try clear hko1); (try clear hflb); (try clear hslb); (try clear hzn); (try clear p1); (try clear p35); (try clear hW6); (try clear hfl6); (try clear hZ3); simp only [vp_in_iff, Int32.lt_iff_toInt_lt, Int32.le_iff_toInt_le, ← Int32.toInt_inj, Int32.toInt_add, Int32.toInt_sub, Int32.toInt_mul, Int32.toInt_neg, pq_NuO, pq_NuI, pq_NuJ, pq_NuR, pq_shr6, pq_shr7, pq_shr8, lqm1, lq0, lq1, lq2, lq402] at *; (try simp (disch := omega) only [pq_bm] at *); all_goals omega))
    · skip
      refine pq_aload_n F dX8_visitAll_21 rfl rfl ?_
      refine pq_get F ha_1 (by decide) lk_X8_46 hcb dX8_visitAll_22 ?_
      refine pq_if_ne (tgt := 44) F dX8_visitAll_25 (by decide) (fun c25 => ?_) (fun c25 => ?_)
      · exact absurd rfl c25
      · skip
        refine pq_aload_n F dX8_visitAll_28 rfl rfl ?_
        refine pq_iload_n F dX8_visitAll_29 rfl rfl ?_
        refine pq_callV (As := [_]) F (k_X8_findReach l D cy _ _ ?_ _ ?_ ?_) ml_X8_50 ha_1 (by decide) rfl (Nat.le_of_ble_eq_true rfl) ⟨Nat.le_of_ble_eq_true rfl, Nat.le_of_ble_eq_true rfl⟩ ⟨by decide, by decide⟩ dX8_visitAll_30 (fun v30 S30 w30 => ?_)
        · exact ha_1
        · focus ((try clear hZ0); (try clear hWb); (try clear hW30); (try clear hko1); (try clear hflb); (try clear hslb); (try clear hzn); (try clear p1); (try clear p35); (try clear hW6); (try clear hfl6); (try clear hZ3); simp only [vp_in_iff, Int32.lt_iff_toInt_lt, Int32.le_iff_toInt_le, ← Int32.toInt_inj, Int32.toInt_add, Int32.toInt_sub, Int32.toInt_mul, Int32.toInt_neg, pq_NuO, pq_NuI, pq_NuJ, pq_NuR, pq_shr6, pq_shr7, pq_shr8, lqm1, lq0, lq1, lq2, lq402] at *; (try simp (disch := omega) only [pq_bm] at *); all_goals omega)
        · focus ((try clear hZ0); (try clear hWb); (try clear hW30); (try clear hko1); (try clear hflb); (try clear hslb); (try clear hzn); (try clear p1); (try clear p35); (try clear hW6); (try clear hfl6); (try clear hZ3); simp only [vp_in_iff, Int32.lt_iff_toInt_lt, Int32.le_iff_toInt_le, ← Int32.toInt_inj, Int32.toInt_add, Int32.toInt_sub, Int32.toInt_mul, Int32.toInt_neg, pq_NuO, pq_NuI, pq_NuJ, pq_NuR, pq_shr6, pq_shr7, pq_shr8, lqm1, lq0, lq1, lq2, lq402] at *; (try simp (disch := omega) only [pq_bm] at *); all_goals omega)
        obtain ⟨rfl, hF30⟩ := w30
        have ha_30 := (hF30.1 _ _ ha_1 (by decide)).1
        have hpl_30 := (hF30.1 _ _ hpl_1 (by decide)).1
        have ec30_0_ha_30 := hF30.O ha_1 (by decide) (by decide) ec1_0_ha_1
        have htk_30 := (hF30.1 _ _ htk_1 (by decide)).1
        have ec30_0_hpl_30 := hF30.O hpl_1 (by decide) (by decide) ec1_0_hpl_1
        have hkd_30 := (hF30.1 _ _ hkd_1 (by decide)).1
        have ec30_1_ha_30 := hF30.O ha_1 (by decide) (by decide) ec1_1_ha_1
        have hko_30 := (hF30.1 _ _ hko_1 (by decide)).1
        have ec30_0_hkd_30 := hF30.O hkd_1 (by decide) (by decide) ec1_0_hkd_1
        have hsl_30 := (hF30.1 _ _ hsl_1 (by decide)).1
        have ec30_3_ha_30 := hF30.O ha_1 (by decide) (by decide) ec1_3_ha_1
        have ec30_7_ha_30 := hF30.O ha_1 (by decide) (by decide) hWb.e7
        have ec30_9_ha_30 := hF30.O ha_1 (by decide) (by decide) hcb
        have hW30 := hWb.fr ha_1 hF30 (by decide)
        refine pq_peekR (k := 5) (show pq_R _ a 11 from ha_30) (by decide) rfl (fun gl fgl hgl => ?_)
        have hZ3 : ∀ i, i < hN S30 tk → hJ S30 tk i = 0 := (fun i hi => (by have z1 := hF1.R htk (by decide); rw [(hF30.1 tk 194 z1 (by decide)).2, (hF1.1 tk 194 htk (by decide)).2] at hi; exact (congrFun (hF30.2.2 tk 194 z1 (by decide) (by decide)).2.1 i).trans ((congrFun (hF1.2.2 tk 194 htk (by decide) (by decide)).2.1 i).trans (hZ0 i hi))))
        refine pq_aload_n F dX8_visitAll_33 rfl rfl ?_
        refine pq_iload_n F dX8_visitAll_34 rfl rfl ?_
        refine pq_callV (As := [_]) F (k_X8_visitFromY l D cy _ _ ?_ _ kd st2 hW30 pl tk gl ec30_0_ha_30 hpl_30 ec30_0_hpl_30 htk_30 fgl hgl ec30_9_ha_30 hZ3 ?_ (by rw [hF30.I hWb.hs (by decide) (by decide)]; exact hflb)) ml_X8_54 ha_30 (by decide) rfl (Nat.le_of_ble_eq_true rfl) ⟨Nat.le_of_ble_eq_true rfl, Nat.le_of_ble_eq_true rfl⟩ ⟨by decide, by decide⟩ dX8_visitAll_35 (fun v35 S35 w35 => ?_)
        · exact ha_30
        · focus ((try clear hZ0); (try clear hWb); (try clear hW30); (try clear hko1); (try clear hflb); (try clear hslb); (try clear hzn); (try clear p1); (try clear p35); (try clear hW6); (try clear hfl6); (try clear hZ3); simp only [vp_in_iff, Int32.lt_iff_toInt_lt, Int32.le_iff_toInt_le, ← Int32.toInt_inj, Int32.toInt_add, Int32.toInt_sub, Int32.toInt_mul, Int32.toInt_neg, pq_NuO, pq_NuI, pq_NuJ, pq_NuR, pq_shr6, pq_shr7, pq_shr8, lqm1, lq0, lq1, lq2, lq402] at *; (try simp (disch := omega) only [pq_bm] at *); all_goals omega)
        obtain ⟨rfl, hF35, p35⟩ := w35
        have ha_35 := (hF35.1 _ _ ha_30 (by decide)).1
        have hpl_35 := (hF35.1 _ _ hpl_30 (by decide)).1
        have ec35_0_ha_35 := hF35.O ha_30 (by decide) (by decide) ec30_0_ha_30
        have htk_35 := (hF35.1 _ _ htk_30 (by decide)).1
        have ec35_0_hpl_35 := hF35.O hpl_30 (by decide) (by decide) ec30_0_hpl_30
        have hkd_35 := (hF35.1 _ _ hkd_30 (by decide)).1
        have ec35_1_ha_35 := hF35.O ha_30 (by decide) (by decide) ec30_1_ha_30
        have hko_35 := (hF35.1 _ _ hko_30 (by decide)).1
        have ec35_0_hkd_35 := hF35.O hkd_30 (by decide) (by decide) ec30_0_hkd_30
        have hsl_35 := (hF35.1 _ _ hsl_30 (by decide)).1
        have ec35_3_ha_35 := hF35.O ha_30 (by decide) (by decide) ec30_3_ha_30
        have ec35_7_ha_35 := hF35.O ha_30 (by decide) (by decide) ec30_7_ha_30
        obtain ⟨hW6, hcr6, hfl6⟩ := p35
        refine pq_iinc (v := 1) F dX8_visitAll_38 rfl (by decide) (by decide) ?_
        refine pq_goto (tgt := 6) F dX8_visitAll_41 (by decide) ?_
        refine pq_iload_n F dX8_visitAll_6 rfl rfl ?_
        refine pq_aload_n F dX8_visitAll_7 rfl rfl ?_
        refine pq_get F ha_35 (by decide) lk_X8_42 ec35_7_ha_35 dX8_visitAll_8 ?_
        refine pq_icmp_ge (tgt := 44) F dX8_visitAll_11 (by decide) (fun c11 => ?_) (fun c11 => ?_)
        · skip
          refine pq_aload_n F dX8_visitAll_44 rfl rfl ?_
          refine pq_get F ha_35 (by decide) lk_X8_46 hcr6 dX8_visitAll_45 ?_
          refine pq_if_ne (tgt := 55) F dX8_visitAll_48 (by decide) (fun c48 => ?_) (fun c48 => ?_)
          · exact absurd rfl c48
          · skip
            refine pq_iconst (v := 1) F dX8_visitAll_51 (by decide) ?_
            refine pq_goto (tgt := 56) F dX8_visitAll_52 (by decide) ?_
            exact pq_zret F hr hlk hA rfl (Nat.le_of_ble_eq_true rfl) (Nat.le_of_ble_eq_true rfl) (⟨(((pq_Fr.rf.cm hF1 (by decide)).cm hF30 (by decide)).cm hF35 (by decide)), 1, rfl, (by focus ((try clear hZ0); (try clear hWb); (try clear hW30); (try clear hko1); (try clear hflb); (try clear hslb); (try clear hzn); (try clear p1); (try clear p35); (try clear hW6); (try clear hfl6); (try clear hZ3); simp only [vp_in_iff, Int32.lt_iff_toInt_lt, Int32.le_iff_toInt_le, ← Int32.toInt_inj, Int32.toInt_add, Int32.toInt_sub, Int32.toInt_mul, Int32.toInt_neg, pq_NuO, pq_NuI, pq_NuJ, pq_NuR, pq_shr6, pq_shr7, pq_shr8, lqm1, lq0, lq1, lq2, lq402] at *; (try simp (disch := omega) only [pq_bm] at *); all_goals omega)), (by focus ((try clear hZ0); (try clear hWb); (try clear hW30); (try clear hko1); (try clear hflb); (try clear hslb); (try clear hzn); (try clear p1); (try clear p35); (try clear hW6); (try clear hfl6); (try clear hZ3); simp only [vp_in_iff, Int32.lt_iff_toInt_lt, Int32.le_iff_toInt_le, ← Int32.toInt_inj, Int32.toInt_add, Int32.toInt_sub, Int32.toInt_mul, Int32.toInt_neg, pq_NuO, pq_NuI, pq_NuJ, pq_NuR, pq_shr6, pq_shr7, pq_shr8, lqm1, lq0, lq1, lq2, lq402] at *; (try simp (disch := omega) only [pq_bm] at *); all_goals omega)), rfl, st2, hW6, (by have z1 := hF1.R hko (by decide); have z2 := hF30.R z1 (by decide); rw [hF35.I z2 (by decide) (by decide), hF30.I z1 (by decide) (by decide)]; exact hko1), hfl6⟩) dX8_visitAll_56
        · exact False.elim (by focus ((try clear hZ0); (try clear hWb); (try clear hW30); (try clear hko1); (try clear hflb); (try clear hslb); (try clear hzn); (try clear p1); (try clear p35); (try clear hW6); (try clear hfl6); (try clear hZ3); simp only [vp_in_iff, Int32.lt_iff_toInt_lt, Int32.le_iff_toInt_le, ← Int32.toInt_inj, Int32.toInt_add, Int32.toInt_sub, Int32.toInt_mul, Int32.toInt_neg, pq_NuO, pq_NuI, pq_NuJ, pq_NuR, pq_shr6, pq_shr7, pq_shr8, lqm1, lq0, lq1, lq2, lq402] at *; (try simp (disch := omega) only [pq_bm] at *); all_goals omega))

set_option maxHeartbeats 4000000 in
set_option maxRecDepth 100000 in
theorem k_X4_beginBlocksY (l : Launch) (D : va_G) (cy : Nat → ClassId) (S : HS) (a : Nat) (ha : pq_R S a 7) (wk kd st : Nat) (e0 : hO S a 0 = .ref wk) (hwk : pq_R S wk 11) (hW : pq_Wk S wk kd st 1 2) (bo : Nat) (e1 : hO S a 1 = .ref bo) (hbo : pq_R S bo 159) : pq_C l D cy yX4_beginBlocks cX4_beginBlocks 3 (none) 1 0 0 S [.ref a] (fun v S2 => v = none ∧ pq_Fr [(7, 7), (159, 0)] S S2 ∧ (hO S2 a 7 = .int 1 ∧ pq_lt (hI S2 bo) 2 1)) := by
  refine pq_start (by decide) (Nat.le_of_ble_eq_true rfl) ?_
  intro p e s m args below meth c A F hr hlk hnm hA
  have lqm1 : (-1 : Int32).toInt = -1 := rfl
  have lq0 : (0 : Int32).toInt = 0 := rfl
  have lq1 : (1 : Int32).toInt = 1 := rfl
  have lq2 : (2 : Int32).toInt = 2 := rfl
  have lq3 : (3 : Int32).toInt = 3 := rfl
  have hwl := hW.l
  refine pq_aload_n F dX4_beginBlocks_0 rfl rfl ?_
  refine pq_get F ha (by decide) lk_X4_33 e0 dX4_beginBlocks_1 ?_
  refine pq_get F hwk (by decide) lk_X4_72 hW.e7 dX4_beginBlocks_4 ?_
  refine pq_iconst (v := 2) F dX4_beginBlocks_7 (by decide) ?_
  refine pq_icmp_le (tgt := 15) F dX4_beginBlocks_8 (by decide) (fun c8 => ?_) (fun c8 => ?_)
  · skip
    refine pq_iconst (v := 0) F dX4_beginBlocks_15 (by decide) ?_
    refine pq_istore_n F dX4_beginBlocks_16 rfl (by decide) ?_
    refine pq_aload_n F dX4_beginBlocks_17 rfl rfl ?_
    refine pq_iload_n F dX4_beginBlocks_18 rfl rfl ?_
    refine pq_if_eq (tgt := 26) F dX4_beginBlocks_19 (by decide) (fun c19 => ?_) (fun c19 => ?_)
    · skip
      refine pq_iconst (v := 1) F dX4_beginBlocks_26 (by decide) ?_
      refine pq_putI F ha (by decide) lp_X4_61 rfl (by focus ((try clear hW); (try clear hWL); (try clear K); (try clear ih); (try clear hlt); (try clear hltL); (try clear hnb); (try clear p93); (try clear p97); (try clear p132); (try clear hst); (try clear hstL); (try clear p75); (try clear p1); (try clear p5); (try clear hai); (try clear hai3); (try clear hlt3); (try clear hnb3); (try clear hlt1); (try clear hlt5); (try clear hlt4); (try clear ha97); (try clear g32); (try clear g45); simp only [vp_in_iff, Int32.lt_iff_toInt_lt, Int32.le_iff_toInt_le, ← Int32.toInt_inj, Int32.toInt_add, Int32.toInt_sub, Int32.toInt_mul, Int32.toInt_neg, pq_NuO, pq_NuI, pq_NuJ, pq_NuR, pq_shr6, pq_shr7, pq_shr8, lqm1, lq0, lq1, lq2, lq3] at *; (try simp (disch := omega) only [pq_bm] at *); all_goals omega)) (by focus ((try clear hW); (try clear hWL); (try clear K); (try clear ih); (try clear hlt); (try clear hltL); (try clear hnb); (try clear p93); (try clear p97); (try clear p132); (try clear hst); (try clear hstL); (try clear p75); (try clear p1); (try clear p5); (try clear hai); (try clear hai3); (try clear hlt3); (try clear hnb3); (try clear hlt1); (try clear hlt5); (try clear hlt4); (try clear ha97); (try clear g32); (try clear g45); simp only [vp_in_iff, Int32.lt_iff_toInt_lt, Int32.le_iff_toInt_le, ← Int32.toInt_inj, Int32.toInt_add, Int32.toInt_sub, Int32.toInt_mul, Int32.toInt_neg, pq_NuO, pq_NuI, pq_NuJ, pq_NuR, pq_shr6, pq_shr7, pq_shr8, lqm1, lq0, lq1, lq2, lq3] at *; (try simp (disch := omega) only [pq_bm] at *); all_goals omega)) dX4_beginBlocks_27 ?_
      refine pq_aload_n F dX4_beginBlocks_30 rfl rfl ?_
      refine pq_get F ha (by decide) lk_X4_11 (pq_kp e1 (by decide)) dX4_beginBlocks_31 ?_
      refine pq_iconst (v := 0) F dX4_beginBlocks_34 (by decide) ?_
      refine pq_iconst (v := 0) F dX4_beginBlocks_35 (by decide) ?_
      refine pq_iast F hbo (by decide) (by decide) rfl (fun n1_36 n2_36 => (by focus ((try clear hW); (try clear hWL); (try clear K); (try clear ih); (try clear hlt); (try clear hltL); (try clear hnb); (try clear p93); (try clear p97); (try clear p132); (try clear hst); (try clear hstL); (try clear p75); (try clear p1); (try clear p5); (try clear hai); (try clear hai3); (try clear hlt3); (try clear hnb3); (try clear hlt1); (try clear hlt5); (try clear hlt4); (try clear ha97); (try clear g32); (try clear g45); simp only [vp_in_iff, Int32.lt_iff_toInt_lt, Int32.le_iff_toInt_le, ← Int32.toInt_inj, Int32.toInt_add, Int32.toInt_sub, Int32.toInt_mul, Int32.toInt_neg, pq_NuO, pq_NuI, pq_NuJ, pq_NuR, pq_shr6, pq_shr7, pq_shr8, lqm1, lq0, lq1, lq2, lq3] at *; (try simp (disch := omega) only [pq_bm] at *); all_goals omega))) (⟨(by focus ((try clear hW); (try clear hWL); (try clear K); (try clear ih); (try clear hlt); (try clear hltL); (try clear hnb); (try clear p93); (try clear p97); (try clear p132); (try clear hst); (try clear hstL); (try clear p75); (try clear p1); (try clear p5); (try clear hai); (try clear hai3); (try clear hlt3); (try clear hnb3); (try clear hlt1); (try clear hlt5); (try clear hlt4); (try clear ha97); (try clear g32); (try clear g45); simp only [vp_in_iff, Int32.lt_iff_toInt_lt, Int32.le_iff_toInt_le, ← Int32.toInt_inj, Int32.toInt_add, Int32.toInt_sub, Int32.toInt_mul, Int32.toInt_neg, pq_NuO, pq_NuI, pq_NuJ, pq_NuR, pq_shr6, pq_shr7, pq_shr8, lqm1, lq0, lq1, lq2, lq3] at *; (try simp (disch := omega) only [pq_bm] at *); all_goals omega)), (by focus ((try clear hW); (try clear hWL); (try clear K); (try clear ih); (try clear hlt); (try clear hltL); (try clear hnb); (try clear p93); (try clear p97); (try clear p132); (try clear hst); (try clear hstL); (try clear p75); (try clear p1); (try clear p5); (try clear hai); (try clear hai3); (try clear hlt3); (try clear hnb3); (try clear hlt1); (try clear hlt5); (try clear hlt4); (try clear ha97); (try clear g32); (try clear g45); simp only [vp_in_iff, Int32.lt_iff_toInt_lt, Int32.le_iff_toInt_le, ← Int32.toInt_inj, Int32.toInt_add, Int32.toInt_sub, Int32.toInt_mul, Int32.toInt_neg, pq_NuO, pq_NuI, pq_NuJ, pq_NuR, pq_shr6, pq_shr7, pq_shr8, lqm1, lq0, lq1, lq2, lq3] at *; (try simp (disch := omega) only [pq_bm] at *); all_goals omega))⟩) dX4_beginBlocks_36 ?_
      refine pq_aload_n F dX4_beginBlocks_37 rfl rfl ?_
      refine pq_get F ha (by decide) lk_X4_11 (pq_kp e1 (by decide)) dX4_beginBlocks_38 ?_
      refine pq_iconst (v := 1) F dX4_beginBlocks_41 (by decide) ?_
      refine pq_iload_n F dX4_beginBlocks_42 rfl rfl ?_
      refine pq_if_eq (tgt := 50) F dX4_beginBlocks_43 (by decide) (fun c43 => ?_) (fun c43 => ?_)
      · skip
        refine pq_iconst (v := 0) F dX4_beginBlocks_50 (by decide) ?_
        refine pq_iast F hbo (by decide) (by decide) rfl (fun n1_51 n2_51 => (by focus ((try clear hW); (try clear hWL); (try clear K); (try clear ih); (try clear hlt); (try clear hltL); (try clear hnb); (try clear p93); (try clear p97); (try clear p132); (try clear hst); (try clear hstL); (try clear p75); (try clear p1); (try clear p5); (try clear hai); (try clear hai3); (try clear hlt3); (try clear hnb3); (try clear hlt1); (try clear hlt5); (try clear hlt4); (try clear ha97); (try clear g32); (try clear g45); simp only [vp_in_iff, Int32.lt_iff_toInt_lt, Int32.le_iff_toInt_le, ← Int32.toInt_inj, Int32.toInt_add, Int32.toInt_sub, Int32.toInt_mul, Int32.toInt_neg, pq_NuO, pq_NuI, pq_NuJ, pq_NuR, pq_shr6, pq_shr7, pq_shr8, lqm1, lq0, lq1, lq2, lq3] at *; (try simp (disch := omega) only [pq_bm] at *); all_goals omega))) (⟨(by focus ((try clear hW); (try clear hWL); (try clear K); (try clear ih); (try clear hlt); (try clear hltL); (try clear hnb); (try clear p93); (try clear p97); (try clear p132); (try clear hst); (try clear hstL); (try clear p75); (try clear p1); (try clear p5); (try clear hai); (try clear hai3); (try clear hlt3); (try clear hnb3); (try clear hlt1); (try clear hlt5); (try clear hlt4); (try clear ha97); (try clear g32); (try clear g45); simp only [vp_in_iff, Int32.lt_iff_toInt_lt, Int32.le_iff_toInt_le, ← Int32.toInt_inj, Int32.toInt_add, Int32.toInt_sub, Int32.toInt_mul, Int32.toInt_neg, pq_NuO, pq_NuI, pq_NuJ, pq_NuR, pq_shr6, pq_shr7, pq_shr8, lqm1, lq0, lq1, lq2, lq3] at *; (try simp (disch := omega) only [pq_bm] at *); all_goals omega)), (by focus ((try clear hW); (try clear hWL); (try clear K); (try clear ih); (try clear hlt); (try clear hltL); (try clear hnb); (try clear p93); (try clear p97); (try clear p132); (try clear hst); (try clear hstL); (try clear p75); (try clear p1); (try clear p5); (try clear hai); (try clear hai3); (try clear hlt3); (try clear hnb3); (try clear hlt1); (try clear hlt5); (try clear hlt4); (try clear ha97); (try clear g32); (try clear g45); simp only [vp_in_iff, Int32.lt_iff_toInt_lt, Int32.le_iff_toInt_le, ← Int32.toInt_inj, Int32.toInt_add, Int32.toInt_sub, Int32.toInt_mul, Int32.toInt_neg, pq_NuO, pq_NuI, pq_NuJ, pq_NuR, pq_shr6, pq_shr7, pq_shr8, lqm1, lq0, lq1, lq2, lq3] at *; (try simp (disch := omega) only [pq_bm] at *); all_goals omega))⟩) dX4_beginBlocks_51 ?_
        refine pq_iconst (v := 2) F dX4_beginBlocks_52 (by decide) ?_
        refine pq_istore_n F dX4_beginBlocks_53 rfl (by decide) ?_
        refine pq_iload_n F dX4_beginBlocks_54 rfl rfl ?_
        refine pq_aload_n F dX4_beginBlocks_55 rfl rfl ?_
        refine pq_get F ha (by decide) lk_X4_33 (pq_kp e0 (by decide)) dX4_beginBlocks_56 ?_
        refine pq_get F hwk (by decide) lk_X4_72 (pq_ko hW.e7 hwk ha (by decide)) dX4_beginBlocks_59 ?_
        refine pq_icmp_ge (tgt := 93) F dX4_beginBlocks_62 (by decide) (fun c62 => ?_) (fun c62 => ?_)
        · skip
          exact pq_vret F hr hlk hA (Nat.le_refl _) (Nat.le_refl _) (⟨rfl, (((pq_Fr.rf.uO ha (by decide)).uI hbo (by first | decide | exact List.mem_cons_self)).uI hbo (by first | decide | exact List.mem_cons_self)), pq_ks, (by simp only [pq_IuO, pq_IuJ, pq_Iu, pq_JuO, pq_JuI, pq_Ju, pq_RuO, pq_RuJ, pq_RuI, if_true, if_false]; exact pq_lt.two (by focus ((try clear hW); (try clear hWL); (try clear K); (try clear ih); (try clear hlt); (try clear hltL); (try clear hnb); (try clear p93); (try clear p97); (try clear p132); (try clear hst); (try clear hstL); (try clear p75); (try clear p1); (try clear p5); (try clear hai); (try clear hai3); (try clear hlt3); (try clear hnb3); (try clear hlt1); (try clear hlt5); (try clear hlt4); (try clear ha97); (try clear g32); (try clear g45); simp only [vp_in_iff, Int32.lt_iff_toInt_lt, Int32.le_iff_toInt_le, ← Int32.toInt_inj, Int32.toInt_add, Int32.toInt_sub, Int32.toInt_mul, Int32.toInt_neg, pq_NuO, pq_NuI, pq_NuJ, pq_NuR, pq_shr6, pq_shr7, pq_shr8, lqm1, lq0, lq1, lq2, lq3] at *; (try simp (disch := omega) only [pq_bm] at *); all_goals omega)) (by focus ((try clear hW); (try clear hWL); (try clear K); (try clear ih); (try clear hlt); (try clear hltL); (try clear hnb); (try clear p93); (try clear p97); (try clear p132); (try clear hst); (try clear hstL); (try clear p75); (try clear p1); (try clear p5); (try clear hai); (try clear hai3); (try clear hlt3); (try clear hnb3); (try clear hlt1); (try clear hlt5); (try clear hlt4); (try clear ha97); (try clear g32); (try clear g45); simp only [vp_in_iff, Int32.lt_iff_toInt_lt, Int32.le_iff_toInt_le, ← Int32.toInt_inj, Int32.toInt_add, Int32.toInt_sub, Int32.toInt_mul, Int32.toInt_neg, pq_NuO, pq_NuI, pq_NuJ, pq_NuR, pq_shr6, pq_shr7, pq_shr8, lqm1, lq0, lq1, lq2, lq3] at *; (try simp (disch := omega) only [pq_bm] at *); all_goals omega)))⟩) dX4_beginBlocks_93
        · exact False.elim (by focus ((try clear hW); (try clear hWL); (try clear K); (try clear ih); (try clear hlt); (try clear hltL); (try clear hnb); (try clear p93); (try clear p97); (try clear p132); (try clear hst); (try clear hstL); (try clear p75); (try clear p1); (try clear p5); (try clear hai); (try clear hai3); (try clear hlt3); (try clear hnb3); (try clear hlt1); (try clear hlt5); (try clear hlt4); (try clear ha97); (try clear g32); (try clear g45); simp only [vp_in_iff, Int32.lt_iff_toInt_lt, Int32.le_iff_toInt_le, ← Int32.toInt_inj, Int32.toInt_add, Int32.toInt_sub, Int32.toInt_mul, Int32.toInt_neg, pq_NuO, pq_NuI, pq_NuJ, pq_NuR, pq_shr6, pq_shr7, pq_shr8, lqm1, lq0, lq1, lq2, lq3] at *; (try simp (disch := omega) only [pq_bm] at *); all_goals omega))
      · exact absurd rfl c43
    · exact absurd rfl c19
  · exact False.elim (by focus ((try clear hW); (try clear hWL); (try clear K); (try clear ih); (try clear hlt); (try clear hltL); (try clear hnb); (try clear p93); (try clear p97); (try clear p132); (try clear hst); (try clear hstL); (try clear p75); (try clear p1); (try clear p5); (try clear hai); (try clear hai3); (try clear hlt3); (try clear hnb3); (try clear hlt1); (try clear hlt5); (try clear hlt4); (try clear ha97); (try clear g32); (try clear g45); simp only [vp_in_iff, Int32.lt_iff_toInt_lt, Int32.le_iff_toInt_le, ← Int32.toInt_inj, Int32.toInt_add, Int32.toInt_sub, Int32.toInt_mul, Int32.toInt_neg, pq_NuO, pq_NuI, pq_NuJ, pq_NuR, pq_shr6, pq_shr7, pq_shr8, lqm1, lq0, lq1, lq2, lq3] at *; (try simp (disch := omega) only [pq_bm] at *); all_goals omega))

set_option maxHeartbeats 4000000 in
set_option maxRecDepth 100000 in
theorem k_X4_partOfY (l : Launch) (D : va_G) (cy : Nat → ClassId) (S : HS) (a : Nat) (ha : pq_R S a 7) (bk : Int32) (am0 : Int32) (am : Nat) (e3 : hO S a 3 = .ref am) (ham : pq_R S am 161) (e7 : hO S a 7 = .int 1) (hbk : bk = 0) (hm0 : am0 = 0) (hai : (hI S am 0).toInt ≤ 0) : pq_C l D cy yX4_partOf cX4_partOf 5 (some .int) 1 0 0 S [.ref a, .int bk, .int am0] (fun v S2 => pq_Fr [(161, 0)] S S2 ∧ ∃ x : Int32, v = some (.int x) ∧ (x = 0 ∧ hI S2 am 0 = 0)) := by
  refine pq_start (by decide) (Nat.le_of_ble_eq_true rfl) ?_
  intro p e s m args below meth c A F hr hlk hnm hA
  have lqm1 : (-1 : Int32).toInt = -1 := rfl
  have lq0 : (0 : Int32).toInt = 0 := rfl
  have lq1 : (1 : Int32).toInt = 1 := rfl
  subst hbk
  subst hm0
  refine pq_aload_n F dX4_partOf_0 rfl rfl ?_
  refine pq_get F ha (by decide) lk_X4_20 e3 dX4_partOf_1 ?_
  refine pq_iload_n F dX4_partOf_4 rfl rfl ?_
  refine pq_iald F ham (by decide) (by decide) rfl (fun n1_5 n2_5 => (by focus ((try clear hW); (try clear hWL); (try clear K); (try clear ih); (try clear hlt); (try clear hltL); (try clear hnb); (try clear p93); (try clear p97); (try clear p132); (try clear hst); (try clear hstL); (try clear p75); (try clear p1); (try clear p5); (try clear hai); (try clear hai3); (try clear hlt3); (try clear hnb3); (try clear hlt1); (try clear hlt5); (try clear hlt4); (try clear ha97); (try clear g32); (try clear g45); simp only [vp_in_iff, Int32.lt_iff_toInt_lt, Int32.le_iff_toInt_le, ← Int32.toInt_inj, Int32.toInt_add, Int32.toInt_sub, Int32.toInt_mul, Int32.toInt_neg, pq_NuO, pq_NuI, pq_NuJ, pq_NuR, pq_shr6, pq_shr7, pq_shr8, lqm1, lq0, lq1] at *; (try simp (disch := omega) only [pq_bm] at *); all_goals omega))) dX4_partOf_5 (fun x5 e5 l5 u5 => ?_)
  have x5l : x5.toInt ≤ 0 := (by rw [e5]; exact hai)
  refine pq_if_ge (tgt := 16) F dX4_partOf_6 (by decide) (fun c6 => ?_) (fun c6 => ?_)
  · skip
    refine pq_iload_n F dX4_partOf_16 rfl rfl ?_
    refine pq_istore_n F dX4_partOf_17 rfl (by decide) ?_
    refine pq_iconst (v := 0) F dX4_partOf_18 (by decide) ?_
    refine pq_istore F dX4_partOf_19 (by decide) ?_
    refine pq_iload F dX4_partOf_21 rfl ?_
    refine pq_aload_n F dX4_partOf_23 rfl rfl ?_
    refine pq_get F ha (by decide) lk_X4_61 e7 dX4_partOf_24 ?_
    refine pq_icmp_ge (tgt := 62) F dX4_partOf_27 (by decide) (fun c27 => ?_) (fun c27 => ?_)
    · exact False.elim (by focus ((try clear hW); (try clear hWL); (try clear K); (try clear ih); (try clear hlt); (try clear hltL); (try clear hnb); (try clear p93); (try clear p97); (try clear p132); (try clear hst); (try clear hstL); (try clear p75); (try clear p1); (try clear p5); (try clear hai); (try clear hai3); (try clear hlt3); (try clear hnb3); (try clear hlt1); (try clear hlt5); (try clear hlt4); (try clear ha97); (try clear g32); (try clear g45); simp only [vp_in_iff, Int32.lt_iff_toInt_lt, Int32.le_iff_toInt_le, ← Int32.toInt_inj, Int32.toInt_add, Int32.toInt_sub, Int32.toInt_mul, Int32.toInt_neg, pq_NuO, pq_NuI, pq_NuJ, pq_NuR, pq_shr6, pq_shr7, pq_shr8, lqm1, lq0, lq1] at *; (try simp (disch := omega) only [pq_bm] at *); all_goals omega))
    · skip
      refine pq_aload_n F dX4_partOf_30 rfl rfl ?_
      refine pq_get F ha (by decide) lk_X4_20 e3 dX4_partOf_31 ?_
      refine pq_iload_n F dX4_partOf_34 rfl rfl ?_
      refine pq_iald F ham (by decide) (by decide) rfl (fun n1_35 n2_35 => (by focus ((try clear hW); (try clear hWL); (try clear K); (try clear ih); (try clear hlt); (try clear hltL); (try clear hnb); (try clear p93); (try clear p97); (try clear p132); (try clear hst); (try clear hstL); (try clear p75); (try clear p1); (try clear p5); (try clear hai); (try clear hai3); (try clear hlt3); (try clear hnb3); (try clear hlt1); (try clear hlt5); (try clear hlt4); (try clear ha97); (try clear g32); (try clear g45); simp only [vp_in_iff, Int32.lt_iff_toInt_lt, Int32.le_iff_toInt_le, ← Int32.toInt_inj, Int32.toInt_add, Int32.toInt_sub, Int32.toInt_mul, Int32.toInt_neg, pq_NuO, pq_NuI, pq_NuJ, pq_NuR, pq_shr6, pq_shr7, pq_shr8, lqm1, lq0, lq1] at *; (try simp (disch := omega) only [pq_bm] at *); all_goals omega))) dX4_partOf_35 (fun x35 e35 l35 u35 => ?_)
      have x35e : x35 = 0 := (e35.trans (e5.symm.trans (Int32.toInt_inj.mp (by focus ((try clear hW); (try clear hWL); (try clear K); (try clear ih); (try clear hlt); (try clear hltL); (try clear hnb); (try clear p93); (try clear p97); (try clear p132); (try clear hst); (try clear hstL); (try clear p75); (try clear p1); (try clear p5); (try clear hai); (try clear hai3); (try clear hlt3); (try clear hnb3); (try clear hlt1); (try clear hlt5); (try clear hlt4); (try clear ha97); (try clear g32); (try clear g45); simp only [vp_in_iff, Int32.lt_iff_toInt_lt, Int32.le_iff_toInt_le, ← Int32.toInt_inj, Int32.toInt_add, Int32.toInt_sub, Int32.toInt_mul, Int32.toInt_neg, pq_NuO, pq_NuI, pq_NuJ, pq_NuR, pq_shr6, pq_shr7, pq_shr8, lqm1, lq0, lq1] at *; (try simp (disch := omega) only [pq_bm] at *); all_goals omega)))))
      refine pq_iload_n F dX4_partOf_36 rfl rfl ?_
      refine pq_icmp_eq (tgt := 62) F dX4_partOf_37 (by decide) (fun c37 => ?_) (fun c37 => ?_)
      · skip
        refine pq_aload_n F dX4_partOf_62 rfl rfl ?_
        refine pq_get F ha (by decide) lk_X4_20 e3 dX4_partOf_63 ?_
        refine pq_iload_n F dX4_partOf_66 rfl rfl ?_
        refine pq_iald F ham (by decide) (by decide) rfl (fun n1_67 n2_67 => (by focus ((try clear hW); (try clear hWL); (try clear K); (try clear ih); (try clear hlt); (try clear hltL); (try clear hnb); (try clear p93); (try clear p97); (try clear p132); (try clear hst); (try clear hstL); (try clear p75); (try clear p1); (try clear p5); (try clear hai); (try clear hai3); (try clear hlt3); (try clear hnb3); (try clear hlt1); (try clear hlt5); (try clear hlt4); (try clear ha97); (try clear g32); (try clear g45); simp only [vp_in_iff, Int32.lt_iff_toInt_lt, Int32.le_iff_toInt_le, ← Int32.toInt_inj, Int32.toInt_add, Int32.toInt_sub, Int32.toInt_mul, Int32.toInt_neg, pq_NuO, pq_NuI, pq_NuJ, pq_NuR, pq_shr6, pq_shr7, pq_shr8, lqm1, lq0, lq1] at *; (try simp (disch := omega) only [pq_bm] at *); all_goals omega))) dX4_partOf_67 (fun x67 e67 l67 u67 => ?_)
        have x66e : x67 = 0 := (e67.trans (e5.symm.trans (Int32.toInt_inj.mp (by focus ((try clear hW); (try clear hWL); (try clear K); (try clear ih); (try clear hlt); (try clear hltL); (try clear hnb); (try clear p93); (try clear p97); (try clear p132); (try clear hst); (try clear hstL); (try clear p75); (try clear p1); (try clear p5); (try clear hai); (try clear hai3); (try clear hlt3); (try clear hnb3); (try clear hlt1); (try clear hlt5); (try clear hlt4); (try clear ha97); (try clear g32); (try clear g45); simp only [vp_in_iff, Int32.lt_iff_toInt_lt, Int32.le_iff_toInt_le, ← Int32.toInt_inj, Int32.toInt_add, Int32.toInt_sub, Int32.toInt_mul, Int32.toInt_neg, pq_NuO, pq_NuI, pq_NuJ, pq_NuR, pq_shr6, pq_shr7, pq_shr8, lqm1, lq0, lq1] at *; (try simp (disch := omega) only [pq_bm] at *); all_goals omega)))))
        refine pq_iload_n F dX4_partOf_68 rfl rfl ?_
        refine pq_icmp_ne (tgt := 74) F dX4_partOf_69 (by decide) (fun c69 => ?_) (fun c69 => ?_)
        · exact absurd x66e c69
        · skip
          refine pq_iload_n F dX4_partOf_72 rfl rfl ?_
          exact pq_iret F hr hlk hA (Nat.le_refl _) (Nat.le_refl _) (⟨pq_Fr.rf, _, rfl, rfl, (e5.symm.trans (Int32.toInt_inj.mp (by focus ((try clear hW); (try clear hWL); (try clear K); (try clear ih); (try clear hlt); (try clear hltL); (try clear hnb); (try clear p93); (try clear p97); (try clear p132); (try clear hst); (try clear hstL); (try clear p75); (try clear p1); (try clear p5); (try clear hai); (try clear hai3); (try clear hlt3); (try clear hnb3); (try clear hlt1); (try clear hlt5); (try clear hlt4); (try clear ha97); (try clear g32); (try clear g45); simp only [vp_in_iff, Int32.lt_iff_toInt_lt, Int32.le_iff_toInt_le, ← Int32.toInt_inj, Int32.toInt_add, Int32.toInt_sub, Int32.toInt_mul, Int32.toInt_neg, pq_NuO, pq_NuI, pq_NuJ, pq_NuR, pq_shr6, pq_shr7, pq_shr8, lqm1, lq0, lq1] at *; (try simp (disch := omega) only [pq_bm] at *); all_goals omega))))⟩) dX4_partOf_73
      · exact absurd x35e c37
  · skip
    refine pq_aload_n F dX4_partOf_9 rfl rfl ?_
    refine pq_get F ha (by decide) lk_X4_20 e3 dX4_partOf_10 ?_
    refine pq_iload_n F dX4_partOf_13 rfl rfl ?_
    refine pq_iload_n F dX4_partOf_14 rfl rfl ?_
    refine pq_iast F ham (by decide) (by decide) rfl (fun n1_15 n2_15 => (by focus ((try clear hW); (try clear hWL); (try clear K); (try clear ih); (try clear hlt); (try clear hltL); (try clear hnb); (try clear p93); (try clear p97); (try clear p132); (try clear hst); (try clear hstL); (try clear p75); (try clear p1); (try clear p5); (try clear hai); (try clear hai3); (try clear hlt3); (try clear hnb3); (try clear hlt1); (try clear hlt5); (try clear hlt4); (try clear ha97); (try clear g32); (try clear g45); simp only [vp_in_iff, Int32.lt_iff_toInt_lt, Int32.le_iff_toInt_le, ← Int32.toInt_inj, Int32.toInt_add, Int32.toInt_sub, Int32.toInt_mul, Int32.toInt_neg, pq_NuO, pq_NuI, pq_NuJ, pq_NuR, pq_shr6, pq_shr7, pq_shr8, lqm1, lq0, lq1] at *; (try simp (disch := omega) only [pq_bm] at *); all_goals omega))) (⟨(by focus ((try clear hW); (try clear hWL); (try clear K); (try clear ih); (try clear hlt); (try clear hltL); (try clear hnb); (try clear p93); (try clear p97); (try clear p132); (try clear hst); (try clear hstL); (try clear p75); (try clear p1); (try clear p5); (try clear hai); (try clear hai3); (try clear hlt3); (try clear hnb3); (try clear hlt1); (try clear hlt5); (try clear hlt4); (try clear ha97); (try clear g32); (try clear g45); simp only [vp_in_iff, Int32.lt_iff_toInt_lt, Int32.le_iff_toInt_le, ← Int32.toInt_inj, Int32.toInt_add, Int32.toInt_sub, Int32.toInt_mul, Int32.toInt_neg, pq_NuO, pq_NuI, pq_NuJ, pq_NuR, pq_shr6, pq_shr7, pq_shr8, lqm1, lq0, lq1] at *; (try simp (disch := omega) only [pq_bm] at *); all_goals omega)), (by focus ((try clear hW); (try clear hWL); (try clear K); (try clear ih); (try clear hlt); (try clear hltL); (try clear hnb); (try clear p93); (try clear p97); (try clear p132); (try clear hst); (try clear hstL); (try clear p75); (try clear p1); (try clear p5); (try clear hai); (try clear hai3); (try clear hlt3); (try clear hnb3); (try clear hlt1); (try clear hlt5); (try clear hlt4); (try clear ha97); (try clear g32); (try clear g45); simp only [vp_in_iff, Int32.lt_iff_toInt_lt, Int32.le_iff_toInt_le, ← Int32.toInt_inj, Int32.toInt_add, Int32.toInt_sub, Int32.toInt_mul, Int32.toInt_neg, pq_NuO, pq_NuI, pq_NuJ, pq_NuR, pq_shr6, pq_shr7, pq_shr8, lqm1, lq0, lq1] at *; (try simp (disch := omega) only [pq_bm] at *); all_goals omega))⟩) dX4_partOf_15 ?_
    refine pq_iload_n F dX4_partOf_16 rfl rfl ?_
    refine pq_istore_n F dX4_partOf_17 rfl (by decide) ?_
    refine pq_iconst (v := 0) F dX4_partOf_18 (by decide) ?_
    refine pq_istore F dX4_partOf_19 (by decide) ?_
    refine pq_iload F dX4_partOf_21 rfl ?_
    refine pq_aload_n F dX4_partOf_23 rfl rfl ?_
    refine pq_get F ha (by decide) lk_X4_61 e7 dX4_partOf_24 ?_
    refine pq_icmp_ge (tgt := 62) F dX4_partOf_27 (by decide) (fun c27 => ?_) (fun c27 => ?_)
    · exact False.elim (by focus ((try clear hW); (try clear hWL); (try clear K); (try clear ih); (try clear hlt); (try clear hltL); (try clear hnb); (try clear p93); (try clear p97); (try clear p132); (try clear hst); (try clear hstL); (try clear p75); (try clear p1); (try clear p5); (try clear hai); (try clear hai3); (try clear hlt3); (try clear hnb3); (try clear hlt1); (try clear hlt5); (try clear hlt4); (try clear ha97); (try clear g32); (try clear g45); simp only [vp_in_iff, Int32.lt_iff_toInt_lt, Int32.le_iff_toInt_le, ← Int32.toInt_inj, Int32.toInt_add, Int32.toInt_sub, Int32.toInt_mul, Int32.toInt_neg, pq_NuO, pq_NuI, pq_NuJ, pq_NuR, pq_shr6, pq_shr7, pq_shr8, lqm1, lq0, lq1] at *; (try simp (disch := omega) only [pq_bm] at *); all_goals omega))
    · skip
      refine pq_aload_n F dX4_partOf_30 rfl rfl ?_
      refine pq_get F ha (by decide) lk_X4_20 e3 dX4_partOf_31 ?_
      refine pq_iload_n F dX4_partOf_34 rfl rfl ?_
      refine pq_iald F ham (by decide) (by decide) rfl (fun n1_35 n2_35 => (by focus ((try clear hW); (try clear hWL); (try clear K); (try clear ih); (try clear hlt); (try clear hltL); (try clear hnb); (try clear p93); (try clear p97); (try clear p132); (try clear hst); (try clear hstL); (try clear p75); (try clear p1); (try clear p5); (try clear hai); (try clear hai3); (try clear hlt3); (try clear hnb3); (try clear hlt1); (try clear hlt5); (try clear hlt4); (try clear ha97); (try clear g32); (try clear g45); simp only [vp_in_iff, Int32.lt_iff_toInt_lt, Int32.le_iff_toInt_le, ← Int32.toInt_inj, Int32.toInt_add, Int32.toInt_sub, Int32.toInt_mul, Int32.toInt_neg, pq_NuO, pq_NuI, pq_NuJ, pq_NuR, pq_shr6, pq_shr7, pq_shr8, lqm1, lq0, lq1] at *; (try simp (disch := omega) only [pq_bm] at *); all_goals omega))) dX4_partOf_35 (fun x35 e35 l35 u35 => ?_)
      have x35e : x35 = 0 := (by rw [e35]; simp only [pq_IuO, pq_IuJ, pq_Iu, pq_JuO, pq_JuI, pq_Ju, pq_RuO, pq_RuJ, pq_RuI, if_true, if_false]; exact pk_us)
      refine pq_iload_n F dX4_partOf_36 rfl rfl ?_
      refine pq_icmp_eq (tgt := 62) F dX4_partOf_37 (by decide) (fun c37 => ?_) (fun c37 => ?_)
      · skip
        refine pq_aload_n F dX4_partOf_62 rfl rfl ?_
        refine pq_get F ha (by decide) lk_X4_20 e3 dX4_partOf_63 ?_
        refine pq_iload_n F dX4_partOf_66 rfl rfl ?_
        refine pq_iald F ham (by decide) (by decide) rfl (fun n1_67 n2_67 => (by focus ((try clear hW); (try clear hWL); (try clear K); (try clear ih); (try clear hlt); (try clear hltL); (try clear hnb); (try clear p93); (try clear p97); (try clear p132); (try clear hst); (try clear hstL); (try clear p75); (try clear p1); (try clear p5); (try clear hai); (try clear hai3); (try clear hlt3); (try clear hnb3); (try clear hlt1); (try clear hlt5); (try clear hlt4); (try clear ha97); (try clear g32); (try clear g45); simp only [vp_in_iff, Int32.lt_iff_toInt_lt, Int32.le_iff_toInt_le, ← Int32.toInt_inj, Int32.toInt_add, Int32.toInt_sub, Int32.toInt_mul, Int32.toInt_neg, pq_NuO, pq_NuI, pq_NuJ, pq_NuR, pq_shr6, pq_shr7, pq_shr8, lqm1, lq0, lq1] at *; (try simp (disch := omega) only [pq_bm] at *); all_goals omega))) dX4_partOf_67 (fun x67 e67 l67 u67 => ?_)
        have x66e : x67 = 0 := (by rw [e67]; simp only [pq_IuO, pq_IuJ, pq_Iu, pq_JuO, pq_JuI, pq_Ju, pq_RuO, pq_RuJ, pq_RuI, if_true, if_false]; exact pk_us)
        refine pq_iload_n F dX4_partOf_68 rfl rfl ?_
        refine pq_icmp_ne (tgt := 74) F dX4_partOf_69 (by decide) (fun c69 => ?_) (fun c69 => ?_)
        · exact absurd x66e c69
        · skip
          refine pq_iload_n F dX4_partOf_72 rfl rfl ?_
          exact pq_iret F hr hlk hA (Nat.le_refl _) (Nat.le_refl _) (⟨(pq_Fr.rf.uI ham (by first | decide | exact List.mem_cons_self)), _, rfl, rfl, (by simp only [pq_IuO, pq_IuJ, pq_Iu, pq_JuO, pq_JuI, pq_Ju, pq_RuO, pq_RuJ, pq_RuI, if_true, if_false]; exact pk_us)⟩) dX4_partOf_73
      · exact absurd x35e c37

set_option maxHeartbeats 4000000 in
set_option maxRecDepth 100000 in
theorem k_X4_splitByY (l : Launch) (D : va_G) (cy : Nat → ClassId) (S : HS) (a : Nat) (ha : pq_R S a 7) (kv : Int32) (wk kd st : Nat) (e0 : hO S a 0 = .ref wk) (hwk : pq_R S wk 11) (hW : pq_Wk S wk kd st 1 2) (bo nb am np : Nat) (e1 : hO S a 1 = .ref bo) (hbo : pq_R S bo 159) (e2 : hO S a 2 = .ref nb) (hnbR : pq_R S nb 160) (e3 : hO S a 3 = .ref am) (ham : pq_R S am 161) (e4 : hO S a 4 = .ref np) (hnpR : pq_R S np 162) (e7 : hO S a 7 = .int 1) (hkv : kv.toInt = 0) (hlt : pq_lt (hI S bo) 2 1) (hst : pq_lt (hI S st) 2 1) : pq_C l D cy yX4_splitBy cX4_splitBy 3 (none) 3 0 0 S [.ref a, .int kv] (fun v S2 => v = none ∧ pq_Fr [(193, 0), (161, 0), (162, 0), (160, 0), (159, 0)] S S2 ∧ (pq_lt (hI S2 bo) 2 1)) := by
  refine pq_start (by decide) (Nat.le_of_ble_eq_true rfl) ?_
  intro p e s m args below meth c A F hr hlk hnm hA
  have lqm1 : (-1 : Int32).toInt = -1 := rfl
  have lq0 : (0 : Int32).toInt = 0 := rfl
  have lq1 : (1 : Int32).toInt = 1 := rfl
  have lq2 : (2 : Int32).toInt = 2 := rfl
  have lq6 : (6 : Int32).toInt = 6 := rfl
  have lq63 : (63 : Int32).toInt = 63 := rfl
  have lq201 : (201 : Int32).toInt = 201 := rfl
  have hwl := hW.l
  have L109 : ∀  (fu : Nat) (S1 : HS) (k : Int32)  (hF : pq_Fr [(193, 0), (161, 0), (162, 0), (160, 0), (159, 0)] S S1) (hlt3 : pq_lt (hI S1 bo) 2 1) (hnb3 : pq_lt (hI S1 nb) 2 1) (hk0 : 0 ≤ k.toInt) (hk1 : k.toInt ≤ 2), (402 - k.toInt).toNat < fu → pq_At p l e (pq_rm 3 0 0) s m args below meth c (pq_Z below args s D cy S 0 0 (fun v S2 => v = none ∧ pq_Fr [(193, 0), (161, 0), (162, 0), (160, 0), (159, 0)] S S2 ∧ (pq_lt (hI S2 bo) 2 1))) D cy A 3 0 0 109 S1 [some (.ref a), some (.int kv), some (.int k)] [] := by
    intro  fu
    induction fu with
    | zero => intro S1 k hF hlt3 hnb3 hk0 hk1 hm; exact absurd hm (Nat.not_lt_zero _)
    | succ fu ih =>
      intro S1 k hF hlt3 hnb3 hk0 hk1 hm
      have haL := hF.R ha (by first | decide | omega)
      have e0L := hF.O ha (by decide) (by decide) e0
      have hwkL := hF.R hwk (by decide)
      have hWL := hW.fr hwk hF (by decide)
      have e1L := hF.O ha (by decide) (by decide) e1
      have hboL := hF.R hbo (by decide)
      have e2L := hF.O ha (by decide) (by decide) e2
      have hnbRL := hF.R hnbR (by decide)
      have e3L := hF.O ha (by decide) (by decide) e3
      have hamL := hF.R ham (by decide)
      have e4L := hF.O ha (by decide) (by decide) e4
      have hnpL := hF.R hnpR (by decide)
      have e7L := hF.O ha (by decide) (by decide) e7
      refine pq_iload_n F dX4_splitBy_109 rfl rfl ?_
      refine pq_aload_n F dX4_splitBy_110 rfl rfl ?_
      refine pq_get F haL (by decide) lk_X4_33 e0L dX4_splitBy_111 ?_
      refine pq_get F hwkL (by decide) lk_X4_72 hWL.e7 dX4_splitBy_114 ?_
      refine pq_icmp_ge (tgt := 141) F dX4_splitBy_117 (by decide) (fun c117 => ?_) (fun c117 => ?_)
      · skip
        exact pq_vret F hr hlk hA (Nat.le_refl _) (Nat.le_refl _) (⟨rfl, hF, hlt3⟩) dX4_splitBy_141
      · skip
        refine pq_aload_n F dX4_splitBy_120 rfl rfl ?_
        refine pq_get F haL (by decide) lk_X4_61 e7L dX4_splitBy_121 ?_
        refine pq_sipush (v := 201) F dX4_splitBy_124 (by decide) ?_
        refine pq_icmp_gt (tgt := 141) F dX4_splitBy_127 (by decide) (fun c127 => ?_) (fun c127 => ?_)
        · exact False.elim (by focus ((try clear hW); (try clear hWL); (try clear K); (try clear ih); (try clear hlt); (try clear hltL); (try clear hnb); (try clear p93); (try clear p97); (try clear p132); (try clear hst); (try clear hstL); (try clear p75); (try clear p1); (try clear p5); (try clear hai); (try clear hai3); (try clear hlt3); (try clear hnb3); (try clear hlt1); (try clear hlt5); (try clear hlt4); (try clear ha97); (try clear g32); (try clear g45); simp only [vp_in_iff, Int32.lt_iff_toInt_lt, Int32.le_iff_toInt_le, ← Int32.toInt_inj, Int32.toInt_add, Int32.toInt_sub, Int32.toInt_mul, Int32.toInt_neg, pq_NuO, pq_NuI, pq_NuJ, pq_NuR, pq_shr6, pq_shr7, pq_shr8, lqm1, lq0, lq1, lq2, lq6, lq63, lq201] at *; (try simp (disch := omega) only [pq_bm] at *); all_goals omega))
        · skip
          refine pq_aload_n F dX4_splitBy_130 rfl rfl ?_
          refine pq_iload_n F dX4_splitBy_131 rfl rfl ?_
          refine pq_callV (As := [_]) F (k_X4_moveToNewBlock l D cy _ _ ?_ _ ?_ ?_ bo nb 2 1 e1L hboL e2L hnbRL hlt3 hnb3 ?_) ml_X4_93 haL (by decide) rfl (Nat.le_of_ble_eq_true rfl) ⟨Nat.le_of_ble_eq_true rfl, Nat.le_of_ble_eq_true rfl⟩ ⟨by decide, by decide⟩ dX4_splitBy_132 (fun v132 S132 w132 => ?_)
          · exact haL
          · focus ((try clear hW); (try clear hWL); (try clear K); (try clear ih); (try clear hlt); (try clear hltL); (try clear hnb); (try clear p93); (try clear p97); (try clear p132); (try clear hst); (try clear hstL); (try clear p75); (try clear p1); (try clear p5); (try clear hai); (try clear hai3); (try clear hlt3); (try clear hnb3); (try clear hlt1); (try clear hlt5); (try clear hlt4); (try clear ha97); (try clear g32); (try clear g45); simp only [vp_in_iff, Int32.lt_iff_toInt_lt, Int32.le_iff_toInt_le, ← Int32.toInt_inj, Int32.toInt_add, Int32.toInt_sub, Int32.toInt_mul, Int32.toInt_neg, pq_NuO, pq_NuI, pq_NuJ, pq_NuR, pq_shr6, pq_shr7, pq_shr8, lqm1, lq0, lq1, lq2, lq6, lq63, lq201] at *; (try simp (disch := omega) only [pq_bm] at *); all_goals omega)
          · focus ((try clear hW); (try clear hWL); (try clear K); (try clear ih); (try clear hlt); (try clear hltL); (try clear hnb); (try clear p93); (try clear p97); (try clear p132); (try clear hst); (try clear hstL); (try clear p75); (try clear p1); (try clear p5); (try clear hai); (try clear hai3); (try clear hlt3); (try clear hnb3); (try clear hlt1); (try clear hlt5); (try clear hlt4); (try clear ha97); (try clear g32); (try clear g45); simp only [vp_in_iff, Int32.lt_iff_toInt_lt, Int32.le_iff_toInt_le, ← Int32.toInt_inj, Int32.toInt_add, Int32.toInt_sub, Int32.toInt_mul, Int32.toInt_neg, pq_NuO, pq_NuI, pq_NuJ, pq_NuR, pq_shr6, pq_shr7, pq_shr8, lqm1, lq0, lq1, lq2, lq6, lq63, lq201] at *; (try simp (disch := omega) only [pq_bm] at *); all_goals omega)
          · focus ((try clear hW); (try clear hWL); (try clear K); (try clear ih); (try clear hlt); (try clear hltL); (try clear hnb); (try clear p93); (try clear p97); (try clear p132); (try clear hst); (try clear hstL); (try clear p75); (try clear p1); (try clear p5); (try clear hai); (try clear hai3); (try clear hlt3); (try clear hnb3); (try clear hlt1); (try clear hlt5); (try clear hlt4); (try clear ha97); (try clear g32); (try clear g45); simp only [vp_in_iff, Int32.lt_iff_toInt_lt, Int32.le_iff_toInt_le, ← Int32.toInt_inj, Int32.toInt_add, Int32.toInt_sub, Int32.toInt_mul, Int32.toInt_neg, pq_NuO, pq_NuI, pq_NuJ, pq_NuR, pq_shr6, pq_shr7, pq_shr8, lqm1, lq0, lq1, lq2, lq6, lq63, lq201] at *; (try simp (disch := omega) only [pq_bm] at *); all_goals omega)
          obtain ⟨rfl, hF132, p132⟩ := w132
          have haL_132 := (hF132.1 _ _ haL (by decide)).1
          have hwkL_132 := (hF132.1 _ _ hwkL (by decide)).1
          have ec132_0_haL_132 := hF132.O haL (by decide) (by decide) e0L
          have hz_132 := (hF132.1 _ _ hWL.hk (by decide)).1
          have ec132_1_hwkL_132 := hF132.O hwkL (by decide) (by decide) hWL.e1
          have hz_132z := (hF132.1 _ _ hWL.hs (by decide)).1
          have ec132_6_hwkL_132 := hF132.O hwkL (by decide) (by decide) hWL.e6
          have ec132_7_hwkL_132 := hF132.O hwkL (by decide) (by decide) hWL.e7
          have hboL_132 := (hF132.1 _ _ hboL (by decide)).1
          have ec132_1_haL_132 := hF132.O haL (by decide) (by decide) e1L
          have hnbRL_132 := (hF132.1 _ _ hnbRL (by decide)).1
          have ec132_2_haL_132 := hF132.O haL (by decide) (by decide) e2L
          have hamL_132 := (hF132.1 _ _ hamL (by decide)).1
          have ec132_3_haL_132 := hF132.O haL (by decide) (by decide) e3L
          have hnpL_132 := (hF132.1 _ _ hnpL (by decide)).1
          have ec132_4_haL_132 := hF132.O haL (by decide) (by decide) e4L
          have ec132_7_haL_132 := hF132.O haL (by decide) (by decide) e7L
          refine pq_iinc (v := 1) F dX4_splitBy_135 rfl (by decide) (by decide) ?_
          refine pq_goto (tgt := 109) F dX4_splitBy_138 (by decide) ?_
          exact pq_fgm [true, true, true] (ih _ _ (hF.cm hF132 (by decide)) p132 (by rw [hF132.I hnbRL (by decide) (by decide)]; exact hnb3) (by focus ((try clear hW); (try clear hWL); (try clear K); (try clear ih); (try clear hlt); (try clear hltL); (try clear hnb); (try clear p93); (try clear p97); (try clear p132); (try clear hst); (try clear hstL); (try clear p75); (try clear p1); (try clear p5); (try clear hai); (try clear hai3); (try clear hlt3); (try clear hnb3); (try clear hlt1); (try clear hlt5); (try clear hlt4); (try clear ha97); (try clear g32); (try clear g45); simp only [vp_in_iff, Int32.lt_iff_toInt_lt, Int32.le_iff_toInt_le, ← Int32.toInt_inj, Int32.toInt_add, Int32.toInt_sub, Int32.toInt_mul, Int32.toInt_neg, pq_NuO, pq_NuI, pq_NuJ, pq_NuR, pq_shr6, pq_shr7, pq_shr8, lqm1, lq0, lq1, lq2, lq6, lq63, lq201] at *; (try simp (disch := omega) only [pq_bm] at *); all_goals omega)) (by focus ((try clear hW); (try clear hWL); (try clear K); (try clear ih); (try clear hlt); (try clear hltL); (try clear hnb); (try clear p93); (try clear p97); (try clear p132); (try clear hst); (try clear hstL); (try clear p75); (try clear p1); (try clear p5); (try clear hai); (try clear hai3); (try clear hlt3); (try clear hnb3); (try clear hlt1); (try clear hlt5); (try clear hlt4); (try clear ha97); (try clear g32); (try clear g45); simp only [vp_in_iff, Int32.lt_iff_toInt_lt, Int32.le_iff_toInt_le, ← Int32.toInt_inj, Int32.toInt_add, Int32.toInt_sub, Int32.toInt_mul, Int32.toInt_neg, pq_NuO, pq_NuI, pq_NuJ, pq_NuR, pq_shr6, pq_shr7, pq_shr8, lqm1, lq0, lq1, lq2, lq6, lq63, lq201] at *; (try simp (disch := omega) only [pq_bm] at *); all_goals omega)) (by focus ((try clear hW); (try clear hWL); (try clear K); (try clear ih); (try clear hlt); (try clear hltL); (try clear hnb); (try clear p93); (try clear p97); (try clear p132); (try clear hst); (try clear hstL); (try clear p75); (try clear p1); (try clear p5); (try clear hai); (try clear hai3); (try clear hlt3); (try clear hnb3); (try clear hlt1); (try clear hlt5); (try clear hlt4); (try clear ha97); (try clear g32); (try clear g45); simp only [vp_in_iff, Int32.lt_iff_toInt_lt, Int32.le_iff_toInt_le, ← Int32.toInt_inj, Int32.toInt_add, Int32.toInt_sub, Int32.toInt_mul, Int32.toInt_neg, pq_NuO, pq_NuI, pq_NuJ, pq_NuR, pq_shr6, pq_shr7, pq_shr8, lqm1, lq0, lq1, lq2, lq6, lq63, lq201] at *; (try simp (disch := omega) only [pq_bm] at *); all_goals omega)))
  have L50 : ∀  (fu : Nat) (S1 : HS) (k : Int32)  (hF : pq_Fr [(193, 0), (161, 0), (162, 0), (160, 0), (159, 0)] S S1) (hlt3 : pq_lt (hI S1 bo) 2 1) (hnb3 : pq_lt (hI S1 nb) k.toInt 1) (hai3 : (hI S1 am 0).toInt ≤ 0) (hk0 : 0 ≤ k.toInt) (hk1 : k.toInt ≤ 2), (402 - k.toInt).toNat < fu → pq_At p l e (pq_rm 3 0 0) s m args below meth c (pq_Z below args s D cy S 0 0 (fun v S2 => v = none ∧ pq_Fr [(193, 0), (161, 0), (162, 0), (160, 0), (159, 0)] S S2 ∧ (pq_lt (hI S2 bo) 2 1))) D cy A 3 0 0 50 S1 [some (.ref a), some (.int kv), some (.int k)] [] := by
    intro  fu
    induction fu with
    | zero => intro S1 k hF hlt3 hnb3 hai3 hk0 hk1 hm; exact absurd hm (Nat.not_lt_zero _)
    | succ fu ih =>
      intro S1 k hF hlt3 hnb3 hai3 hk0 hk1 hm
      have haL := hF.R ha (by first | decide | omega)
      have e0L := hF.O ha (by decide) (by decide) e0
      have hwkL := hF.R hwk (by decide)
      have hWL := hW.fr hwk hF (by decide)
      have e1L := hF.O ha (by decide) (by decide) e1
      have hboL := hF.R hbo (by decide)
      have e2L := hF.O ha (by decide) (by decide) e2
      have hnbRL := hF.R hnbR (by decide)
      have e3L := hF.O ha (by decide) (by decide) e3
      have hamL := hF.R ham (by decide)
      have e4L := hF.O ha (by decide) (by decide) e4
      have hnpL := hF.R hnpR (by decide)
      have e7L := hF.O ha (by decide) (by decide) e7
      have hstL : pq_lt (hI S1 st) 2 1 := (by rw [hF.I hW.hs (by decide) (by decide)]; exact hst)
      refine pq_iload_n F dX4_splitBy_50 rfl rfl ?_
      refine pq_aload_n F dX4_splitBy_51 rfl rfl ?_
      refine pq_get F haL (by decide) lk_X4_33 e0L dX4_splitBy_52 ?_
      refine pq_get F hwkL (by decide) lk_X4_72 hWL.e7 dX4_splitBy_55 ?_
      refine pq_icmp_ge (tgt := 107) F dX4_splitBy_58 (by decide) (fun c58 => ?_) (fun c58 => ?_)
      · skip
        refine pq_iconst (v := 0) F dX4_splitBy_107 (by decide) ?_
        refine pq_istore_n F dX4_splitBy_108 rfl (by decide) ?_
        exact pq_fgm [true, true, true] (L109  100000 _ _  hF hlt3 (hnb3.mono (by focus ((try clear hW); (try clear hWL); (try clear K); (try clear ih); (try clear hlt); (try clear hltL); (try clear hnb); (try clear p93); (try clear p97); (try clear p132); (try clear hst); (try clear hstL); (try clear p75); (try clear p1); (try clear p5); (try clear hai); (try clear hai3); (try clear hlt3); (try clear hnb3); (try clear hlt1); (try clear hlt5); (try clear hlt4); (try clear ha97); (try clear g32); (try clear g45); simp only [vp_in_iff, Int32.lt_iff_toInt_lt, Int32.le_iff_toInt_le, ← Int32.toInt_inj, Int32.toInt_add, Int32.toInt_sub, Int32.toInt_mul, Int32.toInt_neg, pq_NuO, pq_NuI, pq_NuJ, pq_NuR, pq_shr6, pq_shr7, pq_shr8, lqm1, lq0, lq1, lq2, lq6, lq63, lq201] at *; (try simp (disch := omega) only [pq_bm] at *); all_goals omega)) (Int.le_refl _)) (by focus ((try clear hW); (try clear hWL); (try clear K); (try clear ih); (try clear hlt); (try clear hltL); (try clear hnb); (try clear p93); (try clear p97); (try clear p132); (try clear hst); (try clear hstL); (try clear p75); (try clear p1); (try clear p5); (try clear hai); (try clear hai3); (try clear hlt3); (try clear hnb3); (try clear hlt1); (try clear hlt5); (try clear hlt4); (try clear ha97); (try clear g32); (try clear g45); simp only [vp_in_iff, Int32.lt_iff_toInt_lt, Int32.le_iff_toInt_le, ← Int32.toInt_inj, Int32.toInt_add, Int32.toInt_sub, Int32.toInt_mul, Int32.toInt_neg, pq_NuO, pq_NuI, pq_NuJ, pq_NuR, pq_shr6, pq_shr7, pq_shr8, lqm1, lq0, lq1, lq2, lq6, lq63, lq201] at *; (try simp (disch := omega) only [pq_bm] at *); all_goals omega)) (by focus ((try clear hW); (try clear hWL); (try clear K); (try clear ih); (try clear hlt); (try clear hltL); (try clear hnb); (try clear p93); (try clear p97); (try clear p132); (try clear hst); (try clear hstL); (try clear p75); (try clear p1); (try clear p5); (try clear hai); (try clear hai3); (try clear hlt3); (try clear hnb3); (try clear hlt1); (try clear hlt5); (try clear hlt4); (try clear ha97); (try clear g32); (try clear g45); simp only [vp_in_iff, Int32.lt_iff_toInt_lt, Int32.le_iff_toInt_le, ← Int32.toInt_inj, Int32.toInt_add, Int32.toInt_sub, Int32.toInt_mul, Int32.toInt_neg, pq_NuO, pq_NuI, pq_NuJ, pq_NuR, pq_shr6, pq_shr7, pq_shr8, lqm1, lq0, lq1, lq2, lq6, lq63, lq201] at *; (try simp (disch := omega) only [pq_bm] at *); all_goals omega)) (by focus ((try clear hW); (try clear hWL); (try clear K); (try clear ih); (try clear hlt); (try clear hltL); (try clear hnb); (try clear p93); (try clear p97); (try clear p132); (try clear hst); (try clear hstL); (try clear p75); (try clear p1); (try clear p5); (try clear hai); (try clear hai3); (try clear hlt3); (try clear hnb3); (try clear hlt1); (try clear hlt5); (try clear hlt4); (try clear ha97); (try clear g32); (try clear g45); simp only [vp_in_iff, Int32.lt_iff_toInt_lt, Int32.le_iff_toInt_le, ← Int32.toInt_inj, Int32.toInt_add, Int32.toInt_sub, Int32.toInt_mul, Int32.toInt_neg, pq_NuO, pq_NuI, pq_NuJ, pq_NuR, pq_shr6, pq_shr7, pq_shr8, lqm1, lq0, lq1, lq2, lq6, lq63, lq201] at *; (try simp (disch := omega) only [pq_bm] at *); all_goals omega)))
      · skip
        refine pq_aload_n F dX4_splitBy_61 rfl rfl ?_
        refine pq_get F haL (by decide) lk_X4_61 e7L dX4_splitBy_62 ?_
        refine pq_sipush (v := 201) F dX4_splitBy_65 (by decide) ?_
        refine pq_icmp_gt (tgt := 107) F dX4_splitBy_68 (by decide) (fun c68 => ?_) (fun c68 => ?_)
        · exact False.elim (by focus ((try clear hW); (try clear hWL); (try clear K); (try clear ih); (try clear hlt); (try clear hltL); (try clear hnb); (try clear p93); (try clear p97); (try clear p132); (try clear hst); (try clear hstL); (try clear p75); (try clear p1); (try clear p5); (try clear hai); (try clear hai3); (try clear hlt3); (try clear hnb3); (try clear hlt1); (try clear hlt5); (try clear hlt4); (try clear ha97); (try clear g32); (try clear g45); simp only [vp_in_iff, Int32.lt_iff_toInt_lt, Int32.le_iff_toInt_le, ← Int32.toInt_inj, Int32.toInt_add, Int32.toInt_sub, Int32.toInt_mul, Int32.toInt_neg, pq_NuO, pq_NuI, pq_NuJ, pq_NuR, pq_shr6, pq_shr7, pq_shr8, lqm1, lq0, lq1, lq2, lq6, lq63, lq201] at *; (try simp (disch := omega) only [pq_bm] at *); all_goals omega))
        · skip
          refine pq_aload_n F dX4_splitBy_71 rfl rfl ?_
          refine pq_get F haL (by decide) lk_X4_17 e2L dX4_splitBy_72 ?_
          refine pq_iload_n F dX4_splitBy_75 rfl rfl ?_
          refine pq_aload_n F dX4_splitBy_76 rfl rfl ?_
          refine pq_aload_n F dX4_splitBy_77 rfl rfl ?_
          refine pq_get F haL (by decide) lk_X4_11 e1L dX4_splitBy_78 ?_
          refine pq_iload_n F dX4_splitBy_81 rfl rfl ?_
          refine pq_iald F hboL (by decide) (by decide) rfl (fun n1_82 n2_82 => (by focus ((try clear hW); (try clear hWL); (try clear K); (try clear ih); (try clear hlt); (try clear hltL); (try clear hnb); (try clear p93); (try clear p97); (try clear p132); (try clear hst); (try clear hstL); (try clear p75); (try clear p1); (try clear p5); (try clear hai); (try clear hai3); (try clear hlt3); (try clear hnb3); (try clear hlt1); (try clear hlt5); (try clear hlt4); (try clear ha97); (try clear g32); (try clear g45); simp only [vp_in_iff, Int32.lt_iff_toInt_lt, Int32.le_iff_toInt_le, ← Int32.toInt_inj, Int32.toInt_add, Int32.toInt_sub, Int32.toInt_mul, Int32.toInt_neg, pq_NuO, pq_NuI, pq_NuJ, pq_NuR, pq_shr6, pq_shr7, pq_shr8, lqm1, lq0, lq1, lq2, lq6, lq63, lq201] at *; (try simp (disch := omega) only [pq_bm] at *); all_goals omega))) dX4_splitBy_82 (fun x82 e82 l82 u82 => ?_)
          have hx82 : x82.toInt < 1 := (by rw [e82]; exact hlt3 _ (by have := pq_cl (x := k) (by focus ((try clear hW); (try clear hWL); (try clear K); (try clear ih); (try clear hlt); (try clear hltL); (try clear hnb); (try clear p93); (try clear p97); (try clear p132); (try clear hst); (try clear hstL); (try clear p75); (try clear p1); (try clear p5); (try clear hai); (try clear hai3); (try clear hlt3); (try clear hnb3); (try clear hlt1); (try clear hlt5); (try clear hlt4); (try clear ha97); (try clear g32); (try clear g45); simp only [vp_in_iff, Int32.lt_iff_toInt_lt, Int32.le_iff_toInt_le, ← Int32.toInt_inj, Int32.toInt_add, Int32.toInt_sub, Int32.toInt_mul, Int32.toInt_neg, pq_NuO, pq_NuI, pq_NuJ, pq_NuR, pq_shr6, pq_shr7, pq_shr8, lqm1, lq0, lq1, lq2, lq6, lq63, lq201] at *; (try simp (disch := omega) only [pq_bm] at *); all_goals omega)); focus ((try clear hW); (try clear hWL); (try clear K); (try clear ih); (try clear hlt); (try clear hltL); (try clear hnb); (try clear p93); (try clear p97); (try clear p132); (try clear hst); (try clear hstL); (try clear p75); (try clear p1); (try clear p5); (try clear hai); (try clear hai3); (try clear hlt3); (try clear hnb3); (try clear hlt1); (try clear hlt5); (try clear hlt4); (try clear ha97); (try clear g32); (try clear g45); simp only [vp_in_iff, Int32.lt_iff_toInt_lt, Int32.le_iff_toInt_le, ← Int32.toInt_inj, Int32.toInt_add, Int32.toInt_sub, Int32.toInt_mul, Int32.toInt_neg, pq_NuO, pq_NuI, pq_NuJ, pq_NuR, pq_shr6, pq_shr7, pq_shr8, lqm1, lq0, lq1, lq2, lq6, lq63, lq201] at *; (try simp (disch := omega) only [pq_bm] at *); all_goals omega)))
          refine pq_aload_n F dX4_splitBy_83 rfl rfl ?_
          refine pq_get F haL (by decide) lk_X4_11 e1L dX4_splitBy_84 ?_
          refine pq_aload_n F dX4_splitBy_87 rfl rfl ?_
          refine pq_get F haL (by decide) lk_X4_33 e0L dX4_splitBy_88 ?_
          refine pq_iload_n F dX4_splitBy_91 rfl rfl ?_
          refine pq_iload_n F dX4_splitBy_92 rfl rfl ?_
          refine pq_callV (As := [_, _]) F (k_X8_stepOf l D cy _ _ ?_ _ ?_ ?_ _ ?_ ?_ kd st 1 2 hWL ?_) ml_X4_79 hwkL (by decide) rfl (Nat.le_of_ble_eq_true rfl) ⟨Nat.le_of_ble_eq_true rfl, Nat.le_of_ble_eq_true rfl⟩ ⟨by decide, by decide⟩ dX4_splitBy_93 (fun v93 S93 w93 => ?_)
          · exact hwkL
          · focus ((try clear hW); (try clear hWL); (try clear K); (try clear ih); (try clear hlt); (try clear hltL); (try clear hnb); (try clear p93); (try clear p97); (try clear p132); (try clear hst); (try clear hstL); (try clear p75); (try clear p1); (try clear p5); (try clear hai); (try clear hai3); (try clear hlt3); (try clear hnb3); (try clear hlt1); (try clear hlt5); (try clear hlt4); (try clear ha97); (try clear g32); (try clear g45); simp only [vp_in_iff, Int32.lt_iff_toInt_lt, Int32.le_iff_toInt_le, ← Int32.toInt_inj, Int32.toInt_add, Int32.toInt_sub, Int32.toInt_mul, Int32.toInt_neg, pq_NuO, pq_NuI, pq_NuJ, pq_NuR, pq_shr6, pq_shr7, pq_shr8, lqm1, lq0, lq1, lq2, lq6, lq63, lq201] at *; (try simp (disch := omega) only [pq_bm] at *); all_goals omega)
          · focus ((try clear hW); (try clear hWL); (try clear K); (try clear ih); (try clear hlt); (try clear hltL); (try clear hnb); (try clear p93); (try clear p97); (try clear p132); (try clear hst); (try clear hstL); (try clear p75); (try clear p1); (try clear p5); (try clear hai); (try clear hai3); (try clear hlt3); (try clear hnb3); (try clear hlt1); (try clear hlt5); (try clear hlt4); (try clear ha97); (try clear g32); (try clear g45); simp only [vp_in_iff, Int32.lt_iff_toInt_lt, Int32.le_iff_toInt_le, ← Int32.toInt_inj, Int32.toInt_add, Int32.toInt_sub, Int32.toInt_mul, Int32.toInt_neg, pq_NuO, pq_NuI, pq_NuJ, pq_NuR, pq_shr6, pq_shr7, pq_shr8, lqm1, lq0, lq1, lq2, lq6, lq63, lq201] at *; (try simp (disch := omega) only [pq_bm] at *); all_goals omega)
          · focus ((try clear hW); (try clear hWL); (try clear K); (try clear ih); (try clear hlt); (try clear hltL); (try clear hnb); (try clear p93); (try clear p97); (try clear p132); (try clear hst); (try clear hstL); (try clear p75); (try clear p1); (try clear p5); (try clear hai); (try clear hai3); (try clear hlt3); (try clear hnb3); (try clear hlt1); (try clear hlt5); (try clear hlt4); (try clear ha97); (try clear g32); (try clear g45); simp only [vp_in_iff, Int32.lt_iff_toInt_lt, Int32.le_iff_toInt_le, ← Int32.toInt_inj, Int32.toInt_add, Int32.toInt_sub, Int32.toInt_mul, Int32.toInt_neg, pq_NuO, pq_NuI, pq_NuJ, pq_NuR, pq_shr6, pq_shr7, pq_shr8, lqm1, lq0, lq1, lq2, lq6, lq63, lq201] at *; (try simp (disch := omega) only [pq_bm] at *); all_goals omega)
          · focus ((try clear hW); (try clear hWL); (try clear K); (try clear ih); (try clear hlt); (try clear hltL); (try clear hnb); (try clear p93); (try clear p97); (try clear p132); (try clear hst); (try clear hstL); (try clear p75); (try clear p1); (try clear p5); (try clear hai); (try clear hai3); (try clear hlt3); (try clear hnb3); (try clear hlt1); (try clear hlt5); (try clear hlt4); (try clear ha97); (try clear g32); (try clear g45); simp only [vp_in_iff, Int32.lt_iff_toInt_lt, Int32.le_iff_toInt_le, ← Int32.toInt_inj, Int32.toInt_add, Int32.toInt_sub, Int32.toInt_mul, Int32.toInt_neg, pq_NuO, pq_NuI, pq_NuJ, pq_NuR, pq_shr6, pq_shr7, pq_shr8, lqm1, lq0, lq1, lq2, lq6, lq63, lq201] at *; (try simp (disch := omega) only [pq_bm] at *); all_goals omega)
          · focus ((try clear hW); (try clear hWL); (try clear K); (try clear ih); (try clear hlt); (try clear hltL); (try clear hnb); (try clear p93); (try clear p97); (try clear p132); (try clear hst); (try clear hstL); (try clear p75); (try clear p1); (try clear p5); (try clear hai); (try clear hai3); (try clear hlt3); (try clear hnb3); (try clear hlt1); (try clear hlt5); (try clear hlt4); (try clear ha97); (try clear g32); (try clear g45); simp only [vp_in_iff, Int32.lt_iff_toInt_lt, Int32.le_iff_toInt_le, ← Int32.toInt_inj, Int32.toInt_add, Int32.toInt_sub, Int32.toInt_mul, Int32.toInt_neg, pq_NuO, pq_NuI, pq_NuJ, pq_NuR, pq_shr6, pq_shr7, pq_shr8, lqm1, lq0, lq1, lq2, lq6, lq63, lq201] at *; (try simp (disch := omega) only [pq_bm] at *); all_goals omega)
          obtain ⟨u93, y93, rfl, yl93_0, yl93_1, p93⟩ := w93
          rw [u93]
          try rw [u93] at p93
          have hy93 : y93.toInt < 1 := (by obtain ⟨i9, hi9, he9⟩ := p93; rw [he9]; exact hstL i9 (by focus ((try clear hW); (try clear hWL); (try clear K); (try clear ih); (try clear hlt); (try clear hltL); (try clear hnb); (try clear p93); (try clear p97); (try clear p132); (try clear hst); (try clear hstL); (try clear p75); (try clear p1); (try clear p5); (try clear hai); (try clear hai3); (try clear hlt3); (try clear hnb3); (try clear hlt1); (try clear hlt5); (try clear hlt4); (try clear ha97); (try clear g32); (try clear g45); simp only [vp_in_iff, Int32.lt_iff_toInt_lt, Int32.le_iff_toInt_le, ← Int32.toInt_inj, Int32.toInt_add, Int32.toInt_sub, Int32.toInt_mul, Int32.toInt_neg, pq_NuO, pq_NuI, pq_NuJ, pq_NuR, pq_shr6, pq_shr7, pq_shr8, lqm1, lq0, lq1, lq2, lq6, lq63, lq201] at *; (try simp (disch := omega) only [pq_bm] at *); all_goals omega)))
          refine pq_iald F hboL (by decide) (by decide) rfl (fun n1_96 n2_96 => (by focus ((try clear hW); (try clear hWL); (try clear K); (try clear ih); (try clear hlt); (try clear hltL); (try clear hnb); (try clear p93); (try clear p97); (try clear p132); (try clear hst); (try clear hstL); (try clear p75); (try clear p1); (try clear p5); (try clear hai); (try clear hai3); (try clear hlt3); (try clear hnb3); (try clear hlt1); (try clear hlt5); (try clear hlt4); (try clear ha97); (try clear g32); (try clear g45); simp only [vp_in_iff, Int32.lt_iff_toInt_lt, Int32.le_iff_toInt_le, ← Int32.toInt_inj, Int32.toInt_add, Int32.toInt_sub, Int32.toInt_mul, Int32.toInt_neg, pq_NuO, pq_NuI, pq_NuJ, pq_NuR, pq_shr6, pq_shr7, pq_shr8, lqm1, lq0, lq1, lq2, lq6, lq63, lq201] at *; (try simp (disch := omega) only [pq_bm] at *); all_goals omega))) dX4_splitBy_96 (fun x96 e96 l96 u96 => ?_)
          have hx96 : x96.toInt < 1 := (by rw [e96]; exact hlt3 _ (by have := pq_cl (x := y93) (by focus ((try clear hW); (try clear hWL); (try clear K); (try clear ih); (try clear hlt); (try clear hltL); (try clear hnb); (try clear p93); (try clear p97); (try clear p132); (try clear hst); (try clear hstL); (try clear p75); (try clear p1); (try clear p5); (try clear hai); (try clear hai3); (try clear hlt3); (try clear hnb3); (try clear hlt1); (try clear hlt5); (try clear hlt4); (try clear ha97); (try clear g32); (try clear g45); simp only [vp_in_iff, Int32.lt_iff_toInt_lt, Int32.le_iff_toInt_le, ← Int32.toInt_inj, Int32.toInt_add, Int32.toInt_sub, Int32.toInt_mul, Int32.toInt_neg, pq_NuO, pq_NuI, pq_NuJ, pq_NuR, pq_shr6, pq_shr7, pq_shr8, lqm1, lq0, lq1, lq2, lq6, lq63, lq201] at *; (try simp (disch := omega) only [pq_bm] at *); all_goals omega)); focus ((try clear hW); (try clear hWL); (try clear K); (try clear ih); (try clear hlt); (try clear hltL); (try clear hnb); (try clear p93); (try clear p97); (try clear p132); (try clear hst); (try clear hstL); (try clear p75); (try clear p1); (try clear p5); (try clear hai); (try clear hai3); (try clear hlt3); (try clear hnb3); (try clear hlt1); (try clear hlt5); (try clear hlt4); (try clear ha97); (try clear g32); (try clear g45); simp only [vp_in_iff, Int32.lt_iff_toInt_lt, Int32.le_iff_toInt_le, ← Int32.toInt_inj, Int32.toInt_add, Int32.toInt_sub, Int32.toInt_mul, Int32.toInt_neg, pq_NuO, pq_NuI, pq_NuJ, pq_NuR, pq_shr6, pq_shr7, pq_shr8, lqm1, lq0, lq1, lq2, lq6, lq63, lq201] at *; (try simp (disch := omega) only [pq_bm] at *); all_goals omega)))
          refine pq_callV (As := [_, _]) F (k_X4_partOfY l D cy _ _ ?_ _ _ am e3L hamL e7L ?_ ?_ hai3) ml_X4_90 haL (by decide) rfl (Nat.le_of_ble_eq_true rfl) ⟨Nat.le_of_ble_eq_true rfl, Nat.le_of_ble_eq_true rfl⟩ ⟨by decide, by decide⟩ dX4_splitBy_97 (fun v97 S97 w97 => ?_)
          · exact haL
          · focus ((try clear hW); (try clear hWL); (try clear K); (try clear ih); (try clear hlt); (try clear hltL); (try clear hnb); (try clear p93); (try clear p97); (try clear p132); (try clear hst); (try clear hstL); (try clear p75); (try clear p1); (try clear p5); (try clear hai); (try clear hai3); (try clear hlt3); (try clear hnb3); (try clear hlt1); (try clear hlt5); (try clear hlt4); (try clear ha97); (try clear g32); (try clear g45); simp only [vp_in_iff, Int32.lt_iff_toInt_lt, Int32.le_iff_toInt_le, ← Int32.toInt_inj, Int32.toInt_add, Int32.toInt_sub, Int32.toInt_mul, Int32.toInt_neg, pq_NuO, pq_NuI, pq_NuJ, pq_NuR, pq_shr6, pq_shr7, pq_shr8, lqm1, lq0, lq1, lq2, lq6, lq63, lq201] at *; (try simp (disch := omega) only [pq_bm] at *); all_goals omega)
          · focus ((try clear hW); (try clear hWL); (try clear K); (try clear ih); (try clear hlt); (try clear hltL); (try clear hnb); (try clear p93); (try clear p97); (try clear p132); (try clear hst); (try clear hstL); (try clear p75); (try clear p1); (try clear p5); (try clear hai); (try clear hai3); (try clear hlt3); (try clear hnb3); (try clear hlt1); (try clear hlt5); (try clear hlt4); (try clear ha97); (try clear g32); (try clear g45); simp only [vp_in_iff, Int32.lt_iff_toInt_lt, Int32.le_iff_toInt_le, ← Int32.toInt_inj, Int32.toInt_add, Int32.toInt_sub, Int32.toInt_mul, Int32.toInt_neg, pq_NuO, pq_NuI, pq_NuJ, pq_NuR, pq_shr6, pq_shr7, pq_shr8, lqm1, lq0, lq1, lq2, lq6, lq63, lq201] at *; (try simp (disch := omega) only [pq_bm] at *); all_goals omega)
          obtain ⟨hF97, y97, rfl, p97⟩ := w97
          have haL_97 := (hF97.1 _ _ haL (by decide)).1
          have hnbRL_97 := (hF97.1 _ _ hnbRL (by decide)).1
          have hwkL_97 := (hF97.1 _ _ hwkL (by decide)).1
          have ec97_0_haL_97 := hF97.O haL (by decide) (by decide) e0L
          have hz_97 := (hF97.1 _ _ hWL.hk (by decide)).1
          have ec97_1_hwkL_97 := hF97.O hwkL (by decide) (by decide) hWL.e1
          have hz_97z := (hF97.1 _ _ hWL.hs (by decide)).1
          have ec97_6_hwkL_97 := hF97.O hwkL (by decide) (by decide) hWL.e6
          have ec97_7_hwkL_97 := hF97.O hwkL (by decide) (by decide) hWL.e7
          have hboL_97 := (hF97.1 _ _ hboL (by decide)).1
          have ec97_1_haL_97 := hF97.O haL (by decide) (by decide) e1L
          have ec97_2_haL_97 := hF97.O haL (by decide) (by decide) e2L
          have hamL_97 := (hF97.1 _ _ hamL (by decide)).1
          have ec97_3_haL_97 := hF97.O haL (by decide) (by decide) e3L
          have hnpL_97 := (hF97.1 _ _ hnpL (by decide)).1
          have ec97_4_haL_97 := hF97.O haL (by decide) (by decide) e4L
          have ec97_7_haL_97 := hF97.O haL (by decide) (by decide) e7L
          obtain ⟨yz97, ha97⟩ := p97
          refine pq_iast F hnbRL_97 (by decide) (by decide) rfl (fun n1_100 n2_100 => (by focus ((try clear hW); (try clear hWL); (try clear K); (try clear ih); (try clear hlt); (try clear hltL); (try clear hnb); (try clear p93); (try clear p97); (try clear p132); (try clear hst); (try clear hstL); (try clear p75); (try clear p1); (try clear p5); (try clear hai); (try clear hai3); (try clear hlt3); (try clear hnb3); (try clear hlt1); (try clear hlt5); (try clear hlt4); (try clear ha97); (try clear g32); (try clear g45); simp only [vp_in_iff, Int32.lt_iff_toInt_lt, Int32.le_iff_toInt_le, ← Int32.toInt_inj, Int32.toInt_add, Int32.toInt_sub, Int32.toInt_mul, Int32.toInt_neg, pq_NuO, pq_NuI, pq_NuJ, pq_NuR, pq_shr6, pq_shr7, pq_shr8, lqm1, lq0, lq1, lq2, lq6, lq63, lq201] at *; (try simp (disch := omega) only [pq_bm] at *); all_goals omega))) (⟨(by focus ((try clear hW); (try clear hWL); (try clear K); (try clear ih); (try clear hlt); (try clear hltL); (try clear hnb); (try clear p93); (try clear p97); (try clear p132); (try clear hst); (try clear hstL); (try clear p75); (try clear p1); (try clear p5); (try clear hai); (try clear hai3); (try clear hlt3); (try clear hnb3); (try clear hlt1); (try clear hlt5); (try clear hlt4); (try clear ha97); (try clear g32); (try clear g45); simp only [vp_in_iff, Int32.lt_iff_toInt_lt, Int32.le_iff_toInt_le, ← Int32.toInt_inj, Int32.toInt_add, Int32.toInt_sub, Int32.toInt_mul, Int32.toInt_neg, pq_NuO, pq_NuI, pq_NuJ, pq_NuR, pq_shr6, pq_shr7, pq_shr8, lqm1, lq0, lq1, lq2, lq6, lq63, lq201] at *; (try simp (disch := omega) only [pq_bm] at *); all_goals omega)), (by focus ((try clear hW); (try clear hWL); (try clear K); (try clear ih); (try clear hlt); (try clear hltL); (try clear hnb); (try clear p93); (try clear p97); (try clear p132); (try clear hst); (try clear hstL); (try clear p75); (try clear p1); (try clear p5); (try clear hai); (try clear hai3); (try clear hlt3); (try clear hnb3); (try clear hlt1); (try clear hlt5); (try clear hlt4); (try clear ha97); (try clear g32); (try clear g45); simp only [vp_in_iff, Int32.lt_iff_toInt_lt, Int32.le_iff_toInt_le, ← Int32.toInt_inj, Int32.toInt_add, Int32.toInt_sub, Int32.toInt_mul, Int32.toInt_neg, pq_NuO, pq_NuI, pq_NuJ, pq_NuR, pq_shr6, pq_shr7, pq_shr8, lqm1, lq0, lq1, lq2, lq6, lq63, lq201] at *; (try simp (disch := omega) only [pq_bm] at *); all_goals omega))⟩) dX4_splitBy_100 ?_
          refine pq_iinc (v := 1) F dX4_splitBy_101 rfl (by decide) (by decide) ?_
          refine pq_goto (tgt := 50) F dX4_splitBy_104 (by decide) ?_
          exact pq_fgm [true, true, true] (ih _ _ ((hF.cm hF97 (by decide)).uI hnbRL_97 (by first | decide | exact List.mem_cons_self)) (by have n1 := pq_nrole (hF97.R hboL (by decide)) (hF97.R hnbRL (by decide)) (by decide); simp only [pq_IuO, pq_IuJ, pq_Iu, pq_JuO, pq_JuI, pq_Ju, pq_RuO, pq_RuJ, pq_RuI, if_true, if_false, n1]; rw [hF97.I hboL (by decide) (by decide)]; exact hlt3) (by have e2 : (k + 1).toInt = k.toInt + 1 := (by focus ((try clear hW); (try clear hWL); (try clear K); (try clear ih); (try clear hlt); (try clear hltL); (try clear hnb); (try clear p93); (try clear p97); (try clear p132); (try clear hst); (try clear hstL); (try clear p75); (try clear p1); (try clear p5); (try clear hai); (try clear hai3); (try clear hlt3); (try clear hnb3); (try clear hlt1); (try clear hlt5); (try clear hlt4); (try clear ha97); (try clear g32); (try clear g45); simp only [vp_in_iff, Int32.lt_iff_toInt_lt, Int32.le_iff_toInt_le, ← Int32.toInt_inj, Int32.toInt_add, Int32.toInt_sub, Int32.toInt_mul, Int32.toInt_neg, pq_NuO, pq_NuI, pq_NuJ, pq_NuR, pq_shr6, pq_shr7, pq_shr8, lqm1, lq0, lq1, lq2, lq6, lq63, lq201] at *; (try simp (disch := omega) only [pq_bm] at *); all_goals omega)); rw [e2]; simp only [pq_IuO, pq_IuJ, pq_Iu, pq_JuO, pq_JuI, pq_Ju, pq_RuO, pq_RuJ, pq_RuI, if_true, if_false]; rw [hF97.I hnbRL (by decide) (by decide)]; exact hnb3.next (by focus ((try clear hW); (try clear hWL); (try clear K); (try clear ih); (try clear hlt); (try clear hltL); (try clear hnb); (try clear p93); (try clear p97); (try clear p132); (try clear hst); (try clear hstL); (try clear p75); (try clear p1); (try clear p5); (try clear hai); (try clear hai3); (try clear hlt3); (try clear hnb3); (try clear hlt1); (try clear hlt5); (try clear hlt4); (try clear ha97); (try clear g32); (try clear g45); simp only [vp_in_iff, Int32.lt_iff_toInt_lt, Int32.le_iff_toInt_le, ← Int32.toInt_inj, Int32.toInt_add, Int32.toInt_sub, Int32.toInt_mul, Int32.toInt_neg, pq_NuO, pq_NuI, pq_NuJ, pq_NuR, pq_shr6, pq_shr7, pq_shr8, lqm1, lq0, lq1, lq2, lq6, lq63, lq201] at *; (try simp (disch := omega) only [pq_bm] at *); all_goals omega)) (pq_cl (by focus ((try clear hW); (try clear hWL); (try clear K); (try clear ih); (try clear hlt); (try clear hltL); (try clear hnb); (try clear p93); (try clear p97); (try clear p132); (try clear hst); (try clear hstL); (try clear p75); (try clear p1); (try clear p5); (try clear hai); (try clear hai3); (try clear hlt3); (try clear hnb3); (try clear hlt1); (try clear hlt5); (try clear hlt4); (try clear ha97); (try clear g32); (try clear g45); simp only [vp_in_iff, Int32.lt_iff_toInt_lt, Int32.le_iff_toInt_le, ← Int32.toInt_inj, Int32.toInt_add, Int32.toInt_sub, Int32.toInt_mul, Int32.toInt_neg, pq_NuO, pq_NuI, pq_NuJ, pq_NuR, pq_shr6, pq_shr7, pq_shr8, lqm1, lq0, lq1, lq2, lq6, lq63, lq201] at *; (try simp (disch := omega) only [pq_bm] at *); all_goals omega)))) (by have n1 := pq_nrole (hF97.R hamL (by decide)) (hF97.R hnbRL (by decide)) (by decide); simp only [pq_IuO, pq_IuJ, pq_Iu, pq_JuO, pq_JuI, pq_Ju, pq_RuO, pq_RuJ, pq_RuI, if_true, if_false, n1]; rw [ha97]; decide) (by focus ((try clear hW); (try clear hWL); (try clear K); (try clear ih); (try clear hlt); (try clear hltL); (try clear hnb); (try clear p93); (try clear p97); (try clear p132); (try clear hst); (try clear hstL); (try clear p75); (try clear p1); (try clear p5); (try clear hai); (try clear hai3); (try clear hlt3); (try clear hnb3); (try clear hlt1); (try clear hlt5); (try clear hlt4); (try clear ha97); (try clear g32); (try clear g45); simp only [vp_in_iff, Int32.lt_iff_toInt_lt, Int32.le_iff_toInt_le, ← Int32.toInt_inj, Int32.toInt_add, Int32.toInt_sub, Int32.toInt_mul, Int32.toInt_neg, pq_NuO, pq_NuI, pq_NuJ, pq_NuR, pq_shr6, pq_shr7, pq_shr8, lqm1, lq0, lq1, lq2, lq6, lq63, lq201] at *; (try simp (disch := omega) only [pq_bm] at *); all_goals omega)) (by focus ((try clear hW); (try clear hWL); (try clear K); (try clear ih); (try clear hlt); (try clear hltL); (try clear hnb); (try clear p93); (try clear p97); (try clear p132); (try clear hst); (try clear hstL); (try clear p75); (try clear p1); (try clear p5); (try clear hai); (try clear hai3); (try clear hlt3); (try clear hnb3); (try clear hlt1); (try clear hlt5); (try clear hlt4); (try clear ha97); (try clear g32); (try clear g45); simp only [vp_in_iff, Int32.lt_iff_toInt_lt, Int32.le_iff_toInt_le, ← Int32.toInt_inj, Int32.toInt_add, Int32.toInt_sub, Int32.toInt_mul, Int32.toInt_neg, pq_NuO, pq_NuI, pq_NuJ, pq_NuR, pq_shr6, pq_shr7, pq_shr8, lqm1, lq0, lq1, lq2, lq6, lq63, lq201] at *; (try simp (disch := omega) only [pq_bm] at *); all_goals omega)) (by focus ((try clear hW); (try clear hWL); (try clear K); (try clear ih); (try clear hlt); (try clear hltL); (try clear hnb); (try clear p93); (try clear p97); (try clear p132); (try clear hst); (try clear hstL); (try clear p75); (try clear p1); (try clear p5); (try clear hai); (try clear hai3); (try clear hlt3); (try clear hnb3); (try clear hlt1); (try clear hlt5); (try clear hlt4); (try clear ha97); (try clear g32); (try clear g45); simp only [vp_in_iff, Int32.lt_iff_toInt_lt, Int32.le_iff_toInt_le, ← Int32.toInt_inj, Int32.toInt_add, Int32.toInt_sub, Int32.toInt_mul, Int32.toInt_neg, pq_NuO, pq_NuI, pq_NuJ, pq_NuR, pq_shr6, pq_shr7, pq_shr8, lqm1, lq0, lq1, lq2, lq6, lq63, lq201] at *; (try simp (disch := omega) only [pq_bm] at *); all_goals omega)))
  refine pq_aload_n F dX4_splitBy_0 rfl rfl ?_
  refine pq_getR F ha (by decide) lk_X4_30 rfl dX4_splitBy_1 (fun r1 e1 h1 => ?_)
  refine pq_iload_n F dX4_splitBy_4 rfl rfl ?_
  refine pq_bipush (v := 6) F dX4_splitBy_5 (by decide) ?_
  refine pq_ishr F dX4_splitBy_7 ?_
  refine pq_dup2 F dX4_splitBy_8 rfl rfl ?_
  refine pq_lald F h1 (by decide) (by decide) rfl (fun n1_9 n2_9 => (by focus ((try clear hW); (try clear hWL); (try clear K); (try clear ih); (try clear hlt); (try clear hltL); (try clear hnb); (try clear p93); (try clear p97); (try clear p132); (try clear hst); (try clear hstL); (try clear p75); (try clear p1); (try clear p5); (try clear hai); (try clear hai3); (try clear hlt3); (try clear hnb3); (try clear hlt1); (try clear hlt5); (try clear hlt4); (try clear ha97); (try clear g32); (try clear g45); simp only [vp_in_iff, Int32.lt_iff_toInt_lt, Int32.le_iff_toInt_le, ← Int32.toInt_inj, Int32.toInt_add, Int32.toInt_sub, Int32.toInt_mul, Int32.toInt_neg, pq_NuO, pq_NuI, pq_NuJ, pq_NuR, pq_shr6, pq_shr7, pq_shr8, lqm1, lq0, lq1, lq2, lq6, lq63, lq201] at *; (try simp (disch := omega) only [pq_bm] at *); all_goals omega))) dX4_splitBy_9 (fun x9 e9 => ?_)
  refine pq_lconst (v := 1) F dX4_splitBy_10 (by decide) ?_
  refine pq_iload_n F dX4_splitBy_11 rfl rfl ?_
  refine pq_bipush (v := 63) F dX4_splitBy_12 (by decide) ?_
  refine pq_iand F dX4_splitBy_14 ?_
  refine pq_lshl F dX4_splitBy_15 ?_
  refine pq_ldc2 F lc_X4_43 dX4_splitBy_16 ?_
  refine pq_lxor F dX4_splitBy_19 ?_
  refine pq_land F dX4_splitBy_20 ?_
  refine pq_last F h1 (by decide) (by decide) rfl (fun n1_21 n2_21 => (by focus ((try clear hW); (try clear hWL); (try clear K); (try clear ih); (try clear hlt); (try clear hltL); (try clear hnb); (try clear p93); (try clear p97); (try clear p132); (try clear hst); (try clear hstL); (try clear p75); (try clear p1); (try clear p5); (try clear hai); (try clear hai3); (try clear hlt3); (try clear hnb3); (try clear hlt1); (try clear hlt5); (try clear hlt4); (try clear ha97); (try clear g32); (try clear g45); simp only [vp_in_iff, Int32.lt_iff_toInt_lt, Int32.le_iff_toInt_le, ← Int32.toInt_inj, Int32.toInt_add, Int32.toInt_sub, Int32.toInt_mul, Int32.toInt_neg, pq_NuO, pq_NuI, pq_NuJ, pq_NuR, pq_shr6, pq_shr7, pq_shr8, lqm1, lq0, lq1, lq2, lq6, lq63, lq201] at *; (try simp (disch := omega) only [pq_bm] at *); all_goals omega))) dX4_splitBy_21 ?_
  refine pq_aload_n F dX4_splitBy_22 rfl rfl ?_
  refine pq_get F ha (by decide) lk_X4_20 e3 dX4_splitBy_23 ?_
  refine pq_iconst (v := 0) F dX4_splitBy_26 (by decide) ?_
  refine pq_aload_n F dX4_splitBy_27 rfl rfl ?_
  refine pq_get F ha (by decide) lk_X4_61 e7 dX4_splitBy_28 ?_
  refine pq_iconst (v := -1) F dX4_splitBy_31 (by decide) ?_
  refine pq_lenF ham (by decide) rfl (fun lna32_0 lnb32_0 => ?_)
  refine pq_callS (As := [_, _, _, _]) F (k_J7_fillI l D cy _ _ 161 ?_ ?_ ?_ _ ?_ _ _ ?_ ?_ ?_ ?_) ml_X4_87 (Nat.le_of_ble_eq_true rfl) ⟨Nat.le_of_ble_eq_true rfl, Nat.le_of_ble_eq_true rfl⟩ ⟨by decide, by decide⟩ dX4_splitBy_32 (fun v32 S32 w32 => ?_)
  · exact ham
  · first | decide | omega
  · first | decide | omega
  · focus ((try clear hW); (try clear hWL); (try clear K); (try clear ih); (try clear hlt); (try clear hltL); (try clear hnb); (try clear p93); (try clear p97); (try clear p132); (try clear hst); (try clear hstL); (try clear p75); (try clear p1); (try clear p5); (try clear hai); (try clear hai3); (try clear hlt3); (try clear hnb3); (try clear hlt1); (try clear hlt5); (try clear hlt4); (try clear ha97); (try clear g32); (try clear g45); simp only [vp_in_iff, Int32.lt_iff_toInt_lt, Int32.le_iff_toInt_le, ← Int32.toInt_inj, Int32.toInt_add, Int32.toInt_sub, Int32.toInt_mul, Int32.toInt_neg, pq_NuO, pq_NuI, pq_NuJ, pq_NuR, pq_shr6, pq_shr7, pq_shr8, lqm1, lq0, lq1, lq2, lq6, lq63, lq201] at *; (try simp (disch := omega) only [pq_bm] at *); all_goals omega)
  · focus ((try clear hW); (try clear hWL); (try clear K); (try clear ih); (try clear hlt); (try clear hltL); (try clear hnb); (try clear p93); (try clear p97); (try clear p132); (try clear hst); (try clear hstL); (try clear p75); (try clear p1); (try clear p5); (try clear hai); (try clear hai3); (try clear hlt3); (try clear hnb3); (try clear hlt1); (try clear hlt5); (try clear hlt4); (try clear ha97); (try clear g32); (try clear g45); simp only [vp_in_iff, Int32.lt_iff_toInt_lt, Int32.le_iff_toInt_le, ← Int32.toInt_inj, Int32.toInt_add, Int32.toInt_sub, Int32.toInt_mul, Int32.toInt_neg, pq_NuO, pq_NuI, pq_NuJ, pq_NuR, pq_shr6, pq_shr7, pq_shr8, lqm1, lq0, lq1, lq2, lq6, lq63, lq201] at *; (try simp (disch := omega) only [pq_bm] at *); all_goals omega)
  · focus ((try clear hW); (try clear hWL); (try clear K); (try clear ih); (try clear hlt); (try clear hltL); (try clear hnb); (try clear p93); (try clear p97); (try clear p132); (try clear hst); (try clear hstL); (try clear p75); (try clear p1); (try clear p5); (try clear hai); (try clear hai3); (try clear hlt3); (try clear hnb3); (try clear hlt1); (try clear hlt5); (try clear hlt4); (try clear ha97); (try clear g32); (try clear g45); simp only [vp_in_iff, Int32.lt_iff_toInt_lt, Int32.le_iff_toInt_le, ← Int32.toInt_inj, Int32.toInt_add, Int32.toInt_sub, Int32.toInt_mul, Int32.toInt_neg, pq_NuO, pq_NuI, pq_NuJ, pq_NuR, pq_shr6, pq_shr7, pq_shr8, lqm1, lq0, lq1, lq2, lq6, lq63, lq201] at *; (try simp (disch := omega) only [pq_bm] at *); all_goals omega)
  · focus ((try clear hW); (try clear hWL); (try clear K); (try clear ih); (try clear hlt); (try clear hltL); (try clear hnb); (try clear p93); (try clear p97); (try clear p132); (try clear hst); (try clear hstL); (try clear p75); (try clear p1); (try clear p5); (try clear hai); (try clear hai3); (try clear hlt3); (try clear hnb3); (try clear hlt1); (try clear hlt5); (try clear hlt4); (try clear ha97); (try clear g32); (try clear g45); simp only [vp_in_iff, Int32.lt_iff_toInt_lt, Int32.le_iff_toInt_le, ← Int32.toInt_inj, Int32.toInt_add, Int32.toInt_sub, Int32.toInt_mul, Int32.toInt_neg, pq_NuO, pq_NuI, pq_NuJ, pq_NuR, pq_shr6, pq_shr7, pq_shr8, lqm1, lq0, lq1, lq2, lq6, lq63, lq201] at *; (try simp (disch := omega) only [pq_bm] at *); all_goals omega)
  · decide
  obtain ⟨rfl, f32, rfl, g32⟩ := w32
  refine pq_aload_n F dX4_splitBy_35 rfl rfl ?_
  refine pq_get F ha (by decide) lk_X4_23 e4 dX4_splitBy_36 ?_
  refine pq_iconst (v := 0) F dX4_splitBy_39 (by decide) ?_
  refine pq_aload_n F dX4_splitBy_40 rfl rfl ?_
  refine pq_get F ha (by decide) lk_X4_61 e7 dX4_splitBy_41 ?_
  refine pq_iconst (v := -1) F dX4_splitBy_44 (by decide) ?_
  refine pq_lenF hnpR (by decide) rfl (fun lna45_0 lnb45_0 => ?_)
  refine pq_callS (As := [_, _, _, _]) F (k_J7_fillI l D cy _ _ 162 ?_ ?_ ?_ _ ?_ _ _ ?_ ?_ ?_ ?_) ml_X4_87 (Nat.le_of_ble_eq_true rfl) ⟨Nat.le_of_ble_eq_true rfl, Nat.le_of_ble_eq_true rfl⟩ ⟨by decide, by decide⟩ dX4_splitBy_45 (fun v45 S45 w45 => ?_)
  · exact hnpR
  · first | decide | omega
  · first | decide | omega
  · focus ((try clear hW); (try clear hWL); (try clear K); (try clear ih); (try clear hlt); (try clear hltL); (try clear hnb); (try clear p93); (try clear p97); (try clear p132); (try clear hst); (try clear hstL); (try clear p75); (try clear p1); (try clear p5); (try clear hai); (try clear hai3); (try clear hlt3); (try clear hnb3); (try clear hlt1); (try clear hlt5); (try clear hlt4); (try clear ha97); (try clear g32); (try clear g45); simp only [vp_in_iff, Int32.lt_iff_toInt_lt, Int32.le_iff_toInt_le, ← Int32.toInt_inj, Int32.toInt_add, Int32.toInt_sub, Int32.toInt_mul, Int32.toInt_neg, pq_NuO, pq_NuI, pq_NuJ, pq_NuR, pq_shr6, pq_shr7, pq_shr8, lqm1, lq0, lq1, lq2, lq6, lq63, lq201] at *; (try simp (disch := omega) only [pq_bm] at *); all_goals omega)
  · focus ((try clear hW); (try clear hWL); (try clear K); (try clear ih); (try clear hlt); (try clear hltL); (try clear hnb); (try clear p93); (try clear p97); (try clear p132); (try clear hst); (try clear hstL); (try clear p75); (try clear p1); (try clear p5); (try clear hai); (try clear hai3); (try clear hlt3); (try clear hnb3); (try clear hlt1); (try clear hlt5); (try clear hlt4); (try clear ha97); (try clear g32); (try clear g45); simp only [vp_in_iff, Int32.lt_iff_toInt_lt, Int32.le_iff_toInt_le, ← Int32.toInt_inj, Int32.toInt_add, Int32.toInt_sub, Int32.toInt_mul, Int32.toInt_neg, pq_NuO, pq_NuI, pq_NuJ, pq_NuR, pq_shr6, pq_shr7, pq_shr8, lqm1, lq0, lq1, lq2, lq6, lq63, lq201] at *; (try simp (disch := omega) only [pq_bm] at *); all_goals omega)
  · focus ((try clear hW); (try clear hWL); (try clear K); (try clear ih); (try clear hlt); (try clear hltL); (try clear hnb); (try clear p93); (try clear p97); (try clear p132); (try clear hst); (try clear hstL); (try clear p75); (try clear p1); (try clear p5); (try clear hai); (try clear hai3); (try clear hlt3); (try clear hnb3); (try clear hlt1); (try clear hlt5); (try clear hlt4); (try clear ha97); (try clear g32); (try clear g45); simp only [vp_in_iff, Int32.lt_iff_toInt_lt, Int32.le_iff_toInt_le, ← Int32.toInt_inj, Int32.toInt_add, Int32.toInt_sub, Int32.toInt_mul, Int32.toInt_neg, pq_NuO, pq_NuI, pq_NuJ, pq_NuR, pq_shr6, pq_shr7, pq_shr8, lqm1, lq0, lq1, lq2, lq6, lq63, lq201] at *; (try simp (disch := omega) only [pq_bm] at *); all_goals omega)
  · focus ((try clear hW); (try clear hWL); (try clear K); (try clear ih); (try clear hlt); (try clear hltL); (try clear hnb); (try clear p93); (try clear p97); (try clear p132); (try clear hst); (try clear hstL); (try clear p75); (try clear p1); (try clear p5); (try clear hai); (try clear hai3); (try clear hlt3); (try clear hnb3); (try clear hlt1); (try clear hlt5); (try clear hlt4); (try clear ha97); (try clear g32); (try clear g45); simp only [vp_in_iff, Int32.lt_iff_toInt_lt, Int32.le_iff_toInt_le, ← Int32.toInt_inj, Int32.toInt_add, Int32.toInt_sub, Int32.toInt_mul, Int32.toInt_neg, pq_NuO, pq_NuI, pq_NuJ, pq_NuR, pq_shr6, pq_shr7, pq_shr8, lqm1, lq0, lq1, lq2, lq6, lq63, lq201] at *; (try simp (disch := omega) only [pq_bm] at *); all_goals omega)
  · decide
  obtain ⟨rfl, f45, rfl, g45⟩ := w45
  refine pq_iconst (v := 0) F dX4_splitBy_48 (by decide) ?_
  refine pq_istore_n F dX4_splitBy_49 rfl (by decide) ?_
  exact pq_fgm [true, true, true] (L50  100000 _ _  (((pq_Fr.rf.uJ h1 (by first | decide | exact List.mem_cons_self)).uI ham (by first | decide | exact List.mem_cons_self)).uI hnpR (by first | decide | exact List.mem_cons_self)) (by have n1 := pq_nrole hbo hnpR (by decide); have n2 := pq_nrole hbo ham (by decide); simp only [pq_IuO, pq_IuJ, pq_Iu, pq_JuO, pq_JuI, pq_Ju, pq_RuO, pq_RuJ, pq_RuI, if_true, if_false, n1, n2]; exact hlt) (fun i hi => absurd hi pq_i0) (by have n1 := pq_nrole ham hnpR (by decide); simp only [pq_IuO, pq_IuJ, pq_Iu, pq_JuO, pq_JuI, pq_Ju, pq_RuO, pq_RuJ, pq_RuI, if_true, if_false, n1]; rw [g32 0 (by decide) (by decide)]; decide) (by focus ((try clear hW); (try clear hWL); (try clear K); (try clear ih); (try clear hlt); (try clear hltL); (try clear hnb); (try clear p93); (try clear p97); (try clear p132); (try clear hst); (try clear hstL); (try clear p75); (try clear p1); (try clear p5); (try clear hai); (try clear hai3); (try clear hlt3); (try clear hnb3); (try clear hlt1); (try clear hlt5); (try clear hlt4); (try clear ha97); (try clear g32); (try clear g45); simp only [vp_in_iff, Int32.lt_iff_toInt_lt, Int32.le_iff_toInt_le, ← Int32.toInt_inj, Int32.toInt_add, Int32.toInt_sub, Int32.toInt_mul, Int32.toInt_neg, pq_NuO, pq_NuI, pq_NuJ, pq_NuR, pq_shr6, pq_shr7, pq_shr8, lqm1, lq0, lq1, lq2, lq6, lq63, lq201] at *; (try simp (disch := omega) only [pq_bm] at *); all_goals omega)) (by focus ((try clear hW); (try clear hWL); (try clear K); (try clear ih); (try clear hlt); (try clear hltL); (try clear hnb); (try clear p93); (try clear p97); (try clear p132); (try clear hst); (try clear hstL); (try clear p75); (try clear p1); (try clear p5); (try clear hai); (try clear hai3); (try clear hlt3); (try clear hnb3); (try clear hlt1); (try clear hlt5); (try clear hlt4); (try clear ha97); (try clear g32); (try clear g45); simp only [vp_in_iff, Int32.lt_iff_toInt_lt, Int32.le_iff_toInt_le, ← Int32.toInt_inj, Int32.toInt_add, Int32.toInt_sub, Int32.toInt_mul, Int32.toInt_neg, pq_NuO, pq_NuI, pq_NuJ, pq_NuR, pq_shr6, pq_shr7, pq_shr8, lqm1, lq0, lq1, lq2, lq6, lq63, lq201] at *; (try simp (disch := omega) only [pq_bm] at *); all_goals omega)) (by focus ((try clear hW); (try clear hWL); (try clear K); (try clear ih); (try clear hlt); (try clear hltL); (try clear hnb); (try clear p93); (try clear p97); (try clear p132); (try clear hst); (try clear hstL); (try clear p75); (try clear p1); (try clear p5); (try clear hai); (try clear hai3); (try clear hlt3); (try clear hnb3); (try clear hlt1); (try clear hlt5); (try clear hlt4); (try clear ha97); (try clear g32); (try clear g45); simp only [vp_in_iff, Int32.lt_iff_toInt_lt, Int32.le_iff_toInt_le, ← Int32.toInt_inj, Int32.toInt_add, Int32.toInt_sub, Int32.toInt_mul, Int32.toInt_neg, pq_NuO, pq_NuI, pq_NuJ, pq_NuR, pq_shr6, pq_shr7, pq_shr8, lqm1, lq0, lq1, lq2, lq6, lq63, lq201] at *; (try simp (disch := omega) only [pq_bm] at *); all_goals omega)))

set_option maxHeartbeats 4000000 in
set_option maxRecDepth 100000 in
theorem k_X4_mergeAllY (l : Launch) (D : va_G) (cy : Nat → ClassId) (S : HS) (a : Nat) (ha : pq_R S a 7) (wk kd st : Nat) (e0 : hO S a 0 = .ref wk) (hwk : pq_R S wk 11) (hW : pq_Wk S wk kd st 1 2) (bo nb am np : Nat) (e1 : hO S a 1 = .ref bo) (hbo : pq_R S bo 159) (e2 : hO S a 2 = .ref nb) (hnbR : pq_R S nb 160) (e3 : hO S a 3 = .ref am) (ham : pq_R S am 161) (e4 : hO S a 4 = .ref np) (hnpR : pq_R S np 162) (hst : pq_lt (hI S st) 2 1) : pq_C l D cy yX4_mergeAll cX4_mergeAll 4 (some .boolean) 4 0 0 S [.ref a] (fun v S2 => pq_Fr [(7, 7), (159, 0), (192, 0), (193, 0), (161, 0), (162, 0), (160, 0)] S S2 ∧ ∃ x : Int32, v = some (.int x) ∧ 0 ≤ x.toInt ∧ x.toInt ≤ 1 ∧ (x = 1 ∧ hO S2 a 7 = .int 1 ∧ pq_lt (hI S2 bo) 2 1)) := by
  refine pq_start (by decide) (Nat.le_of_ble_eq_true rfl) ?_
  intro p e s m args below meth c A F hr hlk hnm hA
  have lqm1 : (-1 : Int32).toInt = -1 := rfl
  have lq0 : (0 : Int32).toInt = 0 := rfl
  have lq1 : (1 : Int32).toInt = 1 := rfl
  have lq2 : (2 : Int32).toInt = 2 := rfl
  have lq201 : (201 : Int32).toInt = 201 := rfl
  have lq402 : (402 : Int32).toInt = 402 := rfl
  have hwl := hW.l
  have L37 : ∀ (rd : Int32) (hr0 : 0 ≤ rd.toInt) (hr1 : rd.toInt < 402) (K : ∀ (S2 : HS) (mo2 : Int32) (hF2 : pq_Fr [(7, 7), (159, 0), (192, 0), (193, 0), (161, 0), (162, 0), (160, 0)] S S2) (he72 : hO S2 a 7 = .int 1) (hlt2 : pq_lt (hI S2 bo) 2 1), pq_At p l e (pq_rm 4 0 0) s m args below meth c (pq_Z below args s D cy S 0 0 (fun v S2 => pq_Fr [(7, 7), (159, 0), (192, 0), (193, 0), (161, 0), (162, 0), (160, 0)] S S2 ∧ ∃ x : Int32, v = some (.int x) ∧ 0 ≤ x.toInt ∧ x.toInt ≤ 1 ∧ (x = 1 ∧ hO S2 a 7 = .int 1 ∧ pq_lt (hI S2 bo) 2 1))) D cy A 4 0 0 86 S2 [some (.ref a), some (.int mo2), some (.int rd), none] []) (fu : Nat) (S1 : HS) (mo : Int32) (k : Int32)  (hF : pq_Fr [(7, 7), (159, 0), (192, 0), (193, 0), (161, 0), (162, 0), (160, 0)] S S1) (he7 : hO S1 a 7 = .int 1) (hlt3 : pq_lt (hI S1 bo) 2 1) (hk0 : 0 ≤ k.toInt) (hk1 : k.toInt ≤ 1), (128 - k.toInt).toNat < fu → pq_At p l e (pq_rm 4 0 0) s m args below meth c (pq_Z below args s D cy S 0 0 (fun v S2 => pq_Fr [(7, 7), (159, 0), (192, 0), (193, 0), (161, 0), (162, 0), (160, 0)] S S2 ∧ ∃ x : Int32, v = some (.int x) ∧ 0 ≤ x.toInt ∧ x.toInt ≤ 1 ∧ (x = 1 ∧ hO S2 a 7 = .int 1 ∧ pq_lt (hI S2 bo) 2 1))) D cy A 4 0 0 37 S1 [some (.ref a), some (.int mo), some (.int rd), some (.int k)] [] := by
    intro rd hr0 hr1 K fu
    induction fu with
    | zero => intro S1 mo k hF he7 hlt3 hk0 hk1 hm; exact absurd hm (Nat.not_lt_zero _)
    | succ fu ih =>
      intro S1 mo k hF he7 hlt3 hk0 hk1 hm
      have haL := hF.R ha (by first | decide | omega)
      have e0L := hF.O ha (by decide) (by decide) e0
      have hwkL := hF.R hwk (by decide)
      have hWL := hW.fr hwk hF (by decide)
      have e1L := hF.O ha (by decide) (by decide) e1
      have hboL := hF.R hbo (by decide)
      have e2L := hF.O ha (by decide) (by decide) e2
      have hnbRL := hF.R hnbR (by decide)
      have e3L := hF.O ha (by decide) (by decide) e3
      have hamL := hF.R ham (by decide)
      have e4L := hF.O ha (by decide) (by decide) e4
      have hnpL := hF.R hnpR (by decide)
      have hstL : pq_lt (hI S1 st) 2 1 := (by rw [hF.I hW.hs (by decide) (by decide)]; exact hst)
      refine pq_iload_n F dX4_mergeAll_37 rfl rfl ?_
      refine pq_aload_n F dX4_mergeAll_38 rfl rfl ?_
      refine pq_get F haL (by decide) lk_X4_33 e0L dX4_mergeAll_39 ?_
      refine pq_get F hwkL (by decide) lk_X4_51 hWL.e1 dX4_mergeAll_42 ?_
      refine pq_get F hWL.hk (by decide) lk_X4_55 hWL.en dX4_mergeAll_45 ?_
      refine pq_icmp_ge (tgt := 86) F dX4_mergeAll_48 (by decide) (fun c48 => ?_) (fun c48 => ?_)
      · skip
        exact pq_fgm [true, true, true, false] (K _ _ hF he7 hlt3)
      · skip
        refine pq_aload_n F dX4_mergeAll_51 rfl rfl ?_
        refine pq_get F haL (by decide) lk_X4_61 he7 dX4_mergeAll_52 ?_
        refine pq_sipush (v := 201) F dX4_mergeAll_55 (by decide) ?_
        refine pq_icmp_gt (tgt := 86) F dX4_mergeAll_58 (by decide) (fun c58 => ?_) (fun c58 => ?_)
        · exact False.elim (by focus ((try clear hW); (try clear hWL); (try clear K); (try clear ih); (try clear hlt); (try clear hltL); (try clear hnb); (try clear p93); (try clear p97); (try clear p132); (try clear hst); (try clear hstL); (try clear p75); (try clear p1); (try clear p5); (try clear hai); (try clear hai3); (try clear hlt3); (try clear hnb3); (try clear hlt1); (try clear hlt5); (try clear hlt4); (try clear ha97); (try clear g32); (try clear g45); simp only [vp_in_iff, Int32.lt_iff_toInt_lt, Int32.le_iff_toInt_le, ← Int32.toInt_inj, Int32.toInt_add, Int32.toInt_sub, Int32.toInt_mul, Int32.toInt_neg, pq_NuO, pq_NuI, pq_NuJ, pq_NuR, pq_shr6, pq_shr7, pq_shr8, lqm1, lq0, lq1, lq2, lq201, lq402] at *; (try simp (disch := omega) only [pq_bm] at *); all_goals omega))
        · skip
          refine pq_aload_n F dX4_mergeAll_61 rfl rfl ?_
          refine pq_getR F haL (by decide) lk_X4_30 rfl dX4_mergeAll_62 (fun r62 e62 h62 => ?_)
          refine pq_iconst (v := 0) F dX4_mergeAll_65 (by decide) ?_
          refine pq_iload_n F dX4_mergeAll_66 rfl rfl ?_
          refine pq_lenF h62 (by decide) rfl (fun lna67_0 lnb67_0 => ?_)
          refine pq_callS (As := [_, _, _]) F (k_X10_hasBit l D cy _ _ 193 ?_ ?_ ?_ _ ?_ _ ?_ ?_ ?_) ml_X4_64 (Nat.le_of_ble_eq_true rfl) ⟨Nat.le_of_ble_eq_true rfl, Nat.le_of_ble_eq_true rfl⟩ ⟨by decide, by decide⟩ dX4_mergeAll_67 (fun v67 S67 w67 => ?_)
          · exact h62
          · first | decide | omega
          · first | decide | omega
          · focus ((try clear hW); (try clear hWL); (try clear K); (try clear ih); (try clear hlt); (try clear hltL); (try clear hnb); (try clear p93); (try clear p97); (try clear p132); (try clear hst); (try clear hstL); (try clear p75); (try clear p1); (try clear p5); (try clear hai); (try clear hai3); (try clear hlt3); (try clear hnb3); (try clear hlt1); (try clear hlt5); (try clear hlt4); (try clear ha97); (try clear g32); (try clear g45); simp only [vp_in_iff, Int32.lt_iff_toInt_lt, Int32.le_iff_toInt_le, ← Int32.toInt_inj, Int32.toInt_add, Int32.toInt_sub, Int32.toInt_mul, Int32.toInt_neg, pq_NuO, pq_NuI, pq_NuJ, pq_NuR, pq_shr6, pq_shr7, pq_shr8, lqm1, lq0, lq1, lq2, lq201, lq402] at *; (try simp (disch := omega) only [pq_bm] at *); all_goals omega)
          · focus ((try clear hW); (try clear hWL); (try clear K); (try clear ih); (try clear hlt); (try clear hltL); (try clear hnb); (try clear p93); (try clear p97); (try clear p132); (try clear hst); (try clear hstL); (try clear p75); (try clear p1); (try clear p5); (try clear hai); (try clear hai3); (try clear hlt3); (try clear hnb3); (try clear hlt1); (try clear hlt5); (try clear hlt4); (try clear ha97); (try clear g32); (try clear g45); simp only [vp_in_iff, Int32.lt_iff_toInt_lt, Int32.le_iff_toInt_le, ← Int32.toInt_inj, Int32.toInt_add, Int32.toInt_sub, Int32.toInt_mul, Int32.toInt_neg, pq_NuO, pq_NuI, pq_NuJ, pq_NuR, pq_shr6, pq_shr7, pq_shr8, lqm1, lq0, lq1, lq2, lq201, lq402] at *; (try simp (disch := omega) only [pq_bm] at *); all_goals omega)
          · focus ((try clear hW); (try clear hWL); (try clear K); (try clear ih); (try clear hlt); (try clear hltL); (try clear hnb); (try clear p93); (try clear p97); (try clear p132); (try clear hst); (try clear hstL); (try clear p75); (try clear p1); (try clear p5); (try clear hai); (try clear hai3); (try clear hlt3); (try clear hnb3); (try clear hlt1); (try clear hlt5); (try clear hlt4); (try clear ha97); (try clear g32); (try clear g45); simp only [vp_in_iff, Int32.lt_iff_toInt_lt, Int32.le_iff_toInt_le, ← Int32.toInt_inj, Int32.toInt_add, Int32.toInt_sub, Int32.toInt_mul, Int32.toInt_neg, pq_NuO, pq_NuI, pq_NuJ, pq_NuR, pq_shr6, pq_shr7, pq_shr8, lqm1, lq0, lq1, lq2, lq201, lq402] at *; (try simp (disch := omega) only [pq_bm] at *); all_goals omega)
          · focus ((try clear hW); (try clear hWL); (try clear K); (try clear ih); (try clear hlt); (try clear hltL); (try clear hnb); (try clear p93); (try clear p97); (try clear p132); (try clear hst); (try clear hstL); (try clear p75); (try clear p1); (try clear p5); (try clear hai); (try clear hai3); (try clear hlt3); (try clear hnb3); (try clear hlt1); (try clear hlt5); (try clear hlt4); (try clear ha97); (try clear g32); (try clear g45); simp only [vp_in_iff, Int32.lt_iff_toInt_lt, Int32.le_iff_toInt_le, ← Int32.toInt_inj, Int32.toInt_add, Int32.toInt_sub, Int32.toInt_mul, Int32.toInt_neg, pq_NuO, pq_NuI, pq_NuJ, pq_NuR, pq_shr6, pq_shr7, pq_shr8, lqm1, lq0, lq1, lq2, lq201, lq402] at *; (try simp (disch := omega) only [pq_bm] at *); all_goals omega)
          obtain ⟨u67, y67, rfl, yl67_0, yl67_1⟩ := w67
          rw [u67]
          refine pq_if_eq (tgt := 80) F dX4_mergeAll_70 (by decide) (fun c70 => ?_) (fun c70 => ?_)
          · skip
            refine pq_iinc (v := 1) F dX4_mergeAll_80 rfl (by decide) (by decide) ?_
            refine pq_goto (tgt := 37) F dX4_mergeAll_83 (by decide) ?_
            exact pq_fgm [true, true, true, true] (ih _ _ _ hF he7 hlt3 (by focus ((try clear hW); (try clear hWL); (try clear K); (try clear ih); (try clear hlt); (try clear hltL); (try clear hnb); (try clear p93); (try clear p97); (try clear p132); (try clear hst); (try clear hstL); (try clear p75); (try clear p1); (try clear p5); (try clear hai); (try clear hai3); (try clear hlt3); (try clear hnb3); (try clear hlt1); (try clear hlt5); (try clear hlt4); (try clear ha97); (try clear g32); (try clear g45); simp only [vp_in_iff, Int32.lt_iff_toInt_lt, Int32.le_iff_toInt_le, ← Int32.toInt_inj, Int32.toInt_add, Int32.toInt_sub, Int32.toInt_mul, Int32.toInt_neg, pq_NuO, pq_NuI, pq_NuJ, pq_NuR, pq_shr6, pq_shr7, pq_shr8, lqm1, lq0, lq1, lq2, lq201, lq402] at *; (try simp (disch := omega) only [pq_bm] at *); all_goals omega)) (by focus ((try clear hW); (try clear hWL); (try clear K); (try clear ih); (try clear hlt); (try clear hltL); (try clear hnb); (try clear p93); (try clear p97); (try clear p132); (try clear hst); (try clear hstL); (try clear p75); (try clear p1); (try clear p5); (try clear hai); (try clear hai3); (try clear hlt3); (try clear hnb3); (try clear hlt1); (try clear hlt5); (try clear hlt4); (try clear ha97); (try clear g32); (try clear g45); simp only [vp_in_iff, Int32.lt_iff_toInt_lt, Int32.le_iff_toInt_le, ← Int32.toInt_inj, Int32.toInt_add, Int32.toInt_sub, Int32.toInt_mul, Int32.toInt_neg, pq_NuO, pq_NuI, pq_NuJ, pq_NuR, pq_shr6, pq_shr7, pq_shr8, lqm1, lq0, lq1, lq2, lq201, lq402] at *; (try simp (disch := omega) only [pq_bm] at *); all_goals omega)) (by focus ((try clear hW); (try clear hWL); (try clear K); (try clear ih); (try clear hlt); (try clear hltL); (try clear hnb); (try clear p93); (try clear p97); (try clear p132); (try clear hst); (try clear hstL); (try clear p75); (try clear p1); (try clear p5); (try clear hai); (try clear hai3); (try clear hlt3); (try clear hnb3); (try clear hlt1); (try clear hlt5); (try clear hlt4); (try clear ha97); (try clear g32); (try clear g45); simp only [vp_in_iff, Int32.lt_iff_toInt_lt, Int32.le_iff_toInt_le, ← Int32.toInt_inj, Int32.toInt_add, Int32.toInt_sub, Int32.toInt_mul, Int32.toInt_neg, pq_NuO, pq_NuI, pq_NuJ, pq_NuR, pq_shr6, pq_shr7, pq_shr8, lqm1, lq0, lq1, lq2, lq201, lq402] at *; (try simp (disch := omega) only [pq_bm] at *); all_goals omega)))
          · skip
            refine pq_aload_n F dX4_mergeAll_73 rfl rfl ?_
            refine pq_iload_n F dX4_mergeAll_74 rfl rfl ?_
            refine pq_callV (As := [_]) F (k_X4_splitByY l D cy _ _ ?_ _ wk kd st e0L hwkL hWL bo nb am np e1L hboL e2L hnbRL e3L hamL e4L hnpL he7 ?_ hlt3 hstL) ml_X4_68 haL (by decide) rfl (Nat.le_of_ble_eq_true rfl) ⟨Nat.le_of_ble_eq_true rfl, Nat.le_of_ble_eq_true rfl⟩ ⟨by decide, by decide⟩ dX4_mergeAll_75 (fun v75 S75 w75 => ?_)
            · exact haL
            · focus ((try clear hW); (try clear hWL); (try clear K); (try clear ih); (try clear hlt); (try clear hltL); (try clear hnb); (try clear p93); (try clear p97); (try clear p132); (try clear hst); (try clear hstL); (try clear p75); (try clear p1); (try clear p5); (try clear hai); (try clear hai3); (try clear hlt3); (try clear hnb3); (try clear hlt1); (try clear hlt5); (try clear hlt4); (try clear ha97); (try clear g32); (try clear g45); simp only [vp_in_iff, Int32.lt_iff_toInt_lt, Int32.le_iff_toInt_le, ← Int32.toInt_inj, Int32.toInt_add, Int32.toInt_sub, Int32.toInt_mul, Int32.toInt_neg, pq_NuO, pq_NuI, pq_NuJ, pq_NuR, pq_shr6, pq_shr7, pq_shr8, lqm1, lq0, lq1, lq2, lq201, lq402] at *; (try simp (disch := omega) only [pq_bm] at *); all_goals omega)
            obtain ⟨rfl, hF75, p75⟩ := w75
            have haL_75 := (hF75.1 _ _ haL (by decide)).1
            have hwkL_75 := (hF75.1 _ _ hwkL (by decide)).1
            have ec75_0_haL_75 := hF75.O haL (by decide) (by decide) e0L
            have hz_75 := (hF75.1 _ _ hWL.hk (by decide)).1
            have ec75_1_hwkL_75 := hF75.O hwkL (by decide) (by decide) hWL.e1
            have ec75_3_hz_75 := hF75.O hWL.hk (by decide) (by decide) hWL.en
            have hz_75z := (hF75.1 _ _ hWL.hs (by decide)).1
            have ec75_6_hwkL_75 := hF75.O hwkL (by decide) (by decide) hWL.e6
            have ec75_7_hwkL_75 := hF75.O hwkL (by decide) (by decide) hWL.e7
            have hboL_75 := (hF75.1 _ _ hboL (by decide)).1
            have ec75_1_haL_75 := hF75.O haL (by decide) (by decide) e1L
            have hnbRL_75 := (hF75.1 _ _ hnbRL (by decide)).1
            have ec75_2_haL_75 := hF75.O haL (by decide) (by decide) e2L
            have hamL_75 := (hF75.1 _ _ hamL (by decide)).1
            have ec75_3_haL_75 := hF75.O haL (by decide) (by decide) e3L
            have hnpL_75 := (hF75.1 _ _ hnpL (by decide)).1
            have ec75_4_haL_75 := hF75.O haL (by decide) (by decide) e4L
            have ec75_7_haL_75 := hF75.O haL (by decide) (by decide) he7
            have h62_75 := (hF75.1 _ _ h62 (by decide)).1
            have ec75_6_haL_75 := hF75.O haL (by decide) (by decide) e62
            have e74 := hF75.O haL (by decide) (by decide) he7
            refine pq_iconst (v := 1) F dX4_mergeAll_78 (by decide) ?_
            refine pq_istore_n F dX4_mergeAll_79 rfl (by decide) ?_
            refine pq_iinc (v := 1) F dX4_mergeAll_80 rfl (by decide) (by decide) ?_
            refine pq_goto (tgt := 37) F dX4_mergeAll_83 (by decide) ?_
            exact pq_fgm [true, true, true, true] (ih _ _ _ (hF.cm hF75 (by decide)) e74 p75 (by focus ((try clear hW); (try clear hWL); (try clear K); (try clear ih); (try clear hlt); (try clear hltL); (try clear hnb); (try clear p93); (try clear p97); (try clear p132); (try clear hst); (try clear hstL); (try clear p75); (try clear p1); (try clear p5); (try clear hai); (try clear hai3); (try clear hlt3); (try clear hnb3); (try clear hlt1); (try clear hlt5); (try clear hlt4); (try clear ha97); (try clear g32); (try clear g45); simp only [vp_in_iff, Int32.lt_iff_toInt_lt, Int32.le_iff_toInt_le, ← Int32.toInt_inj, Int32.toInt_add, Int32.toInt_sub, Int32.toInt_mul, Int32.toInt_neg, pq_NuO, pq_NuI, pq_NuJ, pq_NuR, pq_shr6, pq_shr7, pq_shr8, lqm1, lq0, lq1, lq2, lq201, lq402] at *; (try simp (disch := omega) only [pq_bm] at *); all_goals omega)) (by focus ((try clear hW); (try clear hWL); (try clear K); (try clear ih); (try clear hlt); (try clear hltL); (try clear hnb); (try clear p93); (try clear p97); (try clear p132); (try clear hst); (try clear hstL); (try clear p75); (try clear p1); (try clear p5); (try clear hai); (try clear hai3); (try clear hlt3); (try clear hnb3); (try clear hlt1); (try clear hlt5); (try clear hlt4); (try clear ha97); (try clear g32); (try clear g45); simp only [vp_in_iff, Int32.lt_iff_toInt_lt, Int32.le_iff_toInt_le, ← Int32.toInt_inj, Int32.toInt_add, Int32.toInt_sub, Int32.toInt_mul, Int32.toInt_neg, pq_NuO, pq_NuI, pq_NuJ, pq_NuR, pq_shr6, pq_shr7, pq_shr8, lqm1, lq0, lq1, lq2, lq201, lq402] at *; (try simp (disch := omega) only [pq_bm] at *); all_goals omega)) (by focus ((try clear hW); (try clear hWL); (try clear K); (try clear ih); (try clear hlt); (try clear hltL); (try clear hnb); (try clear p93); (try clear p97); (try clear p132); (try clear hst); (try clear hstL); (try clear p75); (try clear p1); (try clear p5); (try clear hai); (try clear hai3); (try clear hlt3); (try clear hnb3); (try clear hlt1); (try clear hlt5); (try clear hlt4); (try clear ha97); (try clear g32); (try clear g45); simp only [vp_in_iff, Int32.lt_iff_toInt_lt, Int32.le_iff_toInt_le, ← Int32.toInt_inj, Int32.toInt_add, Int32.toInt_sub, Int32.toInt_mul, Int32.toInt_neg, pq_NuO, pq_NuI, pq_NuJ, pq_NuR, pq_shr6, pq_shr7, pq_shr8, lqm1, lq0, lq1, lq2, lq201, lq402] at *; (try simp (disch := omega) only [pq_bm] at *); all_goals omega)))
  have L22 : ∀  (fu : Nat) (S1 : HS) (mo : Int32) (rd : Int32)  (hF : pq_Fr [(7, 7), (159, 0), (192, 0), (193, 0), (161, 0), (162, 0), (160, 0)] S S1) (he7 : hO S1 a 7 = .int 1) (hlt3 : pq_lt (hI S1 bo) 2 1) (hr0 : 0 ≤ rd.toInt), (402 - rd.toInt).toNat < fu → pq_At p l e (pq_rm 4 0 0) s m args below meth c (pq_Z below args s D cy S 0 0 (fun v S2 => pq_Fr [(7, 7), (159, 0), (192, 0), (193, 0), (161, 0), (162, 0), (160, 0)] S S2 ∧ ∃ x : Int32, v = some (.int x) ∧ 0 ≤ x.toInt ∧ x.toInt ≤ 1 ∧ (x = 1 ∧ hO S2 a 7 = .int 1 ∧ pq_lt (hI S2 bo) 2 1))) D cy A 4 0 0 22 S1 [some (.ref a), some (.int mo), some (.int rd), none] [] := by
    intro  fu
    induction fu with
    | zero => intro S1 mo rd hF he7 hlt3 hr0 hm; exact absurd hm (Nat.not_lt_zero _)
    | succ fu ih =>
      intro S1 mo rd hF he7 hlt3 hr0 hm
      have haL := hF.R ha (by first | decide | omega)
      have e0L := hF.O ha (by decide) (by decide) e0
      have hwkL := hF.R hwk (by decide)
      have hWL := hW.fr hwk hF (by decide)
      have e1L := hF.O ha (by decide) (by decide) e1
      have hboL := hF.R hbo (by decide)
      have e2L := hF.O ha (by decide) (by decide) e2
      have hnbRL := hF.R hnbR (by decide)
      have e3L := hF.O ha (by decide) (by decide) e3
      have hamL := hF.R ham (by decide)
      have e4L := hF.O ha (by decide) (by decide) e4
      have hnpL := hF.R hnpR (by decide)
      refine pq_iload_n F dX4_mergeAll_22 rfl rfl ?_
      refine pq_if_eq (tgt := 92) F dX4_mergeAll_23 (by decide) (fun c23 => ?_) (fun c23 => ?_)
      · skip
        refine pq_aload_n F dX4_mergeAll_92 rfl rfl ?_
        refine pq_get F haL (by decide) lk_X4_61 he7 dX4_mergeAll_93 ?_
        refine pq_sipush (v := 201) F dX4_mergeAll_96 (by decide) ?_
        refine pq_icmp_gt (tgt := 106) F dX4_mergeAll_99 (by decide) (fun c99 => ?_) (fun c99 => ?_)
        · exact False.elim (by focus ((try clear hW); (try clear hWL); (try clear K); (try clear ih); (try clear hlt); (try clear hltL); (try clear hnb); (try clear p93); (try clear p97); (try clear p132); (try clear hst); (try clear hstL); (try clear p75); (try clear p1); (try clear p5); (try clear hai); (try clear hai3); (try clear hlt3); (try clear hnb3); (try clear hlt1); (try clear hlt5); (try clear hlt4); (try clear ha97); (try clear g32); (try clear g45); simp only [vp_in_iff, Int32.lt_iff_toInt_lt, Int32.le_iff_toInt_le, ← Int32.toInt_inj, Int32.toInt_add, Int32.toInt_sub, Int32.toInt_mul, Int32.toInt_neg, pq_NuO, pq_NuI, pq_NuJ, pq_NuR, pq_shr6, pq_shr7, pq_shr8, lqm1, lq0, lq1, lq2, lq201, lq402] at *; (try simp (disch := omega) only [pq_bm] at *); all_goals omega))
        · skip
          refine pq_iconst (v := 1) F dX4_mergeAll_102 (by decide) ?_
          refine pq_goto (tgt := 107) F dX4_mergeAll_103 (by decide) ?_
          exact pq_zret F hr hlk hA rfl (Nat.le_refl _) (Nat.le_refl _) (⟨hF, 1, rfl, (by focus ((try clear hW); (try clear hWL); (try clear K); (try clear ih); (try clear hlt); (try clear hltL); (try clear hnb); (try clear p93); (try clear p97); (try clear p132); (try clear hst); (try clear hstL); (try clear p75); (try clear p1); (try clear p5); (try clear hai); (try clear hai3); (try clear hlt3); (try clear hnb3); (try clear hlt1); (try clear hlt5); (try clear hlt4); (try clear ha97); (try clear g32); (try clear g45); simp only [vp_in_iff, Int32.lt_iff_toInt_lt, Int32.le_iff_toInt_le, ← Int32.toInt_inj, Int32.toInt_add, Int32.toInt_sub, Int32.toInt_mul, Int32.toInt_neg, pq_NuO, pq_NuI, pq_NuJ, pq_NuR, pq_shr6, pq_shr7, pq_shr8, lqm1, lq0, lq1, lq2, lq201, lq402] at *; (try simp (disch := omega) only [pq_bm] at *); all_goals omega)), (by focus ((try clear hW); (try clear hWL); (try clear K); (try clear ih); (try clear hlt); (try clear hltL); (try clear hnb); (try clear p93); (try clear p97); (try clear p132); (try clear hst); (try clear hstL); (try clear p75); (try clear p1); (try clear p5); (try clear hai); (try clear hai3); (try clear hlt3); (try clear hnb3); (try clear hlt1); (try clear hlt5); (try clear hlt4); (try clear ha97); (try clear g32); (try clear g45); simp only [vp_in_iff, Int32.lt_iff_toInt_lt, Int32.le_iff_toInt_le, ← Int32.toInt_inj, Int32.toInt_add, Int32.toInt_sub, Int32.toInt_mul, Int32.toInt_neg, pq_NuO, pq_NuI, pq_NuJ, pq_NuR, pq_shr6, pq_shr7, pq_shr8, lqm1, lq0, lq1, lq2, lq201, lq402] at *; (try simp (disch := omega) only [pq_bm] at *); all_goals omega)), rfl, he7, hlt3⟩) dX4_mergeAll_107
      · skip
        refine pq_iload_n F dX4_mergeAll_26 rfl rfl ?_
        refine pq_sipush (v := 402) F dX4_mergeAll_27 (by decide) ?_
        refine pq_icmp_ge (tgt := 92) F dX4_mergeAll_30 (by decide) (fun c30 => ?_) (fun c30 => ?_)
        · skip
          refine pq_aload_n F dX4_mergeAll_92 rfl rfl ?_
          refine pq_get F haL (by decide) lk_X4_61 he7 dX4_mergeAll_93 ?_
          refine pq_sipush (v := 201) F dX4_mergeAll_96 (by decide) ?_
          refine pq_icmp_gt (tgt := 106) F dX4_mergeAll_99 (by decide) (fun c99 => ?_) (fun c99 => ?_)
          · exact False.elim (by focus ((try clear hW); (try clear hWL); (try clear K); (try clear ih); (try clear hlt); (try clear hltL); (try clear hnb); (try clear p93); (try clear p97); (try clear p132); (try clear hst); (try clear hstL); (try clear p75); (try clear p1); (try clear p5); (try clear hai); (try clear hai3); (try clear hlt3); (try clear hnb3); (try clear hlt1); (try clear hlt5); (try clear hlt4); (try clear ha97); (try clear g32); (try clear g45); simp only [vp_in_iff, Int32.lt_iff_toInt_lt, Int32.le_iff_toInt_le, ← Int32.toInt_inj, Int32.toInt_add, Int32.toInt_sub, Int32.toInt_mul, Int32.toInt_neg, pq_NuO, pq_NuI, pq_NuJ, pq_NuR, pq_shr6, pq_shr7, pq_shr8, lqm1, lq0, lq1, lq2, lq201, lq402] at *; (try simp (disch := omega) only [pq_bm] at *); all_goals omega))
          · skip
            refine pq_iconst (v := 1) F dX4_mergeAll_102 (by decide) ?_
            refine pq_goto (tgt := 107) F dX4_mergeAll_103 (by decide) ?_
            exact pq_zret F hr hlk hA rfl (Nat.le_refl _) (Nat.le_refl _) (⟨hF, 1, rfl, (by focus ((try clear hW); (try clear hWL); (try clear K); (try clear ih); (try clear hlt); (try clear hltL); (try clear hnb); (try clear p93); (try clear p97); (try clear p132); (try clear hst); (try clear hstL); (try clear p75); (try clear p1); (try clear p5); (try clear hai); (try clear hai3); (try clear hlt3); (try clear hnb3); (try clear hlt1); (try clear hlt5); (try clear hlt4); (try clear ha97); (try clear g32); (try clear g45); simp only [vp_in_iff, Int32.lt_iff_toInt_lt, Int32.le_iff_toInt_le, ← Int32.toInt_inj, Int32.toInt_add, Int32.toInt_sub, Int32.toInt_mul, Int32.toInt_neg, pq_NuO, pq_NuI, pq_NuJ, pq_NuR, pq_shr6, pq_shr7, pq_shr8, lqm1, lq0, lq1, lq2, lq201, lq402] at *; (try simp (disch := omega) only [pq_bm] at *); all_goals omega)), (by focus ((try clear hW); (try clear hWL); (try clear K); (try clear ih); (try clear hlt); (try clear hltL); (try clear hnb); (try clear p93); (try clear p97); (try clear p132); (try clear hst); (try clear hstL); (try clear p75); (try clear p1); (try clear p5); (try clear hai); (try clear hai3); (try clear hlt3); (try clear hnb3); (try clear hlt1); (try clear hlt5); (try clear hlt4); (try clear ha97); (try clear g32); (try clear g45); simp only [vp_in_iff, Int32.lt_iff_toInt_lt, Int32.le_iff_toInt_le, ← Int32.toInt_inj, Int32.toInt_add, Int32.toInt_sub, Int32.toInt_mul, Int32.toInt_neg, pq_NuO, pq_NuI, pq_NuJ, pq_NuR, pq_shr6, pq_shr7, pq_shr8, lqm1, lq0, lq1, lq2, lq201, lq402] at *; (try simp (disch := omega) only [pq_bm] at *); all_goals omega)), rfl, he7, hlt3⟩) dX4_mergeAll_107
        · skip
          refine pq_iconst (v := 0) F dX4_mergeAll_33 (by decide) ?_
          refine pq_istore_n F dX4_mergeAll_34 rfl (by decide) ?_
          refine pq_iconst (v := 0) F dX4_mergeAll_35 (by decide) ?_
          refine pq_istore_n F dX4_mergeAll_36 rfl (by decide) ?_
          refine pq_fgm [true, true, true, true] (L37 rd (by focus ((try clear hW); (try clear hWL); (try clear K); (try clear ih); (try clear hlt); (try clear hltL); (try clear hnb); (try clear p93); (try clear p97); (try clear p132); (try clear hst); (try clear hstL); (try clear p75); (try clear p1); (try clear p5); (try clear hai); (try clear hai3); (try clear hlt3); (try clear hnb3); (try clear hlt1); (try clear hlt5); (try clear hlt4); (try clear ha97); (try clear g32); (try clear g45); simp only [vp_in_iff, Int32.lt_iff_toInt_lt, Int32.le_iff_toInt_le, ← Int32.toInt_inj, Int32.toInt_add, Int32.toInt_sub, Int32.toInt_mul, Int32.toInt_neg, pq_NuO, pq_NuI, pq_NuJ, pq_NuR, pq_shr6, pq_shr7, pq_shr8, lqm1, lq0, lq1, lq2, lq201, lq402] at *; (try simp (disch := omega) only [pq_bm] at *); all_goals omega)) (by focus ((try clear hW); (try clear hWL); (try clear K); (try clear ih); (try clear hlt); (try clear hltL); (try clear hnb); (try clear p93); (try clear p97); (try clear p132); (try clear hst); (try clear hstL); (try clear p75); (try clear p1); (try clear p5); (try clear hai); (try clear hai3); (try clear hlt3); (try clear hnb3); (try clear hlt1); (try clear hlt5); (try clear hlt4); (try clear ha97); (try clear g32); (try clear g45); simp only [vp_in_iff, Int32.lt_iff_toInt_lt, Int32.le_iff_toInt_le, ← Int32.toInt_inj, Int32.toInt_add, Int32.toInt_sub, Int32.toInt_mul, Int32.toInt_neg, pq_NuO, pq_NuI, pq_NuJ, pq_NuR, pq_shr6, pq_shr7, pq_shr8, lqm1, lq0, lq1, lq2, lq201, lq402] at *; (try simp (disch := omega) only [pq_bm] at *); all_goals omega)) (fun S5 mo5 hF5 he75 hlt5 => ?_) 1000 _ _ _ hF he7 hlt3 (by focus ((try clear hW); (try clear hWL); (try clear K); (try clear ih); (try clear hlt); (try clear hltL); (try clear hnb); (try clear p93); (try clear p97); (try clear p132); (try clear hst); (try clear hstL); (try clear p75); (try clear p1); (try clear p5); (try clear hai); (try clear hai3); (try clear hlt3); (try clear hnb3); (try clear hlt1); (try clear hlt5); (try clear hlt4); (try clear ha97); (try clear g32); (try clear g45); simp only [vp_in_iff, Int32.lt_iff_toInt_lt, Int32.le_iff_toInt_le, ← Int32.toInt_inj, Int32.toInt_add, Int32.toInt_sub, Int32.toInt_mul, Int32.toInt_neg, pq_NuO, pq_NuI, pq_NuJ, pq_NuR, pq_shr6, pq_shr7, pq_shr8, lqm1, lq0, lq1, lq2, lq201, lq402] at *; (try simp (disch := omega) only [pq_bm] at *); all_goals omega)) (by focus ((try clear hW); (try clear hWL); (try clear K); (try clear ih); (try clear hlt); (try clear hltL); (try clear hnb); (try clear p93); (try clear p97); (try clear p132); (try clear hst); (try clear hstL); (try clear p75); (try clear p1); (try clear p5); (try clear hai); (try clear hai3); (try clear hlt3); (try clear hnb3); (try clear hlt1); (try clear hlt5); (try clear hlt4); (try clear ha97); (try clear g32); (try clear g45); simp only [vp_in_iff, Int32.lt_iff_toInt_lt, Int32.le_iff_toInt_le, ← Int32.toInt_inj, Int32.toInt_add, Int32.toInt_sub, Int32.toInt_mul, Int32.toInt_neg, pq_NuO, pq_NuI, pq_NuJ, pq_NuR, pq_shr6, pq_shr7, pq_shr8, lqm1, lq0, lq1, lq2, lq201, lq402] at *; (try simp (disch := omega) only [pq_bm] at *); all_goals omega)) (by focus ((try clear hW); (try clear hWL); (try clear K); (try clear ih); (try clear hlt); (try clear hltL); (try clear hnb); (try clear p93); (try clear p97); (try clear p132); (try clear hst); (try clear hstL); (try clear p75); (try clear p1); (try clear p5); (try clear hai); (try clear hai3); (try clear hlt3); (try clear hnb3); (try clear hlt1); (try clear hlt5); (try clear hlt4); (try clear ha97); (try clear g32); (try clear g45); simp only [vp_in_iff, Int32.lt_iff_toInt_lt, Int32.le_iff_toInt_le, ← Int32.toInt_inj, Int32.toInt_add, Int32.toInt_sub, Int32.toInt_mul, Int32.toInt_neg, pq_NuO, pq_NuI, pq_NuJ, pq_NuR, pq_shr6, pq_shr7, pq_shr8, lqm1, lq0, lq1, lq2, lq201, lq402] at *; (try simp (disch := omega) only [pq_bm] at *); all_goals omega)))
          have ha5 := hF5.R ha (by decide)
          refine pq_iinc (v := 1) F dX4_mergeAll_86 rfl (by decide) (by decide) ?_
          refine pq_goto (tgt := 22) F dX4_mergeAll_89 (by decide) ?_
          exact pq_fgm [true, true, true, false] (ih _ _ (rd + 1) hF5 he75 hlt5 (by focus ((try clear hW); (try clear hWL); (try clear K); (try clear ih); (try clear hlt); (try clear hltL); (try clear hnb); (try clear p93); (try clear p97); (try clear p132); (try clear hst); (try clear hstL); (try clear p75); (try clear p1); (try clear p5); (try clear hai); (try clear hai3); (try clear hlt3); (try clear hnb3); (try clear hlt1); (try clear hlt5); (try clear hlt4); (try clear ha97); (try clear g32); (try clear g45); simp only [vp_in_iff, Int32.lt_iff_toInt_lt, Int32.le_iff_toInt_le, ← Int32.toInt_inj, Int32.toInt_add, Int32.toInt_sub, Int32.toInt_mul, Int32.toInt_neg, pq_NuO, pq_NuI, pq_NuJ, pq_NuR, pq_shr6, pq_shr7, pq_shr8, lqm1, lq0, lq1, lq2, lq201, lq402] at *; (try simp (disch := omega) only [pq_bm] at *); all_goals omega)) (by focus ((try clear hW); (try clear hWL); (try clear K); (try clear ih); (try clear hlt); (try clear hltL); (try clear hnb); (try clear p93); (try clear p97); (try clear p132); (try clear hst); (try clear hstL); (try clear p75); (try clear p1); (try clear p5); (try clear hai); (try clear hai3); (try clear hlt3); (try clear hnb3); (try clear hlt1); (try clear hlt5); (try clear hlt4); (try clear ha97); (try clear g32); (try clear g45); simp only [vp_in_iff, Int32.lt_iff_toInt_lt, Int32.le_iff_toInt_le, ← Int32.toInt_inj, Int32.toInt_add, Int32.toInt_sub, Int32.toInt_mul, Int32.toInt_neg, pq_NuO, pq_NuI, pq_NuJ, pq_NuR, pq_shr6, pq_shr7, pq_shr8, lqm1, lq0, lq1, lq2, lq201, lq402] at *; (try simp (disch := omega) only [pq_bm] at *); all_goals omega)))
  refine pq_aload_n F dX4_mergeAll_0 rfl rfl ?_
  refine pq_callV (As := []) F (k_X4_beginBlocksY l D cy _ _ ?_ wk kd st e0 hwk hW bo e1 hbo) ml_X4_37 ha (by decide) rfl (Nat.le_of_ble_eq_true rfl) ⟨Nat.le_of_ble_eq_true rfl, Nat.le_of_ble_eq_true rfl⟩ ⟨by decide, by decide⟩ dX4_mergeAll_1 (fun v1 S1 w1 => ?_)
  · exact ha
  obtain ⟨rfl, hF1, p1⟩ := w1
  have ha_1 := (hF1.1 _ _ ha (by decide)).1
  have hwk_1 := (hF1.1 _ _ hwk (by decide)).1
  have ec1_0_ha_1 := hF1.O ha (by decide) (by decide) e0
  have hz_1 := (hF1.1 _ _ hW.hk (by decide)).1
  have ec1_1_hwk_1 := hF1.O hwk (by decide) (by decide) hW.e1
  have ec1_3_hz_1 := hF1.O hW.hk (by decide) (by decide) hW.en
  have hz_1z := (hF1.1 _ _ hW.hs (by decide)).1
  have ec1_6_hwk_1 := hF1.O hwk (by decide) (by decide) hW.e6
  have ec1_7_hwk_1 := hF1.O hwk (by decide) (by decide) hW.e7
  have hbo_1 := (hF1.1 _ _ hbo (by decide)).1
  have ec1_1_ha_1 := hF1.O ha (by decide) (by decide) e1
  have hnbR_1 := (hF1.1 _ _ hnbR (by decide)).1
  have ec1_2_ha_1 := hF1.O ha (by decide) (by decide) e2
  have ham_1 := (hF1.1 _ _ ham (by decide)).1
  have ec1_3_ha_1 := hF1.O ha (by decide) (by decide) e3
  have hnpR_1 := (hF1.1 _ _ hnpR (by decide)).1
  have ec1_4_ha_1 := hF1.O ha (by decide) (by decide) e4
  obtain ⟨e71, hlt1⟩ := p1
  refine pq_aload_n F dX4_mergeAll_4 rfl rfl ?_
  refine pq_callV (As := []) F (k_X4_findKindsInto l D cy _ _ ?_ wk kd st 1 2 (hF1.O ha (by decide) (by decide) e0) (hF1.R hwk (by decide)) (hW.fr hwk hF1 (by decide))) ml_X4_40 ha_1 (by decide) rfl (Nat.le_of_ble_eq_true rfl) ⟨Nat.le_of_ble_eq_true rfl, Nat.le_of_ble_eq_true rfl⟩ ⟨by decide, by decide⟩ dX4_mergeAll_5 (fun v5 S5 w5 => ?_)
  · exact ha_1
  obtain ⟨rfl, hF5⟩ := w5
  have ha_5 := (hF5.1 _ _ ha_1 (by decide)).1
  have hwk_5 := (hF5.1 _ _ hwk_1 (by decide)).1
  have ec5_0_ha_5 := hF5.O ha_1 (by decide) (by decide) ec1_0_ha_1
  have hz_5 := (hF5.1 _ _ hz_1 (by decide)).1
  have ec5_1_hwk_5 := hF5.O hwk_1 (by decide) (by decide) ec1_1_hwk_1
  have ec5_3_hz_5 := hF5.O hz_1 (by decide) (by decide) ec1_3_hz_1
  have hz_1z_5 := (hF5.1 _ _ hz_1z (by decide)).1
  have ec5_6_hwk_5 := hF5.O hwk_1 (by decide) (by decide) ec1_6_hwk_1
  have ec5_7_hwk_5 := hF5.O hwk_1 (by decide) (by decide) ec1_7_hwk_1
  have hbo_5 := (hF5.1 _ _ hbo_1 (by decide)).1
  have ec5_1_ha_5 := hF5.O ha_1 (by decide) (by decide) ec1_1_ha_1
  have hnbR_5 := (hF5.1 _ _ hnbR_1 (by decide)).1
  have ec5_2_ha_5 := hF5.O ha_1 (by decide) (by decide) ec1_2_ha_1
  have ham_5 := (hF5.1 _ _ ham_1 (by decide)).1
  have ec5_3_ha_5 := hF5.O ha_1 (by decide) (by decide) ec1_3_ha_1
  have hnpR_5 := (hF5.1 _ _ hnpR_1 (by decide)).1
  have ec5_4_ha_5 := hF5.O ha_1 (by decide) (by decide) ec1_4_ha_1
  have e75 := hF5.O ha_1 (by decide) (by decide) e71
  have hlt5 : pq_lt (hI S5 bo) 2 1 := (by rw [hF5.I (hF1.R hbo (by decide)) (by decide) (by decide)]; exact hlt1)
  refine pq_aload_n F dX4_mergeAll_8 rfl rfl ?_
  refine pq_getR F ha_5 (by decide) lk_X4_30 rfl dX4_mergeAll_9 (fun r9 e9 h9 => ?_)
  refine pq_ldc2 F lc_X4_43 dX4_mergeAll_12 ?_
  refine pq_lenF h9 (by decide) rfl (fun lna15_0 lnb15_0 => ?_)
  refine pq_callS (As := [_, _]) F (k_J7_fill_d0a16 l D cy _ _ 193 ?_ ?_ ?_ _ ?_) ml_X4_45 (Nat.le_of_ble_eq_true rfl) ⟨Nat.le_of_ble_eq_true rfl, Nat.le_of_ble_eq_true rfl⟩ ⟨by decide, by decide⟩ dX4_mergeAll_15 (fun v15 S15 w15 => ?_)
  · exact h9
  · first | decide | omega
  · first | decide | omega
  · focus ((try clear hW); (try clear hWL); (try clear K); (try clear ih); (try clear hlt); (try clear hltL); (try clear hnb); (try clear p93); (try clear p97); (try clear p132); (try clear hst); (try clear hstL); (try clear p75); (try clear p1); (try clear p5); (try clear hai); (try clear hai3); (try clear hlt3); (try clear hnb3); (try clear hlt1); (try clear hlt5); (try clear hlt4); (try clear ha97); (try clear g32); (try clear g45); simp only [vp_in_iff, Int32.lt_iff_toInt_lt, Int32.le_iff_toInt_le, ← Int32.toInt_inj, Int32.toInt_add, Int32.toInt_sub, Int32.toInt_mul, Int32.toInt_neg, pq_NuO, pq_NuI, pq_NuJ, pq_NuR, pq_shr6, pq_shr7, pq_shr8, lqm1, lq0, lq1, lq2, lq201, lq402] at *; (try simp (disch := omega) only [pq_bm] at *); all_goals omega)
  obtain ⟨rfl, f15, rfl, g15⟩ := w15
  refine pq_iconst (v := 1) F dX4_mergeAll_18 (by decide) ?_
  refine pq_istore_n F dX4_mergeAll_19 rfl (by decide) ?_
  refine pq_iconst (v := 0) F dX4_mergeAll_20 (by decide) ?_
  refine pq_istore_n F dX4_mergeAll_21 rfl (by decide) ?_
  exact pq_fgm [true, true, true, false] (L22 1000 _ _ 0 (((pq_Fr.rf.cm hF1 (by decide)).cm hF5 (by decide)).uJ h9 (by first | decide | exact List.mem_cons_self)) e75 hlt5 (by focus ((try clear hW); (try clear hWL); (try clear K); (try clear ih); (try clear hlt); (try clear hltL); (try clear hnb); (try clear p93); (try clear p97); (try clear p132); (try clear hst); (try clear hstL); (try clear p75); (try clear p1); (try clear p5); (try clear hai); (try clear hai3); (try clear hlt3); (try clear hnb3); (try clear hlt1); (try clear hlt5); (try clear hlt4); (try clear ha97); (try clear g32); (try clear g45); simp only [vp_in_iff, Int32.lt_iff_toInt_lt, Int32.le_iff_toInt_le, ← Int32.toInt_inj, Int32.toInt_add, Int32.toInt_sub, Int32.toInt_mul, Int32.toInt_neg, pq_NuO, pq_NuI, pq_NuJ, pq_NuR, pq_shr6, pq_shr7, pq_shr8, lqm1, lq0, lq1, lq2, lq201, lq402] at *; (try simp (disch := omega) only [pq_bm] at *); all_goals omega)) (by focus ((try clear hW); (try clear hWL); (try clear K); (try clear ih); (try clear hlt); (try clear hltL); (try clear hnb); (try clear p93); (try clear p97); (try clear p132); (try clear hst); (try clear hstL); (try clear p75); (try clear p1); (try clear p5); (try clear hai); (try clear hai3); (try clear hlt3); (try clear hnb3); (try clear hlt1); (try clear hlt5); (try clear hlt4); (try clear ha97); (try clear g32); (try clear g45); simp only [vp_in_iff, Int32.lt_iff_toInt_lt, Int32.le_iff_toInt_le, ← Int32.toInt_inj, Int32.toInt_add, Int32.toInt_sub, Int32.toInt_mul, Int32.toInt_neg, pq_NuO, pq_NuI, pq_NuJ, pq_NuR, pq_shr6, pq_shr7, pq_shr8, lqm1, lq0, lq1, lq2, lq201, lq402] at *; (try simp (disch := omega) only [pq_bm] at *); all_goals omega)))

set_option maxHeartbeats 4000000 in
set_option maxRecDepth 100000 in
theorem k_X0_liveYA (l : Launch) (D : va_G) (cy : Nat → ClassId) (S : HS) (a : Nat) (ha : pq_R S a 3) (e5 : hO S a 5 = .int 1) : pq_C l D cy yX0_liveStates cX0_liveStates 1 (some .int) 1 0 0 S [.ref a] (fun v S2 => S2 = S ∧ ∃ x : Int32, v = some (.int x) ∧ (x = 0)) := by
  refine pq_start (by decide) (Nat.le_of_ble_eq_true rfl) ?_
  intro p e s m args below meth c A F hr hlk hnm hA
  have lqm1 : (-1 : Int32).toInt = -1 := rfl
  have lq0 : (0 : Int32).toInt = 0 := rfl
  have lq1 : (1 : Int32).toInt = 1 := rfl
  refine pq_aload_n F dX0_liveStates_0 rfl rfl ?_
  refine pq_get F ha (by decide) lk_X0_31 e5 dX0_liveStates_1 ?_
  refine pq_iconst (v := 1) F dX0_liveStates_4 (by decide) ?_
  refine pq_isub F dX0_liveStates_5 ?_
  exact pq_iret F hr hlk hA (Nat.le_refl _) (Nat.le_refl _) (⟨rfl, _, rfl, rfl⟩) dX0_liveStates_6

set_option maxHeartbeats 4000000 in
set_option maxRecDepth 100000 in
theorem k_X0_liveYB (l : Launch) (D : va_G) (cy : Nat → ClassId) (S : HS) (a : Nat) (ha : pq_R S a 33) (e5 : hO S a 5 = .int 1) : pq_C l D cy yX0_liveStates cX0_liveStates 1 (some .int) 1 0 0 S [.ref a] (fun v S2 => S2 = S ∧ ∃ x : Int32, v = some (.int x) ∧ (x = 0)) := by
  refine pq_start (by decide) (Nat.le_of_ble_eq_true rfl) ?_
  intro p e s m args below meth c A F hr hlk hnm hA
  have lqm1 : (-1 : Int32).toInt = -1 := rfl
  have lq0 : (0 : Int32).toInt = 0 := rfl
  have lq1 : (1 : Int32).toInt = 1 := rfl
  refine pq_aload_n F dX0_liveStates_0 rfl rfl ?_
  refine pq_get F ha (by decide) lk_X0_31 e5 dX0_liveStates_1 ?_
  refine pq_iconst (v := 1) F dX0_liveStates_4 (by decide) ?_
  refine pq_isub F dX0_liveStates_5 ?_
  exact pq_iret F hr hlk hA (Nat.le_refl _) (Nat.le_refl _) (⟨rfl, _, rfl, rfl⟩) dX0_liveStates_6

