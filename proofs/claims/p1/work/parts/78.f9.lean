set_option maxHeartbeats 4000000 in
set_option maxRecDepth 100000 in
theorem k_X11_setF (l : Launch) (D : va_G) (cy : Nat → ClassId) (S : HS) (a : Nat) (ha : pq_R S a 14) (wi : Int32) (en le si st ao aa : Nat) (xs : Int32) (hZ : pf_Z S a en le si st ao aa xs) : pq_C l D cy yX11_set cX11_set 4 (some .int) 7 0 0 S [.ref a, .int wi] (fun v S2 => pq_Fr [(200, 0), (122, 0), (123, 0), (124, 0), (14, 10), (14, 4), (14, 5), (14, 6), (120, 0), (121, 0), (14, 9), (131, 0), (14, 20), (182, 0), (132, 0), (14, 23), (14, 24), (127, 0), (128, 0), (14, 26), (14, 31), (125, 0), (126, 0), (183, 0), (201, 0), (133, 0), (134, 0), (135, 0), (14, 36), (137, 0), (202, 0), (136, 0), (14, 1), (14, 2), (14, 3)] S S2 ∧ ∃ x : Int32, v = some (.int x) ∧ (((wi = 0 ∨ wi = 1) ∧ x = 0 ∧ hO S2 a 3 = .int 0) ∨ ((¬ wi = 0 ∧ ¬ wi = 1) ∧ hO S2 a 3 = .int 1))) := by
  refine pq_start (by decide) (Nat.le_of_ble_eq_true rfl) ?_
  intro p e s m args below meth c A F hr hlk hnm hA
  have lqm2 : (-2 : Int32).toInt = -2 := rfl
  have lqm1 : (-1 : Int32).toInt = -1 := rfl
  have lq0 : (0 : Int32).toInt = 0 := rfl
  have lq1 : (1 : Int32).toInt = 1 := rfl
  have lq2 : (2 : Int32).toInt = 2 := rfl
  have lq3 : (3 : Int32).toInt = 3 := rfl
  obtain ⟨⟨⟨f39, hen⟩, ⟨f37, hle⟩, ⟨f38, hsi⟩, ⟨f21, hst⟩, ⟨f4, hao⟩, f5, haa⟩, ⟨f1, f2, f41⟩, ⟨f23, ⟨hx0, hx1⟩, hs0, hsm⟩, ⟨⟨en0, en1, en2⟩, en3, en4, en5⟩, le2, si0, si1⟩ := hZ
  refine pq_refF ha (by decide) (show pq_ft 14 13 = (122 + 3, 0, 0) from rfl) (fun gr f13 hgr => ?_)
  refine pq_refF ha (by decide) (show pq_ft 14 14 = (123 + 3, 0, 0) from rfl) (fun co f14 hco => ?_)
  refine pq_refF ha (by decide) (show pq_ft 14 15 = (124 + 3, 0, 0) from rfl) (fun ch f15 hch => ?_)
  refine pq_refF ha (by decide) (show pq_ft 14 16 = (200 + 3, 0, 0) from rfl) (fun hm f16 hhm => ?_)
  refine pq_refF ha (by decide) (show pq_ft 14 17 = (182 + 3, 0, 0) from rfl) (fun se f17 hse => ?_)
  refine pq_refF ha (by decide) (show pq_ft 14 18 = (125 + 3, 0, 0) from rfl) (fun lb f18 hlb => ?_)
  refine pq_refF ha (by decide) (show pq_ft 14 19 = (126 + 3, 0, 0) from rfl) (fun nx f19 hnx => ?_)
  refine pq_refF ha (by decide) (show pq_ft 14 22 = (128 + 3, 0, 0) from rfl) (fun sk f22 hsk => ?_)
  refine pq_refF ha (by decide) (show pq_ft 14 28 = (183 + 3, 0, 0) from rfl) (fun bt f28 hbt => ?_)
  refine pq_refF ha (by decide) (show pq_ft 14 29 = (131 + 3, 0, 0) from rfl) (fun hd f29 hhd => ?_)
  refine pq_refF ha (by decide) (show pq_ft 14 30 = (132 + 3, 0, 0) from rfl) (fun ac f30 hac => ?_)
  refine pq_refF ha (by decide) (show pq_ft 14 32 = (201 + 3, 0, 0) from rfl) (fun lv f32 hlv => ?_)
  refine pq_refF ha (by decide) (show pq_ft 14 33 = (133 + 3, 0, 0) from rfl) (fun kd f33 hkd => ?_)
  refine pq_refF ha (by decide) (show pq_ft 14 34 = (134 + 3, 0, 0) from rfl) (fun nk f34 hnk => ?_)
  refine pq_aload_n F dX11_set_0 rfl rfl ?_
  (refine pq_callV (As := []) F (k_X11_take l D cy _ _ (by exact ha)) ml_X11_273 ha (by decide) rfl (Nat.le_of_ble_eq_true rfl) ⟨Nat.le_of_ble_eq_true rfl, Nat.le_of_ble_eq_true rfl⟩ ⟨by decide, by decide⟩ dX11_set_1 (fun v1 S1 w1 => ?_); obtain ⟨rfl, rfl⟩ := w1; rw [f1])
  refine pq_istore_n F dX11_set_4 rfl (by decide) ?_
  refine pq_iload_n F dX11_set_5 rfl rfl ?_
  refine pq_if_eq (tgt := 20) F dX11_set_6 (by decide) (fun c6 => ?_) (fun c6 => ?_)
  · skip
    refine pq_aload_n F dX11_set_20 rfl rfl ?_
    refine pq_iconst (v := -1) F dX11_set_21 (by decide) ?_
    refine pq_putI F ha (by decide) lp_X11_214 rfl (pq_any1 _) (pq_any2 _) dX11_set_22 ?_
    refine pq_aload_n F dX11_set_25 rfl rfl ?_
    refine pq_iload_n F dX11_set_26 rfl rfl ?_
    refine pq_iload_n F dX11_set_27 rfl rfl ?_
    refine pq_callV (As := [_, _]) F (k_X11_parsedF l D cy _ _ ?_ _ ?_ ?_ _ ao aa gr co ch hm se lb nx st sk bt hd ac lv kd nk le si en xs (pq_kp (pq_kp (pq_kp f4 (by decide)) (by decide)) (by decide)) hao (pq_kp (pq_kp (pq_kp f5 (by decide)) (by decide)) (by decide)) haa (pq_kp (pq_kp (pq_kp f13 (by decide)) (by decide)) (by decide)) hgr (pq_kp (pq_kp (pq_kp f14 (by decide)) (by decide)) (by decide)) hco (pq_kp (pq_kp (pq_kp f15 (by decide)) (by decide)) (by decide)) hch (pq_kp (pq_kp (pq_kp f16 (by decide)) (by decide)) (by decide)) hhm (pq_kp (pq_kp (pq_kp f17 (by decide)) (by decide)) (by decide)) hse (pq_kp (pq_kp (pq_kp f18 (by decide)) (by decide)) (by decide)) hlb (pq_kp (pq_kp (pq_kp f19 (by decide)) (by decide)) (by decide)) hnx (pq_kp (pq_kp (pq_kp f21 (by decide)) (by decide)) (by decide)) hst (pq_kp (pq_kp (pq_kp f22 (by decide)) (by decide)) (by decide)) hsk (pq_kp (pq_kp (pq_kp f28 (by decide)) (by decide)) (by decide)) hbt (pq_kp (pq_kp (pq_kp f29 (by decide)) (by decide)) (by decide)) hhd (pq_kp (pq_kp (pq_kp f30 (by decide)) (by decide)) (by decide)) hac (pq_kp (pq_kp (pq_kp f32 (by decide)) (by decide)) (by decide)) hlv (pq_kp (pq_kp (pq_kp f33 (by decide)) (by decide)) (by decide)) hkd (pq_kp (pq_kp (pq_kp f34 (by decide)) (by decide)) (by decide)) hnk (pq_kp (pq_kp (pq_kp f37 (by decide)) (by decide)) (by decide)) hle (pq_kp (pq_kp (pq_kp f38 (by decide)) (by decide)) (by decide)) hsi (pq_kp (pq_kp (pq_kp f39 (by decide)) (by decide)) (by decide)) hen (pq_kp (pq_kp (pq_kp f23 (by decide)) (by decide)) (by decide)) hx0 (by omega) hs0 hsm rfl) ml_X11_247 ha (by decide) rfl (Nat.le_of_ble_eq_true rfl) ⟨Nat.le_of_ble_eq_true rfl, Nat.le_of_ble_eq_true rfl⟩ ⟨by decide, by decide⟩ dX11_set_28 (fun v28 S28 w28 => ?_)
    · exact ha
    · focus ((try clear le2); (try clear hs0); (try clear p28); (try clear w28b); simp only [vp_in_iff, Int32.lt_iff_toInt_lt, Int32.le_iff_toInt_le, ← Int32.toInt_inj, Int32.toInt_add, Int32.toInt_sub, Int32.toInt_mul, Int32.toInt_neg, pq_NuO, pq_NuI, pq_NuJ, pq_NuR, pq_shr6, pq_shr7, pq_shr8, lqm2, lqm1, lq0, lq1, lq2, lq3] at *; (try simp (disch := omega) only [pq_bm] at *); all_goals omega)
    · focus ((try clear le2); (try clear hs0); (try clear p28); (try clear w28b); simp only [vp_in_iff, Int32.lt_iff_toInt_lt, Int32.le_iff_toInt_le, ← Int32.toInt_inj, Int32.toInt_add, Int32.toInt_sub, Int32.toInt_mul, Int32.toInt_neg, pq_NuO, pq_NuI, pq_NuJ, pq_NuR, pq_shr6, pq_shr7, pq_shr8, lqm2, lqm1, lq0, lq1, lq2, lq3] at *; (try simp (disch := omega) only [pq_bm] at *); all_goals omega)
    obtain ⟨hF28, y28, rfl, p28⟩ := w28
    have ha_28 := (hF28.1 _ _ ha (by decide)).1
    have hgr_28 := (hF28.1 _ _ hgr (by decide)).1
    have ec28_13_ha_28 := hF28.O ha (by decide) (by decide) (pq_kp (pq_kp (pq_kp f13 (by decide)) (by decide)) (by decide))
    have hco_28 := (hF28.1 _ _ hco (by decide)).1
    have ec28_14_ha_28 := hF28.O ha (by decide) (by decide) (pq_kp (pq_kp (pq_kp f14 (by decide)) (by decide)) (by decide))
    have hch_28 := (hF28.1 _ _ hch (by decide)).1
    have ec28_15_ha_28 := hF28.O ha (by decide) (by decide) (pq_kp (pq_kp (pq_kp f15 (by decide)) (by decide)) (by decide))
    have hhm_28 := (hF28.1 _ _ hhm (by decide)).1
    have ec28_16_ha_28 := hF28.O ha (by decide) (by decide) (pq_kp (pq_kp (pq_kp f16 (by decide)) (by decide)) (by decide))
    have hse_28 := (hF28.1 _ _ hse (by decide)).1
    have ec28_17_ha_28 := hF28.O ha (by decide) (by decide) (pq_kp (pq_kp (pq_kp f17 (by decide)) (by decide)) (by decide))
    have hlb_28 := (hF28.1 _ _ hlb (by decide)).1
    have ec28_18_ha_28 := hF28.O ha (by decide) (by decide) (pq_kp (pq_kp (pq_kp f18 (by decide)) (by decide)) (by decide))
    have hnx_28 := (hF28.1 _ _ hnx (by decide)).1
    have ec28_19_ha_28 := hF28.O ha (by decide) (by decide) (pq_kp (pq_kp (pq_kp f19 (by decide)) (by decide)) (by decide))
    have hst_28 := (hF28.1 _ _ hst (by decide)).1
    have ec28_21_ha_28 := hF28.O ha (by decide) (by decide) (pq_kp (pq_kp (pq_kp f21 (by decide)) (by decide)) (by decide))
    have hsk_28 := (hF28.1 _ _ hsk (by decide)).1
    have ec28_22_ha_28 := hF28.O ha (by decide) (by decide) (pq_kp (pq_kp (pq_kp f22 (by decide)) (by decide)) (by decide))
    have hbt_28 := (hF28.1 _ _ hbt (by decide)).1
    have ec28_28_ha_28 := hF28.O ha (by decide) (by decide) (pq_kp (pq_kp (pq_kp f28 (by decide)) (by decide)) (by decide))
    have hhd_28 := (hF28.1 _ _ hhd (by decide)).1
    have ec28_29_ha_28 := hF28.O ha (by decide) (by decide) (pq_kp (pq_kp (pq_kp f29 (by decide)) (by decide)) (by decide))
    have hac_28 := (hF28.1 _ _ hac (by decide)).1
    have ec28_30_ha_28 := hF28.O ha (by decide) (by decide) (pq_kp (pq_kp (pq_kp f30 (by decide)) (by decide)) (by decide))
    have hlv_28 := (hF28.1 _ _ hlv (by decide)).1
    have ec28_32_ha_28 := hF28.O ha (by decide) (by decide) (pq_kp (pq_kp (pq_kp f32 (by decide)) (by decide)) (by decide))
    have hkd_28 := (hF28.1 _ _ hkd (by decide)).1
    have ec28_33_ha_28 := hF28.O ha (by decide) (by decide) (pq_kp (pq_kp (pq_kp f33 (by decide)) (by decide)) (by decide))
    have hnk_28 := (hF28.1 _ _ hnk (by decide)).1
    have ec28_34_ha_28 := hF28.O ha (by decide) (by decide) (pq_kp (pq_kp (pq_kp f34 (by decide)) (by decide)) (by decide))
    have hle_28 := (hF28.1 _ _ hle (by decide)).1
    have ec28_37_ha_28 := hF28.O ha (by decide) (by decide) (pq_kp (pq_kp (pq_kp f37 (by decide)) (by decide)) (by decide))
    have hsi_28 := (hF28.1 _ _ hsi (by decide)).1
    have ec28_38_ha_28 := hF28.O ha (by decide) (by decide) (pq_kp (pq_kp (pq_kp f38 (by decide)) (by decide)) (by decide))
    have hen_28 := (hF28.1 _ _ hen (by decide)).1
    have ec28_39_ha_28 := hF28.O ha (by decide) (by decide) (pq_kp (pq_kp (pq_kp f39 (by decide)) (by decide)) (by decide))
    have ec28_2_ha_28 := hF28.O ha (by decide) (by decide) pq_ks
    have y0 := p28.1
    refine pq_istore_n F dX11_set_31 rfl (by decide) ?_
    refine pq_iload_n F dX11_set_32 rfl rfl ?_
    refine pq_iconst (v := -1) F dX11_set_33 (by decide) ?_
    refine pq_icmp_ne (tgt := 43) F dX11_set_34 (by decide) (fun c34 => ?_) (fun c34 => ?_)
    · skip
      refine pq_iload_n F dX11_set_43 rfl rfl ?_
      refine pq_iconst (v := -1) F dX11_set_44 (by decide) ?_
      refine pq_icmp_ge (tgt := 62) F dX11_set_45 (by decide) (fun c45 => ?_) (fun c45 => ?_)
      · skip
        refine pq_iload_n F dX11_set_62 rfl rfl ?_
        exact pq_iret F hr hlk hA (Nat.le_refl _) (Nat.le_refl _) (⟨((((pq_Fr.rf.uO ha (by decide)).uO ha (by decide)).uO ha (by decide)).cm hF28 (by decide)), _, rfl, Or.inl ⟨Or.inl c6, y0, hF28.O ha (by decide) (by decide) (pq_kp (pq_kp pq_ks (by decide)) (by decide))⟩⟩) dX11_set_63
      · exact False.elim (by focus ((try clear le2); (try clear hs0); (try clear p28); (try clear w28b); simp only [vp_in_iff, Int32.lt_iff_toInt_lt, Int32.le_iff_toInt_le, ← Int32.toInt_inj, Int32.toInt_add, Int32.toInt_sub, Int32.toInt_mul, Int32.toInt_neg, pq_NuO, pq_NuI, pq_NuJ, pq_NuR, pq_shr6, pq_shr7, pq_shr8, lqm2, lqm1, lq0, lq1, lq2, lq3] at *; (try simp (disch := omega) only [pq_bm] at *); all_goals omega))
    · exact absurd (c34.symm.trans y0) (by decide)
  · skip
    refine pq_iload_n F dX11_set_9 rfl rfl ?_
    refine pq_iconst (v := 1) F dX11_set_10 (by decide) ?_
    refine pq_icmp_eq (tgt := 20) F dX11_set_11 (by decide) (fun c11 => ?_) (fun c11 => ?_)
    · skip
      refine pq_aload_n F dX11_set_20 rfl rfl ?_
      refine pq_iconst (v := -1) F dX11_set_21 (by decide) ?_
      refine pq_putI F ha (by decide) lp_X11_214 rfl (pq_any1 _) (pq_any2 _) dX11_set_22 ?_
      refine pq_aload_n F dX11_set_25 rfl rfl ?_
      refine pq_iload_n F dX11_set_26 rfl rfl ?_
      refine pq_iload_n F dX11_set_27 rfl rfl ?_
      refine pq_callV (As := [_, _]) F (k_X11_parsedF l D cy _ _ ?_ _ ?_ ?_ _ ao aa gr co ch hm se lb nx st sk bt hd ac lv kd nk le si en xs (pq_kp (pq_kp (pq_kp f4 (by decide)) (by decide)) (by decide)) hao (pq_kp (pq_kp (pq_kp f5 (by decide)) (by decide)) (by decide)) haa (pq_kp (pq_kp (pq_kp f13 (by decide)) (by decide)) (by decide)) hgr (pq_kp (pq_kp (pq_kp f14 (by decide)) (by decide)) (by decide)) hco (pq_kp (pq_kp (pq_kp f15 (by decide)) (by decide)) (by decide)) hch (pq_kp (pq_kp (pq_kp f16 (by decide)) (by decide)) (by decide)) hhm (pq_kp (pq_kp (pq_kp f17 (by decide)) (by decide)) (by decide)) hse (pq_kp (pq_kp (pq_kp f18 (by decide)) (by decide)) (by decide)) hlb (pq_kp (pq_kp (pq_kp f19 (by decide)) (by decide)) (by decide)) hnx (pq_kp (pq_kp (pq_kp f21 (by decide)) (by decide)) (by decide)) hst (pq_kp (pq_kp (pq_kp f22 (by decide)) (by decide)) (by decide)) hsk (pq_kp (pq_kp (pq_kp f28 (by decide)) (by decide)) (by decide)) hbt (pq_kp (pq_kp (pq_kp f29 (by decide)) (by decide)) (by decide)) hhd (pq_kp (pq_kp (pq_kp f30 (by decide)) (by decide)) (by decide)) hac (pq_kp (pq_kp (pq_kp f32 (by decide)) (by decide)) (by decide)) hlv (pq_kp (pq_kp (pq_kp f33 (by decide)) (by decide)) (by decide)) hkd (pq_kp (pq_kp (pq_kp f34 (by decide)) (by decide)) (by decide)) hnk (pq_kp (pq_kp (pq_kp f37 (by decide)) (by decide)) (by decide)) hle (pq_kp (pq_kp (pq_kp f38 (by decide)) (by decide)) (by decide)) hsi (pq_kp (pq_kp (pq_kp f39 (by decide)) (by decide)) (by decide)) hen (pq_kp (pq_kp (pq_kp f23 (by decide)) (by decide)) (by decide)) hx0 (by omega) hs0 hsm rfl) ml_X11_247 ha (by decide) rfl (Nat.le_of_ble_eq_true rfl) ⟨Nat.le_of_ble_eq_true rfl, Nat.le_of_ble_eq_true rfl⟩ ⟨by decide, by decide⟩ dX11_set_28 (fun v28 S28 w28 => ?_)
      · exact ha
      · focus ((try clear le2); (try clear hs0); (try clear p28); (try clear w28b); simp only [vp_in_iff, Int32.lt_iff_toInt_lt, Int32.le_iff_toInt_le, ← Int32.toInt_inj, Int32.toInt_add, Int32.toInt_sub, Int32.toInt_mul, Int32.toInt_neg, pq_NuO, pq_NuI, pq_NuJ, pq_NuR, pq_shr6, pq_shr7, pq_shr8, lqm2, lqm1, lq0, lq1, lq2, lq3] at *; (try simp (disch := omega) only [pq_bm] at *); all_goals omega)
      · focus ((try clear le2); (try clear hs0); (try clear p28); (try clear w28b); simp only [vp_in_iff, Int32.lt_iff_toInt_lt, Int32.le_iff_toInt_le, ← Int32.toInt_inj, Int32.toInt_add, Int32.toInt_sub, Int32.toInt_mul, Int32.toInt_neg, pq_NuO, pq_NuI, pq_NuJ, pq_NuR, pq_shr6, pq_shr7, pq_shr8, lqm2, lqm1, lq0, lq1, lq2, lq3] at *; (try simp (disch := omega) only [pq_bm] at *); all_goals omega)
      obtain ⟨hF28, y28, rfl, p28⟩ := w28
      have ha_28 := (hF28.1 _ _ ha (by decide)).1
      have hgr_28 := (hF28.1 _ _ hgr (by decide)).1
      have ec28_13_ha_28 := hF28.O ha (by decide) (by decide) (pq_kp (pq_kp (pq_kp f13 (by decide)) (by decide)) (by decide))
      have hco_28 := (hF28.1 _ _ hco (by decide)).1
      have ec28_14_ha_28 := hF28.O ha (by decide) (by decide) (pq_kp (pq_kp (pq_kp f14 (by decide)) (by decide)) (by decide))
      have hch_28 := (hF28.1 _ _ hch (by decide)).1
      have ec28_15_ha_28 := hF28.O ha (by decide) (by decide) (pq_kp (pq_kp (pq_kp f15 (by decide)) (by decide)) (by decide))
      have hhm_28 := (hF28.1 _ _ hhm (by decide)).1
      have ec28_16_ha_28 := hF28.O ha (by decide) (by decide) (pq_kp (pq_kp (pq_kp f16 (by decide)) (by decide)) (by decide))
      have hse_28 := (hF28.1 _ _ hse (by decide)).1
      have ec28_17_ha_28 := hF28.O ha (by decide) (by decide) (pq_kp (pq_kp (pq_kp f17 (by decide)) (by decide)) (by decide))
      have hlb_28 := (hF28.1 _ _ hlb (by decide)).1
      have ec28_18_ha_28 := hF28.O ha (by decide) (by decide) (pq_kp (pq_kp (pq_kp f18 (by decide)) (by decide)) (by decide))
      have hnx_28 := (hF28.1 _ _ hnx (by decide)).1
      have ec28_19_ha_28 := hF28.O ha (by decide) (by decide) (pq_kp (pq_kp (pq_kp f19 (by decide)) (by decide)) (by decide))
      have hst_28 := (hF28.1 _ _ hst (by decide)).1
      have ec28_21_ha_28 := hF28.O ha (by decide) (by decide) (pq_kp (pq_kp (pq_kp f21 (by decide)) (by decide)) (by decide))
      have hsk_28 := (hF28.1 _ _ hsk (by decide)).1
      have ec28_22_ha_28 := hF28.O ha (by decide) (by decide) (pq_kp (pq_kp (pq_kp f22 (by decide)) (by decide)) (by decide))
      have hbt_28 := (hF28.1 _ _ hbt (by decide)).1
      have ec28_28_ha_28 := hF28.O ha (by decide) (by decide) (pq_kp (pq_kp (pq_kp f28 (by decide)) (by decide)) (by decide))
      have hhd_28 := (hF28.1 _ _ hhd (by decide)).1
      have ec28_29_ha_28 := hF28.O ha (by decide) (by decide) (pq_kp (pq_kp (pq_kp f29 (by decide)) (by decide)) (by decide))
      have hac_28 := (hF28.1 _ _ hac (by decide)).1
      have ec28_30_ha_28 := hF28.O ha (by decide) (by decide) (pq_kp (pq_kp (pq_kp f30 (by decide)) (by decide)) (by decide))
      have hlv_28 := (hF28.1 _ _ hlv (by decide)).1
      have ec28_32_ha_28 := hF28.O ha (by decide) (by decide) (pq_kp (pq_kp (pq_kp f32 (by decide)) (by decide)) (by decide))
      have hkd_28 := (hF28.1 _ _ hkd (by decide)).1
      have ec28_33_ha_28 := hF28.O ha (by decide) (by decide) (pq_kp (pq_kp (pq_kp f33 (by decide)) (by decide)) (by decide))
      have hnk_28 := (hF28.1 _ _ hnk (by decide)).1
      have ec28_34_ha_28 := hF28.O ha (by decide) (by decide) (pq_kp (pq_kp (pq_kp f34 (by decide)) (by decide)) (by decide))
      have hle_28 := (hF28.1 _ _ hle (by decide)).1
      have ec28_37_ha_28 := hF28.O ha (by decide) (by decide) (pq_kp (pq_kp (pq_kp f37 (by decide)) (by decide)) (by decide))
      have hsi_28 := (hF28.1 _ _ hsi (by decide)).1
      have ec28_38_ha_28 := hF28.O ha (by decide) (by decide) (pq_kp (pq_kp (pq_kp f38 (by decide)) (by decide)) (by decide))
      have hen_28 := (hF28.1 _ _ hen (by decide)).1
      have ec28_39_ha_28 := hF28.O ha (by decide) (by decide) (pq_kp (pq_kp (pq_kp f39 (by decide)) (by decide)) (by decide))
      have ec28_2_ha_28 := hF28.O ha (by decide) (by decide) pq_ks
      have y0 := p28.1
      refine pq_istore_n F dX11_set_31 rfl (by decide) ?_
      refine pq_iload_n F dX11_set_32 rfl rfl ?_
      refine pq_iconst (v := -1) F dX11_set_33 (by decide) ?_
      refine pq_icmp_ne (tgt := 43) F dX11_set_34 (by decide) (fun c34 => ?_) (fun c34 => ?_)
      · skip
        refine pq_iload_n F dX11_set_43 rfl rfl ?_
        refine pq_iconst (v := -1) F dX11_set_44 (by decide) ?_
        refine pq_icmp_ge (tgt := 62) F dX11_set_45 (by decide) (fun c45 => ?_) (fun c45 => ?_)
        · skip
          refine pq_iload_n F dX11_set_62 rfl rfl ?_
          exact pq_iret F hr hlk hA (Nat.le_refl _) (Nat.le_refl _) (⟨((((pq_Fr.rf.uO ha (by decide)).uO ha (by decide)).uO ha (by decide)).cm hF28 (by decide)), _, rfl, Or.inl ⟨Or.inr c11, y0, hF28.O ha (by decide) (by decide) (pq_kp (pq_kp pq_ks (by decide)) (by decide))⟩⟩) dX11_set_63
        · exact False.elim (by focus ((try clear le2); (try clear hs0); (try clear p28); (try clear w28b); simp only [vp_in_iff, Int32.lt_iff_toInt_lt, Int32.le_iff_toInt_le, ← Int32.toInt_inj, Int32.toInt_add, Int32.toInt_sub, Int32.toInt_mul, Int32.toInt_neg, pq_NuO, pq_NuI, pq_NuJ, pq_NuR, pq_shr6, pq_shr7, pq_shr8, lqm2, lqm1, lq0, lq1, lq2, lq3] at *; (try simp (disch := omega) only [pq_bm] at *); all_goals omega))
      · exact absurd (c34.symm.trans y0) (by decide)
    · skip
      refine pq_aload_n F dX11_set_14 rfl rfl ?_
      refine pq_iconst (v := 1) F dX11_set_15 (by decide) ?_
      (refine pq_callV (As := [_]) F (k_X11_refuse l D cy _ _ (by exact ha) _) ml_X11_267 ha (by decide) rfl (Nat.le_of_ble_eq_true rfl) ⟨Nat.le_of_ble_eq_true rfl, Nat.le_of_ble_eq_true rfl⟩ ⟨by decide, by decide⟩ dX11_set_16 (fun v16 S16 w16 => ?_); obtain ⟨rfl, rfl⟩ := w16)
      exact pq_iret F hr hlk hA (Nat.le_refl _) (Nat.le_refl _) (⟨(((pq_Fr.rf.uO ha (by decide)).uO ha (by decide)).uO ha (by decide)), _, rfl, Or.inr ⟨⟨c6, c11⟩, pq_ks⟩⟩) dX11_set_19

