set_option maxHeartbeats 4000000 in
set_option maxRecDepth 100000 in
theorem k_X11_feedG (l : Launch) (D : va_G) (cy : Nat → ClassId) (S : HS) (a : Nat) (ha : pq_R S a 14) (pa : Int32) (pb : Int32) (pc : Int32) (pd : Int32) (pe : Int32) (t : Int32) (ht : hO S a 1 = .int t) (tn tb : Nat) (htn : t.toInt = (tn : Int)) (hb1 : tn ≤ 2048) (g0 : hO S a 0 = .ref tb) (hgb : pq_R S tb 100) : pq_C l D cy yX11_feed cX11_feed 6 (some .int) 2 0 0 S [.ref a, .int pa, .int pb, .int pc, .int pd, .int pe] (fun v S2 => pq_Fr [(14, 1), (14, 3), (100, 0)] S S2 ∧ ∃ x : Int32, v = some (.int x) ∧ ((t.toInt ≤ 2028 ∧ hO S2 a 3 = .int 0 ∧ hO S2 a 1 = .int x ∧ x.toInt = t.toInt + 20 ∧ hI S2 tb = tk_fe (hI S tb) tn pa pb pc pd pe) ∨ (2028 < t.toInt ∧ hO S2 a 3 = .int 1 ∧ hO S2 a 1 = .int t ∧ hI S2 tb = hI S tb))) := by
  refine pq_start (by decide) (Nat.le_of_ble_eq_true rfl) ?_
  intro p e s m args below meth c A F hr hlk hnm hA
  have lqm1 : (-1 : Int32).toInt = -1 := rfl
  have lq0 : (0 : Int32).toInt = 0 := rfl
  have lq1 : (1 : Int32).toInt = 1 := rfl
  have lq20 : (20 : Int32).toInt = 20 := rfl
  have lq2048 : (2048 : Int32).toInt = 2048 := rfl
  refine pq_aload_n F dX11_feed_0 rfl rfl ?_
  refine pq_iconst (v := 0) F dX11_feed_1 (by decide) ?_
  refine pq_putI F ha (by decide) lp_X11_3 rfl (pq_any1 _) (pq_any2 _) dX11_feed_2 ?_
  refine pq_aload_n F dX11_feed_5 rfl rfl ?_
  refine pq_get F ha (by decide) lk_X11_264 (pq_kp ht (by decide)) dX11_feed_6 ?_
  refine pq_bipush (v := 20) F dX11_feed_9 (by decide) ?_
  refine pq_iadd F dX11_feed_11 ?_
  refine pq_sipush (v := 2048) F dX11_feed_12 (by decide) ?_
  refine pq_icmp_le (tgt := 24) F dX11_feed_15 (by decide) (fun c15 => ?_) (fun c15 => ?_)
  · skip
    refine pq_aload_n F dX11_feed_24 rfl rfl ?_
    refine pq_iload_n F dX11_feed_25 rfl rfl ?_
    refine pq_callV (As := [_]) F (k_X11_fourG l D cy _ _ ?_ _ t tn tb (pq_kp ht (by decide)) htn ?_ (pq_kp g0 (by decide)) hgb) ml_X11_270 ha (by decide) rfl (Nat.le_of_ble_eq_true rfl) ⟨Nat.le_of_ble_eq_true rfl, Nat.le_of_ble_eq_true rfl⟩ ⟨by decide, by decide⟩ dX11_feed_26 (fun v26 S26 w26 => ?_)
    · exact ha
    · focus ((try clear p26); (try clear p31); (try clear p36); (try clear p42); (try clear p48); (try clear b26); (try clear b31); (try clear b36); (try clear b42); (try clear b48); simp only [vp_in_iff, Int32.lt_iff_toInt_lt, Int32.le_iff_toInt_le, ← Int32.toInt_inj, Int32.toInt_add, Int32.toInt_sub, Int32.toInt_mul, Int32.toInt_neg, pq_NuO, pq_NuI, pq_NuJ, pq_NuR, pq_shr6, pq_shr7, pq_shr8, lqm1, lq0, lq1, lq20, lq2048] at *; (try simp (disch := omega) only [pq_bm] at *); all_goals omega)
    obtain ⟨rfl, hF26, p26⟩ := w26
    have ha_26 := (hF26.1 _ _ ha (by decide)).1
    have hgb_26 := (hF26.1 _ _ hgb (by decide)).1
    have ec26_0_ha_26 := hF26.O ha (by decide) (by decide) (pq_kp g0 (by decide))
    have ec26_3_ha_26 := hF26.O ha (by decide) (by decide) pq_ks
    obtain ⟨t26, e26, h26, b26⟩ := p26
    refine pq_aload_n F dX11_feed_29 rfl rfl ?_
    refine pq_iload_n F dX11_feed_30 rfl rfl ?_
    refine pq_callV (As := [_]) F (k_X11_fourG l D cy _ _ ?_ _ t26 (tn + 4) tb e26 h26 ?_ ec26_0_ha_26 hgb_26) ml_X11_270 ha_26 (by decide) rfl (Nat.le_of_ble_eq_true rfl) ⟨Nat.le_of_ble_eq_true rfl, Nat.le_of_ble_eq_true rfl⟩ ⟨by decide, by decide⟩ dX11_feed_31 (fun v31 S31 w31 => ?_)
    · exact ha_26
    · focus ((try clear p26); (try clear p31); (try clear p36); (try clear p42); (try clear p48); (try clear b26); (try clear b31); (try clear b36); (try clear b42); (try clear b48); simp only [vp_in_iff, Int32.lt_iff_toInt_lt, Int32.le_iff_toInt_le, ← Int32.toInt_inj, Int32.toInt_add, Int32.toInt_sub, Int32.toInt_mul, Int32.toInt_neg, pq_NuO, pq_NuI, pq_NuJ, pq_NuR, pq_shr6, pq_shr7, pq_shr8, lqm1, lq0, lq1, lq20, lq2048] at *; (try simp (disch := omega) only [pq_bm] at *); all_goals omega)
    obtain ⟨rfl, hF31, p31⟩ := w31
    have ha_31 := (hF31.1 _ _ ha_26 (by decide)).1
    have hgb_31 := (hF31.1 _ _ hgb_26 (by decide)).1
    have ec31_0_ha_31 := hF31.O ha_26 (by decide) (by decide) ec26_0_ha_26
    have ec31_3_ha_31 := hF31.O ha_26 (by decide) (by decide) ec26_3_ha_26
    obtain ⟨t31, e31, h31, b31⟩ := p31
    refine pq_aload_n F dX11_feed_34 rfl rfl ?_
    refine pq_iload_n F dX11_feed_35 rfl rfl ?_
    refine pq_callV (As := [_]) F (k_X11_fourG l D cy _ _ ?_ _ t31 (tn + 8) tb e31 h31 ?_ ec31_0_ha_31 hgb_31) ml_X11_270 ha_31 (by decide) rfl (Nat.le_of_ble_eq_true rfl) ⟨Nat.le_of_ble_eq_true rfl, Nat.le_of_ble_eq_true rfl⟩ ⟨by decide, by decide⟩ dX11_feed_36 (fun v36 S36 w36 => ?_)
    · exact ha_31
    · focus ((try clear p26); (try clear p31); (try clear p36); (try clear p42); (try clear p48); (try clear b26); (try clear b31); (try clear b36); (try clear b42); (try clear b48); simp only [vp_in_iff, Int32.lt_iff_toInt_lt, Int32.le_iff_toInt_le, ← Int32.toInt_inj, Int32.toInt_add, Int32.toInt_sub, Int32.toInt_mul, Int32.toInt_neg, pq_NuO, pq_NuI, pq_NuJ, pq_NuR, pq_shr6, pq_shr7, pq_shr8, lqm1, lq0, lq1, lq20, lq2048] at *; (try simp (disch := omega) only [pq_bm] at *); all_goals omega)
    obtain ⟨rfl, hF36, p36⟩ := w36
    have ha_36 := (hF36.1 _ _ ha_31 (by decide)).1
    have hgb_36 := (hF36.1 _ _ hgb_31 (by decide)).1
    have ec36_0_ha_36 := hF36.O ha_31 (by decide) (by decide) ec31_0_ha_31
    have ec36_3_ha_36 := hF36.O ha_31 (by decide) (by decide) ec31_3_ha_31
    obtain ⟨t36, e36, h36, b36⟩ := p36
    refine pq_aload_n F dX11_feed_39 rfl rfl ?_
    refine pq_iload F dX11_feed_40 rfl ?_
    refine pq_callV (As := [_]) F (k_X11_fourG l D cy _ _ ?_ _ t36 (tn + 12) tb e36 h36 ?_ ec36_0_ha_36 hgb_36) ml_X11_270 ha_36 (by decide) rfl (Nat.le_of_ble_eq_true rfl) ⟨Nat.le_of_ble_eq_true rfl, Nat.le_of_ble_eq_true rfl⟩ ⟨by decide, by decide⟩ dX11_feed_42 (fun v42 S42 w42 => ?_)
    · exact ha_36
    · focus ((try clear p26); (try clear p31); (try clear p36); (try clear p42); (try clear p48); (try clear b26); (try clear b31); (try clear b36); (try clear b42); (try clear b48); simp only [vp_in_iff, Int32.lt_iff_toInt_lt, Int32.le_iff_toInt_le, ← Int32.toInt_inj, Int32.toInt_add, Int32.toInt_sub, Int32.toInt_mul, Int32.toInt_neg, pq_NuO, pq_NuI, pq_NuJ, pq_NuR, pq_shr6, pq_shr7, pq_shr8, lqm1, lq0, lq1, lq20, lq2048] at *; (try simp (disch := omega) only [pq_bm] at *); all_goals omega)
    obtain ⟨rfl, hF42, p42⟩ := w42
    have ha_42 := (hF42.1 _ _ ha_36 (by decide)).1
    have hgb_42 := (hF42.1 _ _ hgb_36 (by decide)).1
    have ec42_0_ha_42 := hF42.O ha_36 (by decide) (by decide) ec36_0_ha_36
    have ec42_3_ha_42 := hF42.O ha_36 (by decide) (by decide) ec36_3_ha_36
    obtain ⟨t42, e42, h42, b42⟩ := p42
    refine pq_aload_n F dX11_feed_45 rfl rfl ?_
    refine pq_iload F dX11_feed_46 rfl ?_
    refine pq_callV (As := [_]) F (k_X11_fourG l D cy _ _ ?_ _ t42 (tn + 16) tb e42 h42 ?_ ec42_0_ha_42 hgb_42) ml_X11_270 ha_42 (by decide) rfl (Nat.le_of_ble_eq_true rfl) ⟨Nat.le_of_ble_eq_true rfl, Nat.le_of_ble_eq_true rfl⟩ ⟨by decide, by decide⟩ dX11_feed_48 (fun v48 S48 w48 => ?_)
    · exact ha_42
    · focus ((try clear p26); (try clear p31); (try clear p36); (try clear p42); (try clear p48); (try clear b26); (try clear b31); (try clear b36); (try clear b42); (try clear b48); simp only [vp_in_iff, Int32.lt_iff_toInt_lt, Int32.le_iff_toInt_le, ← Int32.toInt_inj, Int32.toInt_add, Int32.toInt_sub, Int32.toInt_mul, Int32.toInt_neg, pq_NuO, pq_NuI, pq_NuJ, pq_NuR, pq_shr6, pq_shr7, pq_shr8, lqm1, lq0, lq1, lq20, lq2048] at *; (try simp (disch := omega) only [pq_bm] at *); all_goals omega)
    obtain ⟨rfl, hF48, p48⟩ := w48
    have ha_48 := (hF48.1 _ _ ha_42 (by decide)).1
    have hgb_48 := (hF48.1 _ _ hgb_42 (by decide)).1
    have ec48_0_ha_48 := hF48.O ha_42 (by decide) (by decide) ec42_0_ha_42
    have ec48_3_ha_48 := hF48.O ha_42 (by decide) (by decide) ec42_3_ha_42
    obtain ⟨t48, e48, h48, b48⟩ := p48
    refine pq_aload_n F dX11_feed_51 rfl rfl ?_
    refine pq_get F ha_48 (by decide) lk_X11_264 e48 dX11_feed_52 ?_
    exact pq_iret F hr hlk hA (Nat.le_refl _) (Nat.le_refl _) (⟨((((((pq_Fr.rf.uO ha (by decide)).cm hF26 (by decide)).cm hF31 (by decide)).cm hF36 (by decide)).cm hF42 (by decide)).cm hF48 (by decide)), t48, rfl, Or.inl ⟨(by focus ((try clear p26); (try clear p31); (try clear p36); (try clear p42); (try clear p48); (try clear b26); (try clear b31); (try clear b36); (try clear b42); (try clear b48); simp only [vp_in_iff, Int32.lt_iff_toInt_lt, Int32.le_iff_toInt_le, ← Int32.toInt_inj, Int32.toInt_add, Int32.toInt_sub, Int32.toInt_mul, Int32.toInt_neg, pq_NuO, pq_NuI, pq_NuJ, pq_NuR, pq_shr6, pq_shr7, pq_shr8, lqm1, lq0, lq1, lq20, lq2048] at *; (try simp (disch := omega) only [pq_bm] at *); all_goals omega)), (hF48.O ha_42 (by decide) (by decide) (hF42.O ha_36 (by decide) (by decide) (hF36.O ha_31 (by decide) (by decide) (hF31.O ha_26 (by decide) (by decide) (hF26.O ha (by decide) (by decide) pq_ks))))), e48, (by focus ((try clear p26); (try clear p31); (try clear p36); (try clear p42); (try clear p48); (try clear b26); (try clear b31); (try clear b36); (try clear b42); (try clear b48); simp only [vp_in_iff, Int32.lt_iff_toInt_lt, Int32.le_iff_toInt_le, ← Int32.toInt_inj, Int32.toInt_add, Int32.toInt_sub, Int32.toInt_mul, Int32.toInt_neg, pq_NuO, pq_NuI, pq_NuJ, pq_NuR, pq_shr6, pq_shr7, pq_shr8, lqm1, lq0, lq1, lq20, lq2048] at *; (try simp (disch := omega) only [pq_bm] at *); all_goals omega)), (by rw [b48, b42, b36, b31, b26]; rfl)⟩⟩) dX11_feed_55
  · skip
    refine pq_aload_n F dX11_feed_18 rfl rfl ?_
    refine pq_iconst (v := 1) F dX11_feed_19 (by decide) ?_
    (refine pq_callV (As := [_]) F (k_X11_refuse l D cy _ _ (by exact ha) _) ml_X11_267 ha (by decide) rfl (Nat.le_of_ble_eq_true rfl) ⟨Nat.le_of_ble_eq_true rfl, Nat.le_of_ble_eq_true rfl⟩ ⟨by decide, by decide⟩ dX11_feed_20 (fun v20 S20 w20 => ?_); obtain ⟨rfl, rfl⟩ := w20)
    exact pq_iret F hr hlk hA (Nat.le_refl _) (Nat.le_refl _) (⟨((pq_Fr.rf.uO ha (by decide)).uO ha (by decide)), _, rfl, Or.inr ⟨(by focus ((try clear p26); (try clear p31); (try clear p36); (try clear p42); (try clear p48); (try clear b26); (try clear b31); (try clear b36); (try clear b42); (try clear b48); simp only [vp_in_iff, Int32.lt_iff_toInt_lt, Int32.le_iff_toInt_le, ← Int32.toInt_inj, Int32.toInt_add, Int32.toInt_sub, Int32.toInt_mul, Int32.toInt_neg, pq_NuO, pq_NuI, pq_NuJ, pq_NuR, pq_shr6, pq_shr7, pq_shr8, lqm1, lq0, lq1, lq20, lq2048] at *; (try simp (disch := omega) only [pq_bm] at *); all_goals omega)), pq_ks, pq_kp (pq_kp ht (by decide)) (by decide), rfl⟩⟩) dX11_feed_23

set_option maxHeartbeats 4000000 in
set_option maxRecDepth 100000 in
theorem k_X10_feedG (l : Launch) (D : va_G) (cy : Nat → ClassId) (hl0 : l.stackTraces = false) (S : HS) (a : Nat) (ha : pq_R S a 13) (pa : Int32) (pb : Int32) (pc : Int32) (pd : Int32) (pe : Int32) (t : Int32) (np nq : Nat) (hIx : pq_Ix S a t np nq) (tn tb : Nat) (htn : t.toInt = (tn : Int)) (hCw : tk_Cw S a tb) : pq_CX l D cy yX10_feed cX10_feed 6 (some .int) 6 1 6 S [.ref a, .int pa, .int pb, .int pc, .int pd, .int pe] (fun v S2 => pq_Fr [(12, 1), (104, 0)] S S2 ∧ ∃ x : Int32, v = some (.int x) ∧ (t.toInt ≤ 2028 ∧ x.toInt = t.toInt + 20 ∧ pq_Ix S2 a x np nq ∧ hI S2 tb = tk_fe (hI S tb) tn pa pb pc pd pe)) (fun E S2 => E = "java/lang/IndexOutOfBoundsException" ∧ 2028 < t.toInt ∧ pq_Fr [(12, 1), (104, 0)] S S2 ∧ pq_Ix S2 a t np nq ∧ hI S2 tb = hI S tb) := by
  refine pq_startX (by decide) (Nat.le_of_ble_eq_true rfl) ?_
  intro p e s m args below meth c A F hr hlk hnm hA ht
  have lqm1 : (-1 : Int32).toInt = -1 := rfl
  have lq0 : (0 : Int32).toInt = 0 := rfl
  have lq1 : (1 : Int32).toInt = 1 := rfl
  have lq4 : (4 : Int32).toInt = 4 := rfl
  have lq20 : (20 : Int32).toInt = 20 := rfl
  have lq2028 : (2028 : Int32).toInt = 2028 := rfl
  obtain ⟨tp, pl, rd, wk, mg, pt, ct, sr, A9, B9, hIf, fet, ⟨ht0, ht1⟩, hIA, hIB, hIs⟩   := hIx
  have hIf2 := hIf
  obtain ⟨⟨fa0, fa1, fa2, fa3, fa4, fa5, fa6, fa7⟩, ⟨fb0, fb1, fb2, fb3, fb4, fb5, fb6, fb7, fb8⟩, ⟨fc0, fc1, fc2, fc3⟩, ⟨fd0, fd1, fd2, fd3⟩⟩ := hIf2
  obtain ⟨tp2, rd2, pl2, ch, sq, at9, wh, hh, tt, EE, hCv, hC⟩ := hCw
  obtain rfl := tk_rj fa0 hCv.1.2.1
  have g0 := hCv.1.2.2.2.1
  have hgb := hCv.1.2.2.2.2
  refine pq_aload_n F dX10_feed_0 rfl rfl ?_
  refine pq_get F ha (by decide) lk_X10_10 fa0 dX10_feed_1 ?_
  refine pq_get F fb1 (by decide) lk_X10_75 fet dX10_feed_4 ?_
  refine pq_sipush (v := 2028) F dX10_feed_7 (by decide) ?_
  refine pq_icmp_le (tgt := 23) F dX10_feed_10 (by decide) (fun c10 => ?_) (fun c10 => ?_)
  · skip
    refine pq_aload_n F dX10_feed_23 rfl rfl ?_
    refine pq_get F ha (by decide) lk_X10_10 fa0 dX10_feed_24 ?_
    refine pq_iload_n F dX10_feed_27 rfl rfl ?_
    refine pq_callV (As := [_]) F (k_X9_putG l D cy _ _ ?_ _ t tn tb fet htn ?_ g0 hgb) ml_X10_85 fb1 (by decide) rfl (Nat.le_of_ble_eq_true rfl) ⟨Nat.le_of_ble_eq_true rfl, Nat.le_of_ble_eq_true rfl⟩ ⟨by decide, by decide⟩ dX10_feed_28 (fun v28 S28 w28 => ?_)
    · exact fb1
    · focus ((try clear hIf); (try clear hIA); (try clear hIB); (try clear hIs); (try clear p1); (try clear p28); (try clear p36); (try clear p44); (try clear p53); (try clear p62); (try clear hwc); (try clear hCv); (try clear hC); (try clear b28); (try clear b36); (try clear b44); (try clear b53); (try clear b62); (try clear p28); (try clear p36); (try clear p44); (try clear p53); (try clear p62); simp only [vp_in_iff, Int32.lt_iff_toInt_lt, Int32.le_iff_toInt_le, ← Int32.toInt_inj, Int32.toInt_add, Int32.toInt_sub, Int32.toInt_mul, Int32.toInt_neg, pq_NuO, pq_NuI, pq_NuJ, pq_NuR, pq_shr6, pq_shr7, pq_shr8, lqm1, lq0, lq1, lq4, lq20, lq2028] at *; (try simp (disch := omega) only [pq_bm] at *); all_goals omega)
    obtain ⟨rfl, hF28, p28⟩ := w28
    have ha_28 := (hF28.1 _ _ ha (by decide)).1
    have fb1_28 := (hF28.1 _ _ fb1 (by decide)).1
    have ec28_0_ha_28 := hF28.O ha (by decide) (by decide) fa0
    have fb2_28 := (hF28.1 _ _ fb2 (by decide)).1
    have ec28_1_ha_28 := hF28.O ha (by decide) (by decide) fa1
    have fb3_28 := (hF28.1 _ _ fb3 (by decide)).1
    have ec28_2_ha_28 := hF28.O ha (by decide) (by decide) fa2
    have fb4_28 := (hF28.1 _ _ fb4 (by decide)).1
    have ec28_3_ha_28 := hF28.O ha (by decide) (by decide) fa3
    have fb5_28 := (hF28.1 _ _ fb5 (by decide)).1
    have ec28_4_ha_28 := hF28.O ha (by decide) (by decide) fa4
    have fb6_28 := (hF28.1 _ _ fb6 (by decide)).1
    have ec28_5_ha_28 := hF28.O ha (by decide) (by decide) fa5
    have fb7_28 := (hF28.1 _ _ fb7 (by decide)).1
    have ec28_6_ha_28 := hF28.O ha (by decide) (by decide) fa6
    have fb8_28 := (hF28.1 _ _ fb8 (by decide)).1
    have ec28_7_ha_28 := hF28.O ha (by decide) (by decide) fa7
    have hgb_28 := (hF28.1 _ _ hgb (by decide)).1
    have ec28_0_fb1_28 := hF28.O fb1 (by decide) (by decide) g0
    obtain ⟨t28, et28, ht28, b28⟩ := p28
    refine pq_aload_n F dX10_feed_31 rfl rfl ?_
    refine pq_get F ha_28 (by decide) lk_X10_10 ec28_0_ha_28 dX10_feed_32 ?_
    refine pq_iload_n F dX10_feed_35 rfl rfl ?_
    refine pq_callV (As := [_]) F (k_X9_putG l D cy _ _ ?_ _ t28 (tn + 4) tb et28 ht28 ?_ ec28_0_fb1_28 hgb_28) ml_X10_85 fb1_28 (by decide) rfl (Nat.le_of_ble_eq_true rfl) ⟨Nat.le_of_ble_eq_true rfl, Nat.le_of_ble_eq_true rfl⟩ ⟨by decide, by decide⟩ dX10_feed_36 (fun v36 S36 w36 => ?_)
    · exact fb1_28
    · focus ((try clear hIf); (try clear hIA); (try clear hIB); (try clear hIs); (try clear p1); (try clear p28); (try clear p36); (try clear p44); (try clear p53); (try clear p62); (try clear hwc); (try clear hCv); (try clear hC); (try clear b28); (try clear b36); (try clear b44); (try clear b53); (try clear b62); (try clear p28); (try clear p36); (try clear p44); (try clear p53); (try clear p62); simp only [vp_in_iff, Int32.lt_iff_toInt_lt, Int32.le_iff_toInt_le, ← Int32.toInt_inj, Int32.toInt_add, Int32.toInt_sub, Int32.toInt_mul, Int32.toInt_neg, pq_NuO, pq_NuI, pq_NuJ, pq_NuR, pq_shr6, pq_shr7, pq_shr8, lqm1, lq0, lq1, lq4, lq20, lq2028] at *; (try simp (disch := omega) only [pq_bm] at *); all_goals omega)
    obtain ⟨rfl, hF36, p36⟩ := w36
    have ha_36 := (hF36.1 _ _ ha_28 (by decide)).1
    have fb1_36 := (hF36.1 _ _ fb1_28 (by decide)).1
    have ec36_0_ha_36 := hF36.O ha_28 (by decide) (by decide) ec28_0_ha_28
    have fb2_36 := (hF36.1 _ _ fb2_28 (by decide)).1
    have ec36_1_ha_36 := hF36.O ha_28 (by decide) (by decide) ec28_1_ha_28
    have fb3_36 := (hF36.1 _ _ fb3_28 (by decide)).1
    have ec36_2_ha_36 := hF36.O ha_28 (by decide) (by decide) ec28_2_ha_28
    have fb4_36 := (hF36.1 _ _ fb4_28 (by decide)).1
    have ec36_3_ha_36 := hF36.O ha_28 (by decide) (by decide) ec28_3_ha_28
    have fb5_36 := (hF36.1 _ _ fb5_28 (by decide)).1
    have ec36_4_ha_36 := hF36.O ha_28 (by decide) (by decide) ec28_4_ha_28
    have fb6_36 := (hF36.1 _ _ fb6_28 (by decide)).1
    have ec36_5_ha_36 := hF36.O ha_28 (by decide) (by decide) ec28_5_ha_28
    have fb7_36 := (hF36.1 _ _ fb7_28 (by decide)).1
    have ec36_6_ha_36 := hF36.O ha_28 (by decide) (by decide) ec28_6_ha_28
    have fb8_36 := (hF36.1 _ _ fb8_28 (by decide)).1
    have ec36_7_ha_36 := hF36.O ha_28 (by decide) (by decide) ec28_7_ha_28
    have hgb_36 := (hF36.1 _ _ hgb_28 (by decide)).1
    have ec36_0_fb1_36 := hF36.O fb1_28 (by decide) (by decide) ec28_0_fb1_28
    obtain ⟨t36, et36, ht36, b36⟩ := p36
    refine pq_aload_n F dX10_feed_39 rfl rfl ?_
    refine pq_get F ha_36 (by decide) lk_X10_10 ec36_0_ha_36 dX10_feed_40 ?_
    refine pq_iload_n F dX10_feed_43 rfl rfl ?_
    refine pq_callV (As := [_]) F (k_X9_putG l D cy _ _ ?_ _ t36 (tn + 8) tb et36 ht36 ?_ ec36_0_fb1_36 hgb_36) ml_X10_85 fb1_36 (by decide) rfl (Nat.le_of_ble_eq_true rfl) ⟨Nat.le_of_ble_eq_true rfl, Nat.le_of_ble_eq_true rfl⟩ ⟨by decide, by decide⟩ dX10_feed_44 (fun v44 S44 w44 => ?_)
    · exact fb1_36
    · focus ((try clear hIf); (try clear hIA); (try clear hIB); (try clear hIs); (try clear p1); (try clear p28); (try clear p36); (try clear p44); (try clear p53); (try clear p62); (try clear hwc); (try clear hCv); (try clear hC); (try clear b28); (try clear b36); (try clear b44); (try clear b53); (try clear b62); (try clear p28); (try clear p36); (try clear p44); (try clear p53); (try clear p62); simp only [vp_in_iff, Int32.lt_iff_toInt_lt, Int32.le_iff_toInt_le, ← Int32.toInt_inj, Int32.toInt_add, Int32.toInt_sub, Int32.toInt_mul, Int32.toInt_neg, pq_NuO, pq_NuI, pq_NuJ, pq_NuR, pq_shr6, pq_shr7, pq_shr8, lqm1, lq0, lq1, lq4, lq20, lq2028] at *; (try simp (disch := omega) only [pq_bm] at *); all_goals omega)
    obtain ⟨rfl, hF44, p44⟩ := w44
    have ha_44 := (hF44.1 _ _ ha_36 (by decide)).1
    have fb1_44 := (hF44.1 _ _ fb1_36 (by decide)).1
    have ec44_0_ha_44 := hF44.O ha_36 (by decide) (by decide) ec36_0_ha_36
    have fb2_44 := (hF44.1 _ _ fb2_36 (by decide)).1
    have ec44_1_ha_44 := hF44.O ha_36 (by decide) (by decide) ec36_1_ha_36
    have fb3_44 := (hF44.1 _ _ fb3_36 (by decide)).1
    have ec44_2_ha_44 := hF44.O ha_36 (by decide) (by decide) ec36_2_ha_36
    have fb4_44 := (hF44.1 _ _ fb4_36 (by decide)).1
    have ec44_3_ha_44 := hF44.O ha_36 (by decide) (by decide) ec36_3_ha_36
    have fb5_44 := (hF44.1 _ _ fb5_36 (by decide)).1
    have ec44_4_ha_44 := hF44.O ha_36 (by decide) (by decide) ec36_4_ha_36
    have fb6_44 := (hF44.1 _ _ fb6_36 (by decide)).1
    have ec44_5_ha_44 := hF44.O ha_36 (by decide) (by decide) ec36_5_ha_36
    have fb7_44 := (hF44.1 _ _ fb7_36 (by decide)).1
    have ec44_6_ha_44 := hF44.O ha_36 (by decide) (by decide) ec36_6_ha_36
    have fb8_44 := (hF44.1 _ _ fb8_36 (by decide)).1
    have ec44_7_ha_44 := hF44.O ha_36 (by decide) (by decide) ec36_7_ha_36
    have hgb_44 := (hF44.1 _ _ hgb_36 (by decide)).1
    have ec44_0_fb1_44 := hF44.O fb1_36 (by decide) (by decide) ec36_0_fb1_36
    obtain ⟨t44, et44, ht44, b44⟩ := p44
    refine pq_aload_n F dX10_feed_47 rfl rfl ?_
    refine pq_get F ha_44 (by decide) lk_X10_10 ec44_0_ha_44 dX10_feed_48 ?_
    refine pq_iload F dX10_feed_51 rfl ?_
    refine pq_callV (As := [_]) F (k_X9_putG l D cy _ _ ?_ _ t44 (tn + 12) tb et44 ht44 ?_ ec44_0_fb1_44 hgb_44) ml_X10_85 fb1_44 (by decide) rfl (Nat.le_of_ble_eq_true rfl) ⟨Nat.le_of_ble_eq_true rfl, Nat.le_of_ble_eq_true rfl⟩ ⟨by decide, by decide⟩ dX10_feed_53 (fun v53 S53 w53 => ?_)
    · exact fb1_44
    · focus ((try clear hIf); (try clear hIA); (try clear hIB); (try clear hIs); (try clear p1); (try clear p28); (try clear p36); (try clear p44); (try clear p53); (try clear p62); (try clear hwc); (try clear hCv); (try clear hC); (try clear b28); (try clear b36); (try clear b44); (try clear b53); (try clear b62); (try clear p28); (try clear p36); (try clear p44); (try clear p53); (try clear p62); simp only [vp_in_iff, Int32.lt_iff_toInt_lt, Int32.le_iff_toInt_le, ← Int32.toInt_inj, Int32.toInt_add, Int32.toInt_sub, Int32.toInt_mul, Int32.toInt_neg, pq_NuO, pq_NuI, pq_NuJ, pq_NuR, pq_shr6, pq_shr7, pq_shr8, lqm1, lq0, lq1, lq4, lq20, lq2028] at *; (try simp (disch := omega) only [pq_bm] at *); all_goals omega)
    obtain ⟨rfl, hF53, p53⟩ := w53
    have ha_53 := (hF53.1 _ _ ha_44 (by decide)).1
    have fb1_53 := (hF53.1 _ _ fb1_44 (by decide)).1
    have ec53_0_ha_53 := hF53.O ha_44 (by decide) (by decide) ec44_0_ha_44
    have fb2_53 := (hF53.1 _ _ fb2_44 (by decide)).1
    have ec53_1_ha_53 := hF53.O ha_44 (by decide) (by decide) ec44_1_ha_44
    have fb3_53 := (hF53.1 _ _ fb3_44 (by decide)).1
    have ec53_2_ha_53 := hF53.O ha_44 (by decide) (by decide) ec44_2_ha_44
    have fb4_53 := (hF53.1 _ _ fb4_44 (by decide)).1
    have ec53_3_ha_53 := hF53.O ha_44 (by decide) (by decide) ec44_3_ha_44
    have fb5_53 := (hF53.1 _ _ fb5_44 (by decide)).1
    have ec53_4_ha_53 := hF53.O ha_44 (by decide) (by decide) ec44_4_ha_44
    have fb6_53 := (hF53.1 _ _ fb6_44 (by decide)).1
    have ec53_5_ha_53 := hF53.O ha_44 (by decide) (by decide) ec44_5_ha_44
    have fb7_53 := (hF53.1 _ _ fb7_44 (by decide)).1
    have ec53_6_ha_53 := hF53.O ha_44 (by decide) (by decide) ec44_6_ha_44
    have fb8_53 := (hF53.1 _ _ fb8_44 (by decide)).1
    have ec53_7_ha_53 := hF53.O ha_44 (by decide) (by decide) ec44_7_ha_44
    have hgb_53 := (hF53.1 _ _ hgb_44 (by decide)).1
    have ec53_0_fb1_53 := hF53.O fb1_44 (by decide) (by decide) ec44_0_fb1_44
    obtain ⟨t53, et53, ht53, b53⟩ := p53
    refine pq_aload_n F dX10_feed_56 rfl rfl ?_
    refine pq_get F ha_53 (by decide) lk_X10_10 ec53_0_ha_53 dX10_feed_57 ?_
    refine pq_iload F dX10_feed_60 rfl ?_
    refine pq_callV (As := [_]) F (k_X9_putG l D cy _ _ ?_ _ t53 (tn + 16) tb et53 ht53 ?_ ec53_0_fb1_53 hgb_53) ml_X10_85 fb1_53 (by decide) rfl (Nat.le_of_ble_eq_true rfl) ⟨Nat.le_of_ble_eq_true rfl, Nat.le_of_ble_eq_true rfl⟩ ⟨by decide, by decide⟩ dX10_feed_62 (fun v62 S62 w62 => ?_)
    · exact fb1_53
    · focus ((try clear hIf); (try clear hIA); (try clear hIB); (try clear hIs); (try clear p1); (try clear p28); (try clear p36); (try clear p44); (try clear p53); (try clear p62); (try clear hwc); (try clear hCv); (try clear hC); (try clear b28); (try clear b36); (try clear b44); (try clear b53); (try clear b62); (try clear p28); (try clear p36); (try clear p44); (try clear p53); (try clear p62); simp only [vp_in_iff, Int32.lt_iff_toInt_lt, Int32.le_iff_toInt_le, ← Int32.toInt_inj, Int32.toInt_add, Int32.toInt_sub, Int32.toInt_mul, Int32.toInt_neg, pq_NuO, pq_NuI, pq_NuJ, pq_NuR, pq_shr6, pq_shr7, pq_shr8, lqm1, lq0, lq1, lq4, lq20, lq2028] at *; (try simp (disch := omega) only [pq_bm] at *); all_goals omega)
    obtain ⟨rfl, hF62, p62⟩ := w62
    have ha_62 := (hF62.1 _ _ ha_53 (by decide)).1
    have fb1_62 := (hF62.1 _ _ fb1_53 (by decide)).1
    have ec62_0_ha_62 := hF62.O ha_53 (by decide) (by decide) ec53_0_ha_53
    have fb2_62 := (hF62.1 _ _ fb2_53 (by decide)).1
    have ec62_1_ha_62 := hF62.O ha_53 (by decide) (by decide) ec53_1_ha_53
    have fb3_62 := (hF62.1 _ _ fb3_53 (by decide)).1
    have ec62_2_ha_62 := hF62.O ha_53 (by decide) (by decide) ec53_2_ha_53
    have fb4_62 := (hF62.1 _ _ fb4_53 (by decide)).1
    have ec62_3_ha_62 := hF62.O ha_53 (by decide) (by decide) ec53_3_ha_53
    have fb5_62 := (hF62.1 _ _ fb5_53 (by decide)).1
    have ec62_4_ha_62 := hF62.O ha_53 (by decide) (by decide) ec53_4_ha_53
    have fb6_62 := (hF62.1 _ _ fb6_53 (by decide)).1
    have ec62_5_ha_62 := hF62.O ha_53 (by decide) (by decide) ec53_5_ha_53
    have fb7_62 := (hF62.1 _ _ fb7_53 (by decide)).1
    have ec62_6_ha_62 := hF62.O ha_53 (by decide) (by decide) ec53_6_ha_53
    have fb8_62 := (hF62.1 _ _ fb8_53 (by decide)).1
    have ec62_7_ha_62 := hF62.O ha_53 (by decide) (by decide) ec53_7_ha_53
    have hgb_62 := (hF62.1 _ _ hgb_53 (by decide)).1
    have ec62_0_fb1_62 := hF62.O fb1_53 (by decide) (by decide) ec53_0_fb1_53
    obtain ⟨t62, et62, ht62, b62⟩ := p62
    refine pq_aload_n F dX10_feed_65 rfl rfl ?_
    refine pq_get F ha_62 (by decide) lk_X10_10 ec62_0_ha_62 dX10_feed_66 ?_
    refine pq_get F fb1_62 (by decide) lk_X10_75 et62 dX10_feed_69 ?_
    exact pq_lift (pq_iret F hr hlk hA (Nat.zero_le _) (Nat.zero_le _) (pq_andM (M0 := [(12, 1), (104, 0)]) (by decide) ((((((pq_Fr.rf.cm hF28 (by decide)).cm hF36 (by decide)).cm hF44 (by decide)).cm hF53 (by decide)).cm hF62 (by decide))) (fun hFF => ⟨t62, rfl, (by focus ((try clear hIf); (try clear hIA); (try clear hIB); (try clear hIs); (try clear p1); (try clear p28); (try clear p36); (try clear p44); (try clear p53); (try clear p62); (try clear hwc); (try clear hCv); (try clear hC); (try clear b28); (try clear b36); (try clear b44); (try clear b53); (try clear b62); (try clear p28); (try clear p36); (try clear p44); (try clear p53); (try clear p62); simp only [vp_in_iff, Int32.lt_iff_toInt_lt, Int32.le_iff_toInt_le, ← Int32.toInt_inj, Int32.toInt_add, Int32.toInt_sub, Int32.toInt_mul, Int32.toInt_neg, pq_NuO, pq_NuI, pq_NuJ, pq_NuR, pq_shr6, pq_shr7, pq_shr8, lqm1, lq0, lq1, lq4, lq20, lq2028] at *; (try simp (disch := omega) only [pq_bm] at *); all_goals omega)), (by focus ((try clear hIf); (try clear hIA); (try clear hIB); (try clear hIs); (try clear p1); (try clear p28); (try clear p36); (try clear p44); (try clear p53); (try clear p62); (try clear hwc); (try clear hCv); (try clear hC); (try clear b28); (try clear b36); (try clear b44); (try clear b53); (try clear b62); (try clear p28); (try clear p36); (try clear p44); (try clear p53); (try clear p62); simp only [vp_in_iff, Int32.lt_iff_toInt_lt, Int32.le_iff_toInt_le, ← Int32.toInt_inj, Int32.toInt_add, Int32.toInt_sub, Int32.toInt_mul, Int32.toInt_neg, pq_NuO, pq_NuI, pq_NuJ, pq_NuR, pq_shr6, pq_shr7, pq_shr8, lqm1, lq0, lq1, lq4, lq20, lq2028] at *; (try simp (disch := omega) only [pq_bm] at *); all_goals omega)), ⟨tp, pl, rd, wk, mg, pt, ct, sr, A9, B9, hIf.fr hFF (by decide), et62, ⟨(by focus ((try clear hIf); (try clear hIA); (try clear hIB); (try clear hIs); (try clear p1); (try clear p28); (try clear p36); (try clear p44); (try clear p53); (try clear p62); (try clear hwc); (try clear hCv); (try clear hC); (try clear b28); (try clear b36); (try clear b44); (try clear b53); (try clear b62); (try clear p28); (try clear p36); (try clear p44); (try clear p53); (try clear p62); simp only [vp_in_iff, Int32.lt_iff_toInt_lt, Int32.le_iff_toInt_le, ← Int32.toInt_inj, Int32.toInt_add, Int32.toInt_sub, Int32.toInt_mul, Int32.toInt_neg, pq_NuO, pq_NuI, pq_NuJ, pq_NuR, pq_shr6, pq_shr7, pq_shr8, lqm1, lq0, lq1, lq4, lq20, lq2028] at *; (try simp (disch := omega) only [pq_bm] at *); all_goals omega)), (by focus ((try clear hIf); (try clear hIA); (try clear hIB); (try clear hIs); (try clear p1); (try clear p28); (try clear p36); (try clear p44); (try clear p53); (try clear p62); (try clear hwc); (try clear hCv); (try clear hC); (try clear b28); (try clear b36); (try clear b44); (try clear b53); (try clear b62); (try clear p28); (try clear p36); (try clear p44); (try clear p53); (try clear p62); simp only [vp_in_iff, Int32.lt_iff_toInt_lt, Int32.le_iff_toInt_le, ← Int32.toInt_inj, Int32.toInt_add, Int32.toInt_sub, Int32.toInt_mul, Int32.toInt_neg, pq_NuO, pq_NuI, pq_NuJ, pq_NuR, pq_shr6, pq_shr7, pq_shr8, lqm1, lq0, lq1, lq4, lq20, lq2028] at *; (try simp (disch := omega) only [pq_bm] at *); all_goals omega))⟩, hIA.fr fd2 (by decide) (by decide) (by decide) hFF (by decide), hIB.fr fd3 (by decide) (by decide) (by decide) hFF (by decide), hIs.fr fb8 hFF (by decide)⟩, (by rw [b62, b53, b44, b36, b28]; rfl)⟩)) dX10_feed_72)
  · skip
    exact pq_thr F ht hlk hA hl0 (is := 80) (text := "the tape would have too many bytes") (cls := "java/lang/IndexOutOfBoundsException") (by decide) xw_82 ⟨Nat.le_of_ble_eq_true rfl, Nat.le_of_ble_eq_true rfl⟩ (Nat.le_of_ble_eq_true rfl) (Nat.le_of_ble_eq_true rfl) (Nat.le_of_ble_eq_true rfl) (Nat.le_of_ble_eq_true rfl) (⟨rfl, (by focus ((try clear hIf); (try clear hIA); (try clear hIB); (try clear hIs); (try clear p1); (try clear p28); (try clear p36); (try clear p44); (try clear p53); (try clear p62); (try clear hwc); (try clear hCv); (try clear hC); (try clear b28); (try clear b36); (try clear b44); (try clear b53); (try clear b62); (try clear p28); (try clear p36); (try clear p44); (try clear p53); (try clear p62); simp only [vp_in_iff, Int32.lt_iff_toInt_lt, Int32.le_iff_toInt_le, ← Int32.toInt_inj, Int32.toInt_add, Int32.toInt_sub, Int32.toInt_mul, Int32.toInt_neg, pq_NuO, pq_NuI, pq_NuJ, pq_NuR, pq_shr6, pq_shr7, pq_shr8, lqm1, lq0, lq1, lq4, lq20, lq2028] at *; (try simp (disch := omega) only [pq_bm] at *); all_goals omega)), pq_andM (M0 := [(12, 1), (104, 0)]) (by decide) (pq_Fr.rf) (fun hFF => ⟨⟨tp, pl, rd, wk, mg, pt, ct, sr, A9, B9, hIf.fr hFF (by decide), fet, ⟨(by focus ((try clear hIf); (try clear hIA); (try clear hIB); (try clear hIs); (try clear p1); (try clear p28); (try clear p36); (try clear p44); (try clear p53); (try clear p62); (try clear hwc); (try clear hCv); (try clear hC); (try clear b28); (try clear b36); (try clear b44); (try clear b53); (try clear b62); (try clear p28); (try clear p36); (try clear p44); (try clear p53); (try clear p62); simp only [vp_in_iff, Int32.lt_iff_toInt_lt, Int32.le_iff_toInt_le, ← Int32.toInt_inj, Int32.toInt_add, Int32.toInt_sub, Int32.toInt_mul, Int32.toInt_neg, pq_NuO, pq_NuI, pq_NuJ, pq_NuR, pq_shr6, pq_shr7, pq_shr8, lqm1, lq0, lq1, lq4, lq20, lq2028] at *; (try simp (disch := omega) only [pq_bm] at *); all_goals omega)), (by focus ((try clear hIf); (try clear hIA); (try clear hIB); (try clear hIs); (try clear p1); (try clear p28); (try clear p36); (try clear p44); (try clear p53); (try clear p62); (try clear hwc); (try clear hCv); (try clear hC); (try clear b28); (try clear b36); (try clear b44); (try clear b53); (try clear b62); (try clear p28); (try clear p36); (try clear p44); (try clear p53); (try clear p62); simp only [vp_in_iff, Int32.lt_iff_toInt_lt, Int32.le_iff_toInt_le, ← Int32.toInt_inj, Int32.toInt_add, Int32.toInt_sub, Int32.toInt_mul, Int32.toInt_neg, pq_NuO, pq_NuI, pq_NuJ, pq_NuR, pq_shr6, pq_shr7, pq_shr8, lqm1, lq0, lq1, lq4, lq20, lq2028] at *; (try simp (disch := omega) only [pq_bm] at *); all_goals omega))⟩, hIA.fr fd2 (by decide) (by decide) (by decide) hFF (by decide), hIB.fr fd3 (by decide) (by decide) (by decide) hFF (by decide), hIs.fr fb8 hFF (by decide)⟩, rfl⟩)⟩) dX10_feed_13 dX10_feed_16 dX10_feed_17 dX10_feed_19 dX10_feed_22

