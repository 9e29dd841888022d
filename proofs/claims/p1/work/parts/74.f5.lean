set_option maxHeartbeats 4000000 in
set_option maxRecDepth 100000 in
theorem k_X11_parseF (l : Launch) (D : va_G) (cy : Nat → ClassId) (S : HS) (a : Nat) (ha : pq_R S a 14) (nn : Int32) (nb : Int32) (gr co ch hm ao aa : Nat) (f13 : hO S a 13 = .ref gr) (hgr : pq_R S gr 122) (f14 : hO S a 14 = .ref co) (hco : pq_R S co 123) (f15 : hO S a 15 = .ref ch) (hch : pq_R S ch 124) (f16 : hO S a 16 = .ref hm) (hhm : pq_R S hm 200) (f4 : hO S a 4 = .ref ao) (hao : pq_R S ao 120) (f5 : hO S a 5 = .ref aa) (haa : pq_R S aa 121) (f6 : hO S a 6 = .int 0) (hsm : hN S aa = hN S ao) (hnn : nn = 0) : pq_C l D cy yX11_parse cX11_parse 8 (some .int) 5 0 0 S [.ref a, .int nn, .int nb] (fun v S2 => pq_Fr [(200, 0), (122, 0), (123, 0), (124, 0), (14, 10), (14, 4), (14, 5), (14, 6), (120, 0), (121, 0)] S S2 ∧ ∃ x : Int32, v = some (.int x) ∧ (x = -1 ∧ ∃ ao2 aa2 : Nat, (hO S2 a 4 = .ref ao2 ∧ pq_R S2 ao2 120 ∧ hO S2 a 5 = .ref aa2 ∧ pq_R S2 aa2 121 ∧ hN S2 aa2 = hN S2 ao2) ∧ hO S2 a 6 = .int 1 ∧ hI S2 ao2 0 = 3 ∧ hI S2 aa2 0 = nb)) := by
  refine pq_start (by decide) (Nat.le_of_ble_eq_true rfl) ?_
  intro p e s m args below meth c A F hr hlk hnm hA
  have lqm1 : (-1 : Int32).toInt = -1 := rfl
  have lq0 : (0 : Int32).toInt = 0 := rfl
  have lq1 : (1 : Int32).toInt = 1 := rfl
  have lq2 : (2 : Int32).toInt = 2 := rfl
  have lq3 : (3 : Int32).toInt = 3 := rfl
  have lq40 : (40 : Int32).toInt = 40 := rfl
  have lq41 : (41 : Int32).toInt = 41 := rfl
  have lq42 : (42 : Int32).toInt = 42 := rfl
  have lq43 : (43 : Int32).toInt = 43 := rfl
  have lq63 : (63 : Int32).toInt = 63 := rfl
  have lq124 : (124 : Int32).toInt = 124 := rfl
  have lq400 : (400 : Int32).toInt = 400 := rfl
  refine pq_lenF hao (by decide) rfl (fun lo1 lo2 => ?_)
  refine pq_iconst (v := 0) F dX11_parse_0 (by decide) ?_
  refine pq_istore_n F dX11_parse_1 rfl (by decide) ?_
  refine pq_iconst (v := -1) F dX11_parse_2 (by decide) ?_
  refine pq_istore F dX11_parse_3 (by decide) ?_
  refine pq_iconst (v := 0) F dX11_parse_5 (by decide) ?_
  refine pq_istore F dX11_parse_6 (by decide) ?_
  refine pq_aload_n F dX11_parse_8 rfl rfl ?_
  refine pq_get F ha (by decide) lk_X11_81 f16 dX11_parse_9 ?_
  refine pq_iconst (v := 0) F dX11_parse_12 (by decide) ?_
  refine pq_iconst (v := 0) F dX11_parse_13 (by decide) ?_
  refine pq_zast F hhm (by decide) (by decide) rfl (fun n1_14 n2_14 => (by focus ((try clear p554); (try clear p560); simp only [vp_in_iff, Int32.lt_iff_toInt_lt, Int32.le_iff_toInt_le, ← Int32.toInt_inj, Int32.toInt_add, Int32.toInt_sub, Int32.toInt_mul, Int32.toInt_neg, pq_NuO, pq_NuI, pq_NuJ, pq_NuR, pq_shr6, pq_shr7, pq_shr8, lqm1, lq0, lq1, lq2, lq3, lq40, lq41, lq42, lq43, lq63, lq124, lq400] at *; (try simp (disch := omega) only [pq_bm] at *); all_goals omega))) (pq_nz _) dX11_parse_14 ?_
  refine pq_aload_n F dX11_parse_15 rfl rfl ?_
  refine pq_get F ha (by decide) lk_X11_85 f13 dX11_parse_16 ?_
  refine pq_iconst (v := 0) F dX11_parse_19 (by decide) ?_
  refine pq_aload_n F dX11_parse_20 rfl rfl ?_
  refine pq_get F ha (by decide) lk_X11_7 f6 dX11_parse_21 ?_
  refine pq_iast F hgr (by decide) (by decide) rfl (fun n1_24 n2_24 => (by focus ((try clear p554); (try clear p560); simp only [vp_in_iff, Int32.lt_iff_toInt_lt, Int32.le_iff_toInt_le, ← Int32.toInt_inj, Int32.toInt_add, Int32.toInt_sub, Int32.toInt_mul, Int32.toInt_neg, pq_NuO, pq_NuI, pq_NuJ, pq_NuR, pq_shr6, pq_shr7, pq_shr8, lqm1, lq0, lq1, lq2, lq3, lq40, lq41, lq42, lq43, lq63, lq124, lq400] at *; (try simp (disch := omega) only [pq_bm] at *); all_goals omega))) (⟨pq_any1 _, pq_any2 _⟩) dX11_parse_24 ?_
  refine pq_aload_n F dX11_parse_25 rfl rfl ?_
  refine pq_get F ha (by decide) lk_X11_88 f14 dX11_parse_26 ?_
  refine pq_iconst (v := 0) F dX11_parse_29 (by decide) ?_
  refine pq_aload_n F dX11_parse_30 rfl rfl ?_
  refine pq_get F ha (by decide) lk_X11_7 f6 dX11_parse_31 ?_
  refine pq_iast F hco (by decide) (by decide) rfl (fun n1_34 n2_34 => (by focus ((try clear p554); (try clear p560); simp only [vp_in_iff, Int32.lt_iff_toInt_lt, Int32.le_iff_toInt_le, ← Int32.toInt_inj, Int32.toInt_add, Int32.toInt_sub, Int32.toInt_mul, Int32.toInt_neg, pq_NuO, pq_NuI, pq_NuJ, pq_NuR, pq_shr6, pq_shr7, pq_shr8, lqm1, lq0, lq1, lq2, lq3, lq40, lq41, lq42, lq43, lq63, lq124, lq400] at *; (try simp (disch := omega) only [pq_bm] at *); all_goals omega))) (⟨pq_any1 _, pq_any2 _⟩) dX11_parse_34 ?_
  refine pq_aload_n F dX11_parse_35 rfl rfl ?_
  refine pq_get F ha (by decide) lk_X11_78 f15 dX11_parse_36 ?_
  refine pq_iconst (v := 0) F dX11_parse_39 (by decide) ?_
  refine pq_iconst (v := -1) F dX11_parse_40 (by decide) ?_
  refine pq_iast F hch (by decide) (by decide) rfl (fun n1_41 n2_41 => (by focus ((try clear p554); (try clear p560); simp only [vp_in_iff, Int32.lt_iff_toInt_lt, Int32.le_iff_toInt_le, ← Int32.toInt_inj, Int32.toInt_add, Int32.toInt_sub, Int32.toInt_mul, Int32.toInt_neg, pq_NuO, pq_NuI, pq_NuJ, pq_NuR, pq_shr6, pq_shr7, pq_shr8, lqm1, lq0, lq1, lq2, lq3, lq40, lq41, lq42, lq43, lq63, lq124, lq400] at *; (try simp (disch := omega) only [pq_bm] at *); all_goals omega))) (⟨pq_any1 _, pq_any2 _⟩) dX11_parse_41 ?_
  refine pq_aload_n F dX11_parse_42 rfl rfl ?_
  refine pq_iconst (v := 0) F dX11_parse_43 (by decide) ?_
  refine pq_putI F ha (by decide) lp_X11_27 rfl (by focus ((try clear p554); (try clear p560); simp only [vp_in_iff, Int32.lt_iff_toInt_lt, Int32.le_iff_toInt_le, ← Int32.toInt_inj, Int32.toInt_add, Int32.toInt_sub, Int32.toInt_mul, Int32.toInt_neg, pq_NuO, pq_NuI, pq_NuJ, pq_NuR, pq_shr6, pq_shr7, pq_shr8, lqm1, lq0, lq1, lq2, lq3, lq40, lq41, lq42, lq43, lq63, lq124, lq400] at *; (try simp (disch := omega) only [pq_bm] at *); all_goals omega)) (by focus ((try clear p554); (try clear p560); simp only [vp_in_iff, Int32.lt_iff_toInt_lt, Int32.le_iff_toInt_le, ← Int32.toInt_inj, Int32.toInt_add, Int32.toInt_sub, Int32.toInt_mul, Int32.toInt_neg, pq_NuO, pq_NuI, pq_NuJ, pq_NuR, pq_shr6, pq_shr7, pq_shr8, lqm1, lq0, lq1, lq2, lq3, lq40, lq41, lq42, lq43, lq63, lq124, lq400] at *; (try simp (disch := omega) only [pq_bm] at *); all_goals omega)) dX11_parse_44 ?_
  refine pq_aload_n F dX11_parse_47 rfl rfl ?_
  refine pq_get F ha (by decide) lk_X11_27 pq_ks dX11_parse_48 ?_
  refine pq_iload_n F dX11_parse_51 rfl rfl ?_
  refine pq_icmp_ge (tgt := 546) F dX11_parse_52 (by decide) (fun c52 => ?_) (fun c52 => ?_)
  · skip
    refine pq_iload_n F dX11_parse_546 rfl rfl ?_
    refine pq_if_le (tgt := 552) F dX11_parse_547 (by decide) (fun c547 => ?_) (fun c547 => ?_)
    · skip
      refine pq_aload_n F dX11_parse_552 rfl rfl ?_
      refine pq_iconst (v := 0) F dX11_parse_553 (by decide) ?_
      refine pq_callV (As := [_]) F (k_X11_landR l D cy _ _ ?_ _ ?_ ?_ aa ch 0 [] 0 (pq_kp f5 (by decide)) haa (pq_kp f6 (by decide)) rfl (by decide) (Nat.zero_le _) (pq_kp f15 (by decide)) hch (by simp only [pq_IuO, pq_IuJ, pq_Iu, pq_JuO, pq_JuI, pq_Ju, pq_RuO, pq_RuJ, pq_RuI, if_true, if_false]; exact pk_us) True.intro (fun i hi => absurd hi List.not_mem_nil)) ml_X11_91 ha (by decide) rfl (Nat.le_of_ble_eq_true rfl) ⟨Nat.le_of_ble_eq_true rfl, Nat.le_of_ble_eq_true rfl⟩ ⟨by decide, by decide⟩ dX11_parse_554 (fun v554 S554 w554 => ?_)
      · exact ha
      · focus ((try clear p554); (try clear p560); simp only [vp_in_iff, Int32.lt_iff_toInt_lt, Int32.le_iff_toInt_le, ← Int32.toInt_inj, Int32.toInt_add, Int32.toInt_sub, Int32.toInt_mul, Int32.toInt_neg, pq_NuO, pq_NuI, pq_NuJ, pq_NuR, pq_shr6, pq_shr7, pq_shr8, lqm1, lq0, lq1, lq2, lq3, lq40, lq41, lq42, lq43, lq63, lq124, lq400] at *; (try simp (disch := omega) only [pq_bm] at *); all_goals omega)
      · focus ((try clear p554); (try clear p560); simp only [vp_in_iff, Int32.lt_iff_toInt_lt, Int32.le_iff_toInt_le, ← Int32.toInt_inj, Int32.toInt_add, Int32.toInt_sub, Int32.toInt_mul, Int32.toInt_neg, pq_NuO, pq_NuI, pq_NuJ, pq_NuR, pq_shr6, pq_shr7, pq_shr8, lqm1, lq0, lq1, lq2, lq3, lq40, lq41, lq42, lq43, lq63, lq124, lq400] at *; (try simp (disch := omega) only [pq_bm] at *); all_goals omega)
      obtain ⟨rfl, hF554, p554⟩ := w554
      have ha_554 := (hF554.1 _ _ ha (by decide)).1
      have hgr_554 := (hF554.1 _ _ hgr (by decide)).1
      have ec554_13_ha_554 := hF554.O ha (by decide) (by decide) (pq_kp f13 (by decide))
      have hco_554 := (hF554.1 _ _ hco (by decide)).1
      have ec554_14_ha_554 := hF554.O ha (by decide) (by decide) (pq_kp f14 (by decide))
      have hch_554 := (hF554.1 _ _ hch (by decide)).1
      have ec554_15_ha_554 := hF554.O ha (by decide) (by decide) (pq_kp f15 (by decide))
      have hhm_554 := (hF554.1 _ _ hhm (by decide)).1
      have ec554_16_ha_554 := hF554.O ha (by decide) (by decide) (pq_kp f16 (by decide))
      have hao_554 := (hF554.1 _ _ hao (by decide)).1
      have ec554_4_ha_554 := hF554.O ha (by decide) (by decide) (pq_kp f4 (by decide))
      have haa_554 := (hF554.1 _ _ haa (by decide)).1
      have ec554_5_ha_554 := hF554.O ha (by decide) (by decide) (pq_kp f5 (by decide))
      have ec554_6_ha_554 := hF554.O ha (by decide) (by decide) (pq_kp f6 (by decide))
      have ec554_10_ha_554 := hF554.O ha (by decide) (by decide) pq_ks
      refine pq_aload_n F dX11_parse_557 rfl rfl ?_
      refine pq_iconst (v := 3) F dX11_parse_558 (by decide) ?_
      refine pq_iload_n F dX11_parse_559 rfl rfl ?_
      refine pq_callV (As := [_, _]) F (k_X11_lay l D cy _ _ ?_ 0 0 ao aa 0 0 ec554_4_ha_554 hao_554 ec554_5_ha_554 haa_554 ec554_6_ha_554 rfl (by decide) (by rw [(hF554.1 aa 121 haa (by decide)).2, (hF554.1 ao 120 hao (by decide)).2]; exact hsm) (Nat.zero_le _) (fun z => absurd (show 0 < hN S554 ao from (by rw [(hF554.1 ao 120 hao (by decide)).2]; exact Nat.lt_of_lt_of_le (by decide) lo1)) z) _ _) ml_X11_98 ha_554 (by decide) rfl (Nat.le_of_ble_eq_true rfl) ⟨Nat.le_of_ble_eq_true rfl, Nat.le_of_ble_eq_true rfl⟩ ⟨Nat.le_of_ble_eq_true rfl, Nat.le_of_ble_eq_true rfl⟩ dX11_parse_560 (fun v560 S560 w560 => ?_)
      · exact ha_554
      obtain ⟨rfl, hF560, p560⟩ := w560
      have ha_560 := (hF560.1 _ _ ha_554 (by decide)).1
      have hgr_560 := (hF560.1 _ _ hgr_554 (by decide)).1
      have ec560_13_ha_560 := hF560.O ha_554 (by decide) (by decide) ec554_13_ha_554
      have hco_560 := (hF560.1 _ _ hco_554 (by decide)).1
      have ec560_14_ha_560 := hF560.O ha_554 (by decide) (by decide) ec554_14_ha_554
      have hch_560 := (hF560.1 _ _ hch_554 (by decide)).1
      have ec560_15_ha_560 := hF560.O ha_554 (by decide) (by decide) ec554_15_ha_554
      have hhm_560 := (hF560.1 _ _ hhm_554 (by decide)).1
      have ec560_16_ha_560 := hF560.O ha_554 (by decide) (by decide) ec554_16_ha_554
      have ec560_10_ha_560 := hF560.O ha_554 (by decide) (by decide) ec554_10_ha_554
      obtain ⟨o8, a8, y8, v48, vo8, v58, va8, v68, vy8, vs8, vl8, vi8, lt8, at8, atb8⟩ := p560
      have y81 : y8 = 1 := Int32.toInt_inj.mp (vy8.trans rfl)
      subst y81
      refine pq_iconst (v := -1) F dX11_parse_563 (by decide) ?_
      exact pq_iret F hr hlk hA (Nat.le_refl _) (Nat.le_refl _) (⟨(((((((pq_Fr.rf.uI hhm (by first | decide | exact List.mem_cons_self)).uI hgr (by first | decide | exact List.mem_cons_self)).uI hco (by first | decide | exact List.mem_cons_self)).uI hch (by first | decide | exact List.mem_cons_self)).uO ha (by decide)).cm hF554 (by decide)).cm hF560 (by decide)), -1, rfl, rfl, o8, a8, ⟨v48, vo8, v58, va8, vs8⟩, v68, at8, atb8⟩) dX11_parse_564
    · exact False.elim (by focus ((try clear p554); (try clear p560); simp only [vp_in_iff, Int32.lt_iff_toInt_lt, Int32.le_iff_toInt_le, ← Int32.toInt_inj, Int32.toInt_add, Int32.toInt_sub, Int32.toInt_mul, Int32.toInt_neg, pq_NuO, pq_NuI, pq_NuJ, pq_NuR, pq_shr6, pq_shr7, pq_shr8, lqm1, lq0, lq1, lq2, lq3, lq40, lq41, lq42, lq43, lq63, lq124, lq400] at *; (try simp (disch := omega) only [pq_bm] at *); all_goals omega))
  · exact False.elim (by focus ((try clear p554); (try clear p560); simp only [vp_in_iff, Int32.lt_iff_toInt_lt, Int32.le_iff_toInt_le, ← Int32.toInt_inj, Int32.toInt_add, Int32.toInt_sub, Int32.toInt_mul, Int32.toInt_neg, pq_NuO, pq_NuI, pq_NuJ, pq_NuR, pq_shr6, pq_shr7, pq_shr8, lqm1, lq0, lq1, lq2, lq3, lq40, lq41, lq42, lq43, lq63, lq124, lq400] at *; (try simp (disch := omega) only [pq_bm] at *); all_goals omega))

