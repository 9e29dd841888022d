set_option maxHeartbeats 4000000 in
set_option maxRecDepth 100000 in
theorem k_X6_readTapeY (l : Launch) (D : va_G) (cy : Nat → ClassId) (S : HS) (a : Nat) (ha : pq_R S a 9) (ch sq tp pl tk : Nat) (t : Int32) (e2 : hO S a 2 = .ref ch) (h2 : pq_R S ch 230) (e3 : hO S a 3 = .ref sq) (h3 : pq_R S sq 231) (e0 : hO S a 0 = .ref tp) (h0 : pq_R S tp 12) (et : hO S tp 1 = .int t) (ht0 : t.toInt = 0) (e1 : hO S a 1 = .ref pl) (h1 : pq_R S pl 8) (etk : hO S pl 0 = .ref tk) (htk : pq_R S tk 194) : pq_C l D cy yX6_readTape cX6_readTape 2 (some .int) 5 6 34 S [.ref a] (fun v S2 => pq_Fr [(9, 5), (9, 6), (9, 7), (9, 8), (9, 9), (5, 2), (190, 0), (191, 0), (195, 0), (194, 0), (8, 3), (230, 0), (231, 0)] S S2 ∧ ∃ x : Int32, v = some (.int x) ∧ (x = -1 ∧ ∀ i : Nat, i < hN S tk → hJ S2 tk i = 0)) := by
  refine pq_start (by decide) (Nat.le_of_ble_eq_true rfl) ?_
  intro p e s m args below meth c A F hr hlk hnm hA
  have lqm1 : (-1 : Int32).toInt = -1 := rfl
  have lq0 : (0 : Int32).toInt = 0 := rfl
  have lq1 : (1 : Int32).toInt = 1 := rfl
  have lq2048 : (2048 : Int32).toInt = 2048 := rfl
  refine pq_aload_n F dX6_readTape_0 rfl rfl ?_
  refine pq_get F ha (by decide) lk_X6_29 e1 dX6_readTape_1 ?_
  refine pq_callV (As := []) F (k_X5_clear l D cy _ _ ?_ tk etk htk) ml_X6_33 h1 (by decide) rfl (Nat.le_of_ble_eq_true rfl) ⟨Nat.le_of_ble_eq_true rfl, Nat.le_of_ble_eq_true rfl⟩ ⟨by decide, by decide⟩ dX6_readTape_4 (fun v4 S4 w4 => ?_)
  · exact h1
  obtain ⟨rfl, hF4, p4⟩ := w4
  have ha_4 := (hF4.1 _ _ ha (by decide)).1
  have h2_4 := (hF4.1 _ _ h2 (by decide)).1
  have ec4_2_ha_4 := hF4.O ha (by decide) (by decide) e2
  have h3_4 := (hF4.1 _ _ h3 (by decide)).1
  have ec4_3_ha_4 := hF4.O ha (by decide) (by decide) e3
  have h0_4 := (hF4.1 _ _ h0 (by decide)).1
  have ec4_0_ha_4 := hF4.O ha (by decide) (by decide) e0
  have h1_4 := (hF4.1 _ _ h1 (by decide)).1
  have ec4_1_ha_4 := hF4.O ha (by decide) (by decide) e1
  have ec4_1_h0_4 := hF4.O h0 (by decide) (by decide) et
  refine pq_aload_n F dX6_readTape_7 rfl rfl ?_
  refine pq_iconst (v := 0) F dX6_readTape_8 (by decide) ?_
  refine pq_putI F ha_4 (by decide) lp_X6_38 rfl (pq_any1 _) (pq_any2 _) dX6_readTape_9 ?_
  refine pq_aload_n F dX6_readTape_12 rfl rfl ?_
  refine pq_iconst (v := -1) F dX6_readTape_13 (by decide) ?_
  refine pq_putI F ha_4 (by decide) lp_X6_42 rfl (pq_any1 _) (pq_any2 _) dX6_readTape_14 ?_
  refine pq_aload_n F dX6_readTape_17 rfl rfl ?_
  refine pq_iconst (v := 0) F dX6_readTape_18 (by decide) ?_
  refine pq_putI F ha_4 (by decide) lp_X6_45 rfl (by focus ((try clear p4); (try clear p23); (try clear hZ); (try clear hB3); (try clear p104); (try clear hZ0); simp only [vp_in_iff, Int32.lt_iff_toInt_lt, Int32.le_iff_toInt_le, ← Int32.toInt_inj, Int32.toInt_add, Int32.toInt_sub, Int32.toInt_mul, Int32.toInt_neg, pq_NuO, pq_NuI, pq_NuJ, pq_NuR, pq_shr6, pq_shr7, pq_shr8, lqm1, lq0, lq1, lq2048] at *; (try simp (disch := omega) only [pq_bm] at *); all_goals omega)) (by focus ((try clear p4); (try clear p23); (try clear hZ); (try clear hB3); (try clear p104); (try clear hZ0); simp only [vp_in_iff, Int32.lt_iff_toInt_lt, Int32.le_iff_toInt_le, ← Int32.toInt_inj, Int32.toInt_add, Int32.toInt_sub, Int32.toInt_mul, Int32.toInt_neg, pq_NuO, pq_NuI, pq_NuJ, pq_NuR, pq_shr6, pq_shr7, pq_shr8, lqm1, lq0, lq1, lq2048] at *; (try simp (disch := omega) only [pq_bm] at *); all_goals omega)) dX6_readTape_19 ?_
  refine pq_aload_n F dX6_readTape_22 rfl rfl ?_
  refine pq_callV (As := []) F (k_X6_beginLevel l D cy _ _ ?_ _ _ _ _ _ _ _ (show pq_Rd _ a ch sq tp 0 0 (-1) t ((0 : Int32).toInt - 1) from ⟨⟨ha_4, (pq_kp (pq_kp (pq_kp (hF4.O ha (by decide) (by decide) e2) (by decide)) (by decide)) (by decide)), hF4.R h2 (by decide), (pq_kp (pq_kp (pq_kp (hF4.O ha (by decide) (by decide) e3) (by decide)) (by decide)) (by decide)), hF4.R h3 (by decide), (pq_kp (pq_kp (pq_kp (hF4.O ha (by decide) (by decide) e0) (by decide)) (by decide)) (by decide)), hF4.R h0 (by decide)⟩, ⟨pq_ks, pq_kp (pq_kp pq_ks (by decide)) (by decide), pq_kp pq_ks (by decide), (pq_ko (pq_ko (pq_ko (hF4.O h0 (by decide) (by decide) et) (hF4.R h0 (by decide)) ha_4 (by decide)) (hF4.R h0 (by decide)) ha_4 (by decide)) (hF4.R h0 (by decide)) ha_4 (by decide))⟩, ⟨(by focus ((try clear p4); (try clear p23); (try clear hZ); (try clear hB3); (try clear p104); (try clear hZ0); simp only [vp_in_iff, Int32.lt_iff_toInt_lt, Int32.le_iff_toInt_le, ← Int32.toInt_inj, Int32.toInt_add, Int32.toInt_sub, Int32.toInt_mul, Int32.toInt_neg, pq_NuO, pq_NuI, pq_NuJ, pq_NuR, pq_shr6, pq_shr7, pq_shr8, lqm1, lq0, lq1, lq2048] at *; (try simp (disch := omega) only [pq_bm] at *); all_goals omega)), (by focus ((try clear p4); (try clear p23); (try clear hZ); (try clear hB3); (try clear p104); (try clear hZ0); simp only [vp_in_iff, Int32.lt_iff_toInt_lt, Int32.le_iff_toInt_le, ← Int32.toInt_inj, Int32.toInt_add, Int32.toInt_sub, Int32.toInt_mul, Int32.toInt_neg, pq_NuO, pq_NuI, pq_NuJ, pq_NuR, pq_shr6, pq_shr7, pq_shr8, lqm1, lq0, lq1, lq2048] at *; (try simp (disch := omega) only [pq_bm] at *); all_goals omega)), (by focus ((try clear p4); (try clear p23); (try clear hZ); (try clear hB3); (try clear p104); (try clear hZ0); simp only [vp_in_iff, Int32.lt_iff_toInt_lt, Int32.le_iff_toInt_le, ← Int32.toInt_inj, Int32.toInt_add, Int32.toInt_sub, Int32.toInt_mul, Int32.toInt_neg, pq_NuO, pq_NuI, pq_NuJ, pq_NuR, pq_shr6, pq_shr7, pq_shr8, lqm1, lq0, lq1, lq2048] at *; (try simp (disch := omega) only [pq_bm] at *); all_goals omega)), (by focus ((try clear p4); (try clear p23); (try clear hZ); (try clear hB3); (try clear p104); (try clear hZ0); simp only [vp_in_iff, Int32.lt_iff_toInt_lt, Int32.le_iff_toInt_le, ← Int32.toInt_inj, Int32.toInt_add, Int32.toInt_sub, Int32.toInt_mul, Int32.toInt_neg, pq_NuO, pq_NuI, pq_NuJ, pq_NuR, pq_shr6, pq_shr7, pq_shr8, lqm1, lq0, lq1, lq2048] at *; (try simp (disch := omega) only [pq_bm] at *); all_goals omega)), (by focus ((try clear p4); (try clear p23); (try clear hZ); (try clear hB3); (try clear p104); (try clear hZ0); simp only [vp_in_iff, Int32.lt_iff_toInt_lt, Int32.le_iff_toInt_le, ← Int32.toInt_inj, Int32.toInt_add, Int32.toInt_sub, Int32.toInt_mul, Int32.toInt_neg, pq_NuO, pq_NuI, pq_NuJ, pq_NuR, pq_shr6, pq_shr7, pq_shr8, lqm1, lq0, lq1, lq2048] at *; (try simp (disch := omega) only [pq_bm] at *); all_goals omega)), (by focus ((try clear p4); (try clear p23); (try clear hZ); (try clear hB3); (try clear p104); (try clear hZ0); simp only [vp_in_iff, Int32.lt_iff_toInt_lt, Int32.le_iff_toInt_le, ← Int32.toInt_inj, Int32.toInt_add, Int32.toInt_sub, Int32.toInt_mul, Int32.toInt_neg, pq_NuO, pq_NuI, pq_NuJ, pq_NuR, pq_shr6, pq_shr7, pq_shr8, lqm1, lq0, lq1, lq2048] at *; (try simp (disch := omega) only [pq_bm] at *); all_goals omega))⟩, fun i hi => absurd hi (by have : (0 : Int32).toInt = 0 := rfl; omega)⟩)) ml_X6_48 ha_4 (by decide) rfl (Nat.le_of_ble_eq_true rfl) ⟨Nat.le_of_ble_eq_true rfl, Nat.le_of_ble_eq_true rfl⟩ ⟨Nat.le_of_ble_eq_true rfl, Nat.le_of_ble_eq_true rfl⟩ dX6_readTape_23 (fun v23 S23 w23 => ?_)
  · exact ha_4
  obtain ⟨rfl, hF23, p23⟩ := w23
  have ha_23 := (hF23.1 _ _ ha_4 (by decide)).1
  have h2_23 := (hF23.1 _ _ h2_4 (by decide)).1
  have ec23_2_ha_23 := hF23.O ha_4 (by decide) (by decide) (pq_kp (pq_kp (pq_kp ec4_2_ha_4 (by decide)) (by decide)) (by decide))
  have h3_23 := (hF23.1 _ _ h3_4 (by decide)).1
  have ec23_3_ha_23 := hF23.O ha_4 (by decide) (by decide) (pq_kp (pq_kp (pq_kp ec4_3_ha_4 (by decide)) (by decide)) (by decide))
  have h0_23 := (hF23.1 _ _ h0_4 (by decide)).1
  have ec23_0_ha_23 := hF23.O ha_4 (by decide) (by decide) (pq_kp (pq_kp (pq_kp ec4_0_ha_4 (by decide)) (by decide)) (by decide))
  have h1_23 := (hF23.1 _ _ h1_4 (by decide)).1
  have ec23_1_ha_23 := hF23.O ha_4 (by decide) (by decide) (pq_kp (pq_kp (pq_kp ec4_1_ha_4 (by decide)) (by decide)) (by decide))
  have ec23_1_h0_23 := hF23.O h0_4 (by decide) (by decide) (pq_ko (pq_ko (pq_ko ec4_1_h0_4 h0_4 ha_4 (by decide)) h0_4 ha_4 (by decide)) h0_4 ha_4 (by decide))
  have ec23_5_ha_23 := hF23.O ha_4 (by decide) (by decide) (pq_kp (pq_kp pq_ks (by decide)) (by decide))
  have ec23_7_ha_23 := hF23.O ha_4 (by decide) (by decide) (pq_kp pq_ks (by decide))
  have ec23_6_ha_23 := hF23.O ha_4 (by decide) (by decide) pq_ks
  have hB3 := p23
  have hb3 := hB3.b
  have hZ0 : ∀ i : Nat, i < hN S tk → hJ S23 tk i = 0 := fun i hi => (by have z1 := p4.2 i hi; have z2 := hF4.R htk (by decide); have z3 := (hF23.2.2 tk 194 z2 (by decide) (by decide)).2.1; exact (congrFun z3 i).trans z1)
  refine pq_iconst (v := 0) F dX6_readTape_26 (by decide) ?_
  refine pq_istore_n F dX6_readTape_27 rfl (by decide) ?_
  refine pq_iload_n F dX6_readTape_28 rfl rfl ?_
  refine pq_sipush (v := 2048) F dX6_readTape_29 (by decide) ?_
  refine pq_icmp_ge (tgt := 66) F dX6_readTape_32 (by decide) (fun c32 => ?_) (fun c32 => ?_)
  · exact False.elim (by focus ((try clear p4); (try clear p23); (try clear hZ); (try clear hB3); (try clear p104); (try clear hZ0); simp only [vp_in_iff, Int32.lt_iff_toInt_lt, Int32.le_iff_toInt_le, ← Int32.toInt_inj, Int32.toInt_add, Int32.toInt_sub, Int32.toInt_mul, Int32.toInt_neg, pq_NuO, pq_NuI, pq_NuJ, pq_NuR, pq_shr6, pq_shr7, pq_shr8, lqm1, lq0, lq1, lq2048] at *; (try simp (disch := omega) only [pq_bm] at *); all_goals omega))
  · skip
    refine pq_aload_n F dX6_readTape_35 rfl rfl ?_
    refine pq_get F ha_23 (by decide) lk_X6_38 hB3.e5 dX6_readTape_36 ?_
    refine pq_aload_n F dX6_readTape_39 rfl rfl ?_
    refine pq_get F ha_23 (by decide) lk_X6_25 hB3.e0 dX6_readTape_40 ?_
    refine pq_get F hB3.h0 (by decide) lk_X6_51 hB3.et dX6_readTape_43 ?_
    refine pq_icmp_ge (tgt := 66) F dX6_readTape_46 (by decide) (fun c46 => ?_) (fun c46 => ?_)
    · skip
      refine pq_aload_n F dX6_readTape_66 rfl rfl ?_
      refine pq_get F ha_23 (by decide) lk_X6_42 hB3.e7 dX6_readTape_67 ?_
      refine pq_if_ge (tgt := 88) F dX6_readTape_70 (by decide) (fun c70 => ?_) (fun c70 => ?_)
      · exact False.elim (by focus ((try clear p4); (try clear p23); (try clear hZ); (try clear hB3); (try clear p104); (try clear hZ0); simp only [vp_in_iff, Int32.lt_iff_toInt_lt, Int32.le_iff_toInt_le, ← Int32.toInt_inj, Int32.toInt_add, Int32.toInt_sub, Int32.toInt_mul, Int32.toInt_neg, pq_NuO, pq_NuI, pq_NuJ, pq_NuR, pq_shr6, pq_shr7, pq_shr8, lqm1, lq0, lq1, lq2048] at *; (try simp (disch := omega) only [pq_bm] at *); all_goals omega))
      · skip
        refine pq_aload_n F dX6_readTape_73 rfl rfl ?_
        refine pq_get F ha_23 (by decide) lk_X6_45 hB3.e6 dX6_readTape_74 ?_
        refine pq_if_le (tgt := 88) F dX6_readTape_77 (by decide) (fun c77 => ?_) (fun c77 => ?_)
        · skip
          refine pq_aload_n F dX6_readTape_88 rfl rfl ?_
          refine pq_aload_n F dX6_readTape_89 rfl rfl ?_
          refine pq_get F ha_23 (by decide) lk_X6_11 hB3.e2 dX6_readTape_90 ?_
          refine pq_callV (As := [_]) F (k_X6_hereC l D cy _ _ ?_ _ ?_ _ hB3.e6 hb3.1 hb3.2.1 (hB3.c (Int.le_refl _))) ml_X6_59 ha_23 (by decide) rfl (Nat.le_of_ble_eq_true rfl) ⟨Nat.le_of_ble_eq_true rfl, Nat.le_of_ble_eq_true rfl⟩ ⟨by decide, by decide⟩ dX6_readTape_93 (fun v93 S93 w93 => ?_)
          · exact ha_23
          · exact hB3.h2
          obtain ⟨u93, y93, rfl, hy93⟩ := w93
          rw [u93]
          rw [u93] at hy93
          refine pq_aload_n F dX6_readTape_96 rfl rfl ?_
          refine pq_aload_n F dX6_readTape_97 rfl rfl ?_
          refine pq_get F ha_23 (by decide) lk_X6_17 hB3.e3 dX6_readTape_98 ?_
          refine pq_callV (As := [_]) F (k_X6_hereQ l D cy _ _ ?_ _ ?_ _ hB3.e6 hb3.1 hb3.2.1 (hB3.q (Int.le_refl _))) ml_X6_59 ha_23 (by decide) rfl (Nat.le_of_ble_eq_true rfl) ⟨Nat.le_of_ble_eq_true rfl, Nat.le_of_ble_eq_true rfl⟩ ⟨by decide, by decide⟩ dX6_readTape_101 (fun v101 S101 w101 => ?_)
          · exact ha_23
          · exact hB3.h3
          obtain ⟨u101, y101, rfl, hy101⟩ := w101
          rw [u101]
          rw [u101] at hy101
          refine pq_callV (As := [_]) F (k_X2_addChoice l D cy _ _ ?_ _ ?_) ml_X6_63 hy93 (by decide) rfl (Nat.le_of_ble_eq_true rfl) ⟨Nat.le_of_ble_eq_true rfl, Nat.le_of_ble_eq_true rfl⟩ ⟨by decide, by decide⟩ dX6_readTape_104 (fun v104 S104 w104 => ?_)
          · exact hy93
          · exact hy101
          obtain ⟨rfl, hF104⟩ := w104
          have ha_104 := (hF104.1 _ _ ha_23 (by decide)).1
          have hz_104 := (hF104.1 _ _ hB3.h2 (by decide)).1
          have ec104_2_ha_104 := hF104.O ha_23 (by decide) (by decide) hB3.e2
          have hz_104z := (hF104.1 _ _ hB3.h3 (by decide)).1
          have ec104_3_ha_104 := hF104.O ha_23 (by decide) (by decide) hB3.e3
          have hz_104zz := (hF104.1 _ _ hB3.h0 (by decide)).1
          have ec104_0_ha_104 := hF104.O ha_23 (by decide) (by decide) hB3.e0
          have h1_104 := (hF104.1 _ _ h1_23 (by decide)).1
          have ec104_1_ha_104 := hF104.O ha_23 (by decide) (by decide) ec23_1_ha_23
          have h0_104 := (hF104.1 _ _ h0_23 (by decide)).1
          have ec104_1_h0_104 := hF104.O h0_23 (by decide) (by decide) ec23_1_h0_23
          have ec104_5_ha_104 := hF104.O ha_23 (by decide) (by decide) hB3.e5
          have ec104_7_ha_104 := hF104.O ha_23 (by decide) (by decide) hB3.e7
          have ec104_6_ha_104 := hF104.O ha_23 (by decide) (by decide) hB3.e6
          have ec104_1_hz_104zz := hF104.O hB3.h0 (by decide) (by decide) hB3.et
          refine pq_aload_n F dX6_readTape_107 rfl rfl ?_
          refine pq_get F ha_104 (by decide) lk_X6_29 ec104_1_ha_104 dX6_readTape_108 ?_
          refine pq_getR F h1_104 (by decide) lk_X6_67 rfl dX6_readTape_111 (fun r111 e111 h111 => ?_)
          refine pq_aload_n F dX6_readTape_114 rfl rfl ?_
          refine pq_aload_n F dX6_readTape_115 rfl rfl ?_
          refine pq_get F ha_104 (by decide) lk_X6_11 ec104_2_ha_104 dX6_readTape_116 ?_
          refine pq_callV (As := [_]) F (k_X6_hereC l D cy _ _ ?_ _ ?_ _ (hB3.fr hF104 (by decide)).e6 hb3.1 hb3.2.1 ((hB3.fr hF104 (by decide)).c (Int.le_refl _))) ml_X6_59 ha_104 (by decide) rfl (Nat.le_of_ble_eq_true rfl) ⟨Nat.le_of_ble_eq_true rfl, Nat.le_of_ble_eq_true rfl⟩ ⟨by decide, by decide⟩ dX6_readTape_119 (fun v119 S119 w119 => ?_)
          · exact ha_104
          · exact hz_104
          obtain ⟨u119, y119, rfl, hy119⟩ := w119
          rw [u119]
          rw [u119] at hy119
          refine pq_callV (As := [_]) F (k_X2_become l D cy _ _ ?_ _ ?_) ml_X6_70 h111 (by decide) rfl (Nat.le_of_ble_eq_true rfl) ⟨Nat.le_of_ble_eq_true rfl, Nat.le_of_ble_eq_true rfl⟩ ⟨by decide, by decide⟩ dX6_readTape_122 (fun v122 S122 w122 => ?_)
          · exact h111
          · exact hy119
          obtain ⟨rfl, hF122⟩ := w122
          have ha_122 := (hF122.1 _ _ ha_104 (by decide)).1
          have hz_122 := (hF122.1 _ _ hz_104 (by decide)).1
          have ec122_2_ha_122 := hF122.O ha_104 (by decide) (by decide) ec104_2_ha_104
          have hz_104z_122 := (hF122.1 _ _ hz_104z (by decide)).1
          have ec122_3_ha_122 := hF122.O ha_104 (by decide) (by decide) ec104_3_ha_104
          have hz_104zz_122 := (hF122.1 _ _ hz_104zz (by decide)).1
          have ec122_0_ha_122 := hF122.O ha_104 (by decide) (by decide) ec104_0_ha_104
          have h1_122 := (hF122.1 _ _ h1_104 (by decide)).1
          have ec122_1_ha_122 := hF122.O ha_104 (by decide) (by decide) ec104_1_ha_104
          have h0_122 := (hF122.1 _ _ h0_104 (by decide)).1
          have ec122_1_h0_122 := hF122.O h0_104 (by decide) (by decide) ec104_1_h0_104
          have ec122_5_ha_122 := hF122.O ha_104 (by decide) (by decide) ec104_5_ha_104
          have ec122_7_ha_122 := hF122.O ha_104 (by decide) (by decide) ec104_7_ha_104
          have ec122_6_ha_122 := hF122.O ha_104 (by decide) (by decide) ec104_6_ha_104
          have ec122_1_hz_104zz_122 := hF122.O hz_104zz (by decide) (by decide) ec104_1_hz_104zz
          have h111_122 := (hF122.1 _ _ h111 (by decide)).1
          have ec122_2_h1_122 := hF122.O h1_104 (by decide) (by decide) e111
          refine pq_aload_n F dX6_readTape_125 rfl rfl ?_
          refine pq_get F ha_122 (by decide) lk_X6_42 ec122_7_ha_122 dX6_readTape_126 ?_
          exact pq_iret F hr hlk hA (Nat.le_of_ble_eq_true rfl) (Nat.le_of_ble_eq_true rfl) (⟨(((((((pq_Fr.rf.cm hF4 (by decide)).uO ha_4 (by decide)).uO ha_4 (by decide)).uO ha_4 (by decide)).cm hF23 (by decide)).cm hF104 (by decide)).cm hF122 (by decide)), _, rfl, rfl, fun i hi => (by have z2 := hF23.R (hF4.R htk (by decide)) (by decide); have z3 := hF104.R z2 (by decide); exact (congrFun (hF122.2.2 tk 194 z3 (by decide) (by decide)).2.1 i).trans ((congrFun (hF104.2.2 tk 194 z2 (by decide) (by decide)).2.1 i).trans (hZ0 i hi)))⟩) dX6_readTape_129
        · exact False.elim (by focus ((try clear p4); (try clear p23); (try clear hZ); (try clear hB3); (try clear p104); (try clear hZ0); simp only [vp_in_iff, Int32.lt_iff_toInt_lt, Int32.le_iff_toInt_le, ← Int32.toInt_inj, Int32.toInt_add, Int32.toInt_sub, Int32.toInt_mul, Int32.toInt_neg, pq_NuO, pq_NuI, pq_NuJ, pq_NuR, pq_shr6, pq_shr7, pq_shr8, lqm1, lq0, lq1, lq2048] at *; (try simp (disch := omega) only [pq_bm] at *); all_goals omega))
    · exact False.elim (by focus ((try clear p4); (try clear p23); (try clear hZ); (try clear hB3); (try clear p104); (try clear hZ0); simp only [vp_in_iff, Int32.lt_iff_toInt_lt, Int32.le_iff_toInt_le, ← Int32.toInt_inj, Int32.toInt_add, Int32.toInt_sub, Int32.toInt_mul, Int32.toInt_neg, pq_NuO, pq_NuI, pq_NuJ, pq_NuR, pq_shr6, pq_shr7, pq_shr8, lqm1, lq0, lq1, lq2048] at *; (try simp (disch := omega) only [pq_bm] at *); all_goals omega))

set_option maxHeartbeats 4000000 in
set_option maxRecDepth 100000 in
theorem k_X8_visitFromY (l : Launch) (D : va_G) (cy : Nat → ClassId) (S : HS) (a : Nat) (ha : pq_R S a 11) (sv : Int32) (kd st : Nat) (hW : pq_Wk S a kd st 1 2) (pl tk gl : Nat) (e0 : hO S a 0 = .ref pl) (hpl : pq_R S pl 8) (etk : hO S pl 0 = .ref tk) (htk : pq_R S tk 194) (e5 : hO S a 5 = .ref gl) (hgl : pq_R S gl 199) (e9 : hO S a 9 = .int 0) (hZ : (∀ i : Nat, i < hN S tk → hJ S tk i = 0)) (hsv : sv.toInt = 1) (hs0 : pq_lt (hI S st) 1 1) : pq_C l D cy yX8_visitFrom cX8_visitFrom 6 (none) 1 0 0 S [.ref a, .int sv] (fun v S2 => v = none ∧ pq_Fr [(199, 0), (167, 0), (11, 8), (11, 9)] S S2 ∧ (pq_Wk S2 a kd st 1 2 ∧ hO S2 a 9 = .int 0 ∧ pq_lt (hI S2 st) 2 1)) := by
  refine pq_start (by decide) (Nat.le_of_ble_eq_true rfl) ?_
  intro p e s m args below meth c A F hr hlk hnm hA
  have lqm1 : (-1 : Int32).toInt = -1 := rfl
  have lq0 : (0 : Int32).toInt = 0 := rfl
  have lq1 : (1 : Int32).toInt = 1 := rfl
  have lq2 : (2 : Int32).toInt = 2 := rfl
  have lq7 : (7 : Int32).toInt = 7 := rfl
  have lq400 : (400 : Int32).toInt = 400 := rfl
  have hwl := hW.l
  have L25 : ∀  (K : ∀ (S2 : HS) (j_a2 : Int64) (hF2 : pq_Fr [(199, 0)] S S2) (hj2 : j_a2 = 0), pq_At p l e (pq_rm 1 0 0) s m args below meth c (pq_Z below args s D cy S 0 0 (fun v S2 => v = none ∧ pq_Fr [(199, 0), (167, 0), (11, 8), (11, 9)] S S2 ∧ (pq_Wk S2 a kd st 1 2 ∧ hO S2 a 9 = .int 0 ∧ pq_lt (hI S2 st) 2 1))) D cy A 6 0 0 86 S2 [some (.ref a), some (.int sv), some (.int 0), some (.long j_a2), none, none] []) (fu : Nat) (S1 : HS) (j_any : Int64) (q9 : Int32)  (hF : pq_Fr [(199, 0)] S S1) (hz : j_any = 0) (hq0 : 0 ≤ q9.toInt) (hq1 : q9.toInt ≤ 7), (7 - q9.toInt).toNat < fu → pq_At p l e (pq_rm 1 0 0) s m args below meth c (pq_Z below args s D cy S 0 0 (fun v S2 => v = none ∧ pq_Fr [(199, 0), (167, 0), (11, 8), (11, 9)] S S2 ∧ (pq_Wk S2 a kd st 1 2 ∧ hO S2 a 9 = .int 0 ∧ pq_lt (hI S2 st) 2 1))) D cy A 6 0 0 25 S1 [some (.ref a), some (.int sv), some (.int 0), some (.long j_any), none, some (.int q9)] [] := by
    intro  K fu
    induction fu with
    | zero => intro S1 j_any q9 hF hz hq0 hq1 hm; exact absurd hm (Nat.not_lt_zero _)
    | succ fu ih =>
      intro S1 j_any q9 hF hz hq0 hq1 hm
      have haL := hF.R ha (by first | decide | omega)
      have e0L := hF.O ha (by decide) (by decide) e0
      have hplL := hF.R hpl (by decide)
      have etkL := hF.O hpl (by decide) (by decide) etk
      have htkL := hF.R htk (by decide)
      have e5L := hF.O ha (by decide) (by decide) e5
      have hglL := hF.R hgl (by decide)
      have hNt : hN S1 tk = hN S tk := (hF.1 tk 194 htk (by decide)).2
      have hZL : ∀ i : Nat, i < hN S tk → hJ S1 tk i = 0 := fun i hi => (congrFun (hF.2.2 tk 194 htk (by decide) (by decide)).2.1 i).trans (hZ i hi)
      refine pq_lenF htkL (by decide) rfl (fun lt1 lt2 => ?_)
      refine pq_iload F dX8_visitFrom_25 rfl ?_
      refine pq_bipush (v := 7) F dX8_visitFrom_27 (by decide) ?_
      refine pq_icmp_ge (tgt := 86) F dX8_visitFrom_29 (by decide) (fun c29 => ?_) (fun c29 => ?_)
      · skip
        exact pq_fgm [true, true, true, true, false, false] (K _ _ hF hz)
      · skip
        refine pq_aload_n F dX8_visitFrom_32 rfl rfl ?_
        refine pq_get F haL (by decide) lk_X8_29 e5L dX8_visitFrom_33 ?_
        refine pq_iload F dX8_visitFrom_36 rfl ?_
        refine pq_aload_n F dX8_visitFrom_38 rfl rfl ?_
        refine pq_getR F haL (by decide) lk_X8_26 rfl dX8_visitFrom_39 (fun r39 e39 h39 => ?_)
        refine pq_iload F dX8_visitFrom_42 rfl ?_
        refine pq_lald F h39 (by decide) (by decide) rfl (fun n1_44 n2_44 => (by focus ((try clear hW); (try clear hZ); (try clear hs0); (try clear hZL); (try clear hW5); (try clear hs5); (try clear ih); (try clear K); simp only [vp_in_iff, Int32.lt_iff_toInt_lt, Int32.le_iff_toInt_le, ← Int32.toInt_inj, Int32.toInt_add, Int32.toInt_sub, Int32.toInt_mul, Int32.toInt_neg, pq_NuO, pq_NuI, pq_NuJ, pq_NuR, pq_shr6, pq_shr7, pq_shr8, lqm1, lq0, lq1, lq2, lq7, lq400] at *; (try simp (disch := omega) only [pq_bm] at *); all_goals omega))) dX8_visitFrom_44 (fun x44 e44 => ?_)
        refine pq_aload_n F dX8_visitFrom_45 rfl rfl ?_
        refine pq_get F haL (by decide) lk_X8_35 e0L dX8_visitFrom_46 ?_
        refine pq_get F hplL (by decide) lk_X8_57 etkL dX8_visitFrom_49 ?_
        refine pq_aload_n F dX8_visitFrom_52 rfl rfl ?_
        refine pq_getR F haL (by decide) lk_X8_12 rfl dX8_visitFrom_53 (fun r53 e53 h53 => ?_)
        refine pq_getR F h53 (by decide) lk_X8_112 rfl dX8_visitFrom_56 (fun r56 e56 h56 => ?_)
        refine pq_iload_n F dX8_visitFrom_59 rfl rfl ?_
        refine pq_iald F h56 (by decide) (by decide) rfl (fun n1_60 n2_60 => (by focus ((try clear hW); (try clear hZ); (try clear hs0); (try clear hZL); (try clear hW5); (try clear hs5); (try clear ih); (try clear K); simp only [vp_in_iff, Int32.lt_iff_toInt_lt, Int32.le_iff_toInt_le, ← Int32.toInt_inj, Int32.toInt_add, Int32.toInt_sub, Int32.toInt_mul, Int32.toInt_neg, pq_NuO, pq_NuI, pq_NuJ, pq_NuR, pq_shr6, pq_shr7, pq_shr8, lqm1, lq0, lq1, lq2, lq7, lq400] at *; (try simp (disch := omega) only [pq_bm] at *); all_goals omega))) dX8_visitFrom_60 (fun x60 e60 l60 u60 => ?_)
        refine pq_bipush (v := 7) F dX8_visitFrom_61 (by decide) ?_
        refine pq_imul F dX8_visitFrom_63 ?_
        refine pq_iload F dX8_visitFrom_64 rfl ?_
        refine pq_iadd F dX8_visitFrom_66 ?_
        refine pq_lald F htkL (by decide) (by decide) rfl (fun n1_67 n2_67 => (by focus ((try clear hW); (try clear hZ); (try clear hs0); (try clear hZL); (try clear hW5); (try clear hs5); (try clear ih); (try clear K); simp only [vp_in_iff, Int32.lt_iff_toInt_lt, Int32.le_iff_toInt_le, ← Int32.toInt_inj, Int32.toInt_add, Int32.toInt_sub, Int32.toInt_mul, Int32.toInt_neg, pq_NuO, pq_NuI, pq_NuJ, pq_NuR, pq_shr6, pq_shr7, pq_shr8, lqm1, lq0, lq1, lq2, lq7, lq400] at *; (try simp (disch := omega) only [pq_bm] at *); all_goals omega))) dX8_visitFrom_67 (fun x67 e67 => ?_)
        have x67e : x67 = 0 := e67.trans (hZL _ (by have c9 := pq_cl (x := x60 * 7 + q9) (by focus ((try clear hW); (try clear hZ); (try clear hs0); (try clear hZL); (try clear hW5); (try clear hs5); (try clear ih); (try clear K); simp only [vp_in_iff, Int32.lt_iff_toInt_lt, Int32.le_iff_toInt_le, ← Int32.toInt_inj, Int32.toInt_add, Int32.toInt_sub, Int32.toInt_mul, Int32.toInt_neg, pq_NuO, pq_NuI, pq_NuJ, pq_NuR, pq_shr6, pq_shr7, pq_shr8, lqm1, lq0, lq1, lq2, lq7, lq400] at *; (try simp (disch := omega) only [pq_bm] at *); all_goals omega)); focus ((try clear hW); (try clear hZ); (try clear hs0); (try clear hZL); (try clear hW5); (try clear hs5); (try clear ih); (try clear K); simp only [vp_in_iff, Int32.lt_iff_toInt_lt, Int32.le_iff_toInt_le, ← Int32.toInt_inj, Int32.toInt_add, Int32.toInt_sub, Int32.toInt_mul, Int32.toInt_neg, pq_NuO, pq_NuI, pq_NuJ, pq_NuR, pq_shr6, pq_shr7, pq_shr8, lqm1, lq0, lq1, lq2, lq7, lq400] at *; (try simp (disch := omega) only [pq_bm] at *); all_goals omega)))
        refine pq_land F dX8_visitFrom_68 ?_
        refine pq_last F hglL (by decide) (by decide) rfl (fun n1_69 n2_69 => (by focus ((try clear hW); (try clear hZ); (try clear hs0); (try clear hZL); (try clear hW5); (try clear hs5); (try clear ih); (try clear K); simp only [vp_in_iff, Int32.lt_iff_toInt_lt, Int32.le_iff_toInt_le, ← Int32.toInt_inj, Int32.toInt_add, Int32.toInt_sub, Int32.toInt_mul, Int32.toInt_neg, pq_NuO, pq_NuI, pq_NuJ, pq_NuR, pq_shr6, pq_shr7, pq_shr8, lqm1, lq0, lq1, lq2, lq7, lq400] at *; (try simp (disch := omega) only [pq_bm] at *); all_goals omega))) dX8_visitFrom_69 ?_
        refine pq_lload_n F dX8_visitFrom_70 rfl rfl ?_
        refine pq_aload_n F dX8_visitFrom_71 rfl rfl ?_
        refine pq_get F haL (by decide) lk_X8_29 e5L dX8_visitFrom_72 ?_
        refine pq_iload F dX8_visitFrom_75 rfl ?_
        refine pq_lald F hglL (by decide) (by decide) rfl (fun n1_77 n2_77 => (by focus ((try clear hW); (try clear hZ); (try clear hs0); (try clear hZL); (try clear hW5); (try clear hs5); (try clear ih); (try clear K); simp only [vp_in_iff, Int32.lt_iff_toInt_lt, Int32.le_iff_toInt_le, ← Int32.toInt_inj, Int32.toInt_add, Int32.toInt_sub, Int32.toInt_mul, Int32.toInt_neg, pq_NuO, pq_NuI, pq_NuJ, pq_NuR, pq_shr6, pq_shr7, pq_shr8, lqm1, lq0, lq1, lq2, lq7, lq400] at *; (try simp (disch := omega) only [pq_bm] at *); all_goals omega))) dX8_visitFrom_77 (fun x77 e77 => ?_)
        refine pq_lor F dX8_visitFrom_78 ?_
        refine pq_lstore_n F dX8_visitFrom_79 rfl (by decide) ?_
        refine pq_iinc (v := 1) F dX8_visitFrom_80 rfl (by decide) (by decide) ?_
        refine pq_goto (tgt := 25) F dX8_visitFrom_83 (by decide) ?_
        exact pq_fgm [true, true, true, true, false, true] (ih _ _ _ (hF.uJ hglL (by first | decide | exact List.mem_cons_self)) (by have e9x : x77 = x44 &&& x67 := e77.trans (by simp only [pq_IuO, pq_IuJ, pq_Iu, pq_JuO, pq_JuI, pq_Ju, pq_RuO, pq_RuJ, pq_RuI, if_true, if_false]; exact pf_ulS); rw [hz, e9x, x67e]; simp) (by focus ((try clear hW); (try clear hZ); (try clear hs0); (try clear hZL); (try clear hW5); (try clear hs5); (try clear ih); (try clear K); simp only [vp_in_iff, Int32.lt_iff_toInt_lt, Int32.le_iff_toInt_le, ← Int32.toInt_inj, Int32.toInt_add, Int32.toInt_sub, Int32.toInt_mul, Int32.toInt_neg, pq_NuO, pq_NuI, pq_NuJ, pq_NuR, pq_shr6, pq_shr7, pq_shr8, lqm1, lq0, lq1, lq2, lq7, lq400] at *; (try simp (disch := omega) only [pq_bm] at *); all_goals omega)) (by focus ((try clear hW); (try clear hZ); (try clear hs0); (try clear hZL); (try clear hW5); (try clear hs5); (try clear ih); (try clear K); simp only [vp_in_iff, Int32.lt_iff_toInt_lt, Int32.le_iff_toInt_le, ← Int32.toInt_inj, Int32.toInt_add, Int32.toInt_sub, Int32.toInt_mul, Int32.toInt_neg, pq_NuO, pq_NuI, pq_NuJ, pq_NuR, pq_shr6, pq_shr7, pq_shr8, lqm1, lq0, lq1, lq2, lq7, lq400] at *; (try simp (disch := omega) only [pq_bm] at *); all_goals omega)) (by focus ((try clear hW); (try clear hZ); (try clear hs0); (try clear hZL); (try clear hW5); (try clear hs5); (try clear ih); (try clear K); simp only [vp_in_iff, Int32.lt_iff_toInt_lt, Int32.le_iff_toInt_le, ← Int32.toInt_inj, Int32.toInt_add, Int32.toInt_sub, Int32.toInt_mul, Int32.toInt_neg, pq_NuO, pq_NuI, pq_NuJ, pq_NuR, pq_shr6, pq_shr7, pq_shr8, lqm1, lq0, lq1, lq2, lq7, lq400] at *; (try simp (disch := omega) only [pq_bm] at *); all_goals omega)))
  refine pq_iconst (v := 0) F dX8_visitFrom_0 (by decide) ?_
  refine pq_istore_n F dX8_visitFrom_1 rfl (by decide) ?_
  refine pq_iload_n F dX8_visitFrom_2 rfl rfl ?_
  refine pq_aload_n F dX8_visitFrom_3 rfl rfl ?_
  refine pq_get F ha (by decide) lk_X8_12 hW.e1 dX8_visitFrom_4 ?_
  refine pq_get F hW.hk (by decide) lk_X8_66 hW.en dX8_visitFrom_7 ?_
  refine pq_icmp_ge (tgt := 185) F dX8_visitFrom_10 (by decide) (fun c10 => ?_) (fun c10 => ?_)
  · exact False.elim (by focus ((try clear hW); (try clear hZ); (try clear hs0); (try clear hZL); (try clear hW5); (try clear hs5); (try clear ih); (try clear K); simp only [vp_in_iff, Int32.lt_iff_toInt_lt, Int32.le_iff_toInt_le, ← Int32.toInt_inj, Int32.toInt_add, Int32.toInt_sub, Int32.toInt_mul, Int32.toInt_neg, pq_NuO, pq_NuI, pq_NuJ, pq_NuR, pq_shr6, pq_shr7, pq_shr8, lqm1, lq0, lq1, lq2, lq7, lq400] at *; (try simp (disch := omega) only [pq_bm] at *); all_goals omega))
  · skip
    refine pq_aload_n F dX8_visitFrom_13 rfl rfl ?_
    refine pq_get F ha (by decide) lk_X8_46 e9 dX8_visitFrom_14 ?_
    refine pq_if_ne (tgt := 185) F dX8_visitFrom_17 (by decide) (fun c17 => ?_) (fun c17 => ?_)
    · exact absurd rfl c17
    · skip
      refine pq_lconst (v := 0) F dX8_visitFrom_20 (by decide) ?_
      refine pq_lstore_n F dX8_visitFrom_21 rfl (by decide) ?_
      refine pq_iconst (v := 0) F dX8_visitFrom_22 (by decide) ?_
      refine pq_istore F dX8_visitFrom_23 (by decide) ?_
      refine pq_fgm [true, true, true, true, false, true] (L25 (fun S5 j_a5 hF5 hj5 => ?_) 100 _ _ _ pq_Fr.rf rfl (by focus ((try clear hW); (try clear hZ); (try clear hs0); (try clear hZL); (try clear hW5); (try clear hs5); (try clear ih); (try clear K); simp only [vp_in_iff, Int32.lt_iff_toInt_lt, Int32.le_iff_toInt_le, ← Int32.toInt_inj, Int32.toInt_add, Int32.toInt_sub, Int32.toInt_mul, Int32.toInt_neg, pq_NuO, pq_NuI, pq_NuJ, pq_NuR, pq_shr6, pq_shr7, pq_shr8, lqm1, lq0, lq1, lq2, lq7, lq400] at *; (try simp (disch := omega) only [pq_bm] at *); all_goals omega)) (by focus ((try clear hW); (try clear hZ); (try clear hs0); (try clear hZL); (try clear hW5); (try clear hs5); (try clear ih); (try clear K); simp only [vp_in_iff, Int32.lt_iff_toInt_lt, Int32.le_iff_toInt_le, ← Int32.toInt_inj, Int32.toInt_add, Int32.toInt_sub, Int32.toInt_mul, Int32.toInt_neg, pq_NuO, pq_NuI, pq_NuJ, pq_NuR, pq_shr6, pq_shr7, pq_shr8, lqm1, lq0, lq1, lq2, lq7, lq400] at *; (try simp (disch := omega) only [pq_bm] at *); all_goals omega)) (by focus ((try clear hW); (try clear hZ); (try clear hs0); (try clear hZL); (try clear hW5); (try clear hs5); (try clear ih); (try clear K); simp only [vp_in_iff, Int32.lt_iff_toInt_lt, Int32.le_iff_toInt_le, ← Int32.toInt_inj, Int32.toInt_add, Int32.toInt_sub, Int32.toInt_mul, Int32.toInt_neg, pq_NuO, pq_NuI, pq_NuJ, pq_NuR, pq_shr6, pq_shr7, pq_shr8, lqm1, lq0, lq1, lq2, lq7, lq400] at *; (try simp (disch := omega) only [pq_bm] at *); all_goals omega)))
      have ha5 := hF5.R ha (by decide)
      have hW5 := hW.fr ha hF5 (by decide)
      have e95 := hF5.O ha (by decide) (by decide) e9
      have hwl5 := hW5.l
      have hs5 : pq_lt (hI S5 st) 1 1 := (by rw [hF5.I hW.hs (by decide) (by decide)]; exact hs0)
      subst hj5
      refine pq_aload_n F dX8_visitFrom_86 rfl rfl ?_
      refine pq_get F ha5 (by decide) lk_X8_32 hW5.e6 dX8_visitFrom_87 ?_
      refine pq_iload_n F dX8_visitFrom_90 rfl rfl ?_
      refine pq_aload_n F dX8_visitFrom_91 rfl rfl ?_
      refine pq_get F ha5 (by decide) lk_X8_12 hW5.e1 dX8_visitFrom_92 ?_
      refine pq_get F hW5.hk (by decide) lk_X8_66 hW5.en dX8_visitFrom_95 ?_
      refine pq_imul F dX8_visitFrom_98 ?_
      refine pq_iload_n F dX8_visitFrom_99 rfl rfl ?_
      refine pq_iadd F dX8_visitFrom_100 ?_
      refine pq_lload_n F dX8_visitFrom_101 rfl rfl ?_
      refine pq_lconst (v := 0) F dX8_visitFrom_102 (by decide) ?_
      refine pq_lcmp F dX8_visitFrom_103 ?_
      refine pq_if_ne (tgt := 111) F dX8_visitFrom_104 (by decide) (fun c104 => ?_) (fun c104 => ?_)
      · exact absurd (by decide) c104
      · skip
        refine pq_iconst (v := 0) F dX8_visitFrom_107 (by decide) ?_
        refine pq_goto (tgt := 115) F dX8_visitFrom_108 (by decide) ?_
        refine pq_iast F hW5.hs (by decide) (by decide) rfl (fun n1_115 n2_115 => (by focus ((try clear hW); (try clear hZ); (try clear hs0); (try clear hZL); (try clear hW5); (try clear hs5); (try clear ih); (try clear K); simp only [vp_in_iff, Int32.lt_iff_toInt_lt, Int32.le_iff_toInt_le, ← Int32.toInt_inj, Int32.toInt_add, Int32.toInt_sub, Int32.toInt_mul, Int32.toInt_neg, pq_NuO, pq_NuI, pq_NuJ, pq_NuR, pq_shr6, pq_shr7, pq_shr8, lqm1, lq0, lq1, lq2, lq7, lq400] at *; (try simp (disch := omega) only [pq_bm] at *); all_goals omega))) (⟨(by focus ((try clear hW); (try clear hZ); (try clear hs0); (try clear hZL); (try clear hW5); (try clear hs5); (try clear ih); (try clear K); simp only [vp_in_iff, Int32.lt_iff_toInt_lt, Int32.le_iff_toInt_le, ← Int32.toInt_inj, Int32.toInt_add, Int32.toInt_sub, Int32.toInt_mul, Int32.toInt_neg, pq_NuO, pq_NuI, pq_NuJ, pq_NuR, pq_shr6, pq_shr7, pq_shr8, lqm1, lq0, lq1, lq2, lq7, lq400] at *; (try simp (disch := omega) only [pq_bm] at *); all_goals omega)), (by focus ((try clear hW); (try clear hZ); (try clear hs0); (try clear hZL); (try clear hW5); (try clear hs5); (try clear ih); (try clear K); simp only [vp_in_iff, Int32.lt_iff_toInt_lt, Int32.le_iff_toInt_le, ← Int32.toInt_inj, Int32.toInt_add, Int32.toInt_sub, Int32.toInt_mul, Int32.toInt_neg, pq_NuO, pq_NuI, pq_NuJ, pq_NuR, pq_shr6, pq_shr7, pq_shr8, lqm1, lq0, lq1, lq2, lq7, lq400] at *; (try simp (disch := omega) only [pq_bm] at *); all_goals omega))⟩) dX8_visitFrom_115 ?_
        refine pq_aload_n F dX8_visitFrom_116 rfl rfl ?_
        refine pq_aload_n F dX8_visitFrom_117 rfl rfl ?_
        refine pq_getI F ha5 (by decide) lk_X8_82 rfl dX8_visitFrom_118 (fun x118 e118 l118 u118 => ?_)
        refine pq_if_ne (tgt := 130) F dX8_visitFrom_121 (by decide) (fun c121 => ?_) (fun c121 => ?_)
        · skip
          refine pq_iconst (v := 1) F dX8_visitFrom_130 (by decide) ?_
          refine pq_goto (tgt := 135) F dX8_visitFrom_131 (by decide) ?_
          refine pq_putZ F ha5 (by decide) lp_X8_82 rfl (by focus ((try clear hW); (try clear hZ); (try clear hs0); (try clear hZL); (try clear hW5); (try clear hs5); (try clear ih); (try clear K); simp only [vp_in_iff, Int32.lt_iff_toInt_lt, Int32.le_iff_toInt_le, ← Int32.toInt_inj, Int32.toInt_add, Int32.toInt_sub, Int32.toInt_mul, Int32.toInt_neg, pq_NuO, pq_NuI, pq_NuJ, pq_NuR, pq_shr6, pq_shr7, pq_shr8, lqm1, lq0, lq1, lq2, lq7, lq400] at *; (try simp (disch := omega) only [pq_bm] at *); all_goals omega)) (by focus ((try clear hW); (try clear hZ); (try clear hs0); (try clear hZL); (try clear hW5); (try clear hs5); (try clear ih); (try clear K); simp only [vp_in_iff, Int32.lt_iff_toInt_lt, Int32.le_iff_toInt_le, ← Int32.toInt_inj, Int32.toInt_add, Int32.toInt_sub, Int32.toInt_mul, Int32.toInt_neg, pq_NuO, pq_NuI, pq_NuJ, pq_NuR, pq_shr6, pq_shr7, pq_shr8, lqm1, lq0, lq1, lq2, lq7, lq400] at *; (try simp (disch := omega) only [pq_bm] at *); all_goals omega)) dX8_visitFrom_135 ?_
          refine pq_aload_n F dX8_visitFrom_138 rfl rfl ?_
          refine pq_aload_n F dX8_visitFrom_139 rfl rfl ?_
          refine pq_get F ha5 (by decide) lk_X8_46 (pq_kp e95 (by decide)) dX8_visitFrom_140 ?_
          refine pq_if_ne (tgt := 171) F dX8_visitFrom_143 (by decide) (fun c143 => ?_) (fun c143 => ?_)
          · exact absurd rfl c143
          · skip
            refine pq_aload_n F dX8_visitFrom_146 rfl rfl ?_
            refine pq_get F ha5 (by decide) lk_X8_42 (pq_kp hW5.e7 (by decide)) dX8_visitFrom_147 ?_
            refine pq_iconst (v := 2) F dX8_visitFrom_150 (by decide) ?_
            refine pq_isub F dX8_visitFrom_151 ?_
            refine pq_aload_n F dX8_visitFrom_152 rfl rfl ?_
            refine pq_get F ha5 (by decide) lk_X8_82 pq_ks dX8_visitFrom_153 ?_
            refine pq_if_eq (tgt := 163) F dX8_visitFrom_156 (by decide) (fun c156 => ?_) (fun c156 => ?_)
            · exact absurd c156 (by decide)
            · skip
              refine pq_iconst (v := 1) F dX8_visitFrom_159 (by decide) ?_
              refine pq_goto (tgt := 164) F dX8_visitFrom_160 (by decide) ?_
              refine pq_iadd F dX8_visitFrom_164 ?_
              refine pq_sipush (v := 400) F dX8_visitFrom_165 (by decide) ?_
              refine pq_icmp_le (tgt := 175) F dX8_visitFrom_168 (by decide) (fun c168 => ?_) (fun c168 => ?_)
              · skip
                refine pq_iconst (v := 0) F dX8_visitFrom_175 (by decide) ?_
                refine pq_putZ F ha5 (by decide) lp_X8_46 rfl (by focus ((try clear hW); (try clear hZ); (try clear hs0); (try clear hZL); (try clear hW5); (try clear hs5); (try clear ih); (try clear K); simp only [vp_in_iff, Int32.lt_iff_toInt_lt, Int32.le_iff_toInt_le, ← Int32.toInt_inj, Int32.toInt_add, Int32.toInt_sub, Int32.toInt_mul, Int32.toInt_neg, pq_NuO, pq_NuI, pq_NuJ, pq_NuR, pq_shr6, pq_shr7, pq_shr8, lqm1, lq0, lq1, lq2, lq7, lq400] at *; (try simp (disch := omega) only [pq_bm] at *); all_goals omega)) (by focus ((try clear hW); (try clear hZ); (try clear hs0); (try clear hZL); (try clear hW5); (try clear hs5); (try clear ih); (try clear K); simp only [vp_in_iff, Int32.lt_iff_toInt_lt, Int32.le_iff_toInt_le, ← Int32.toInt_inj, Int32.toInt_add, Int32.toInt_sub, Int32.toInt_mul, Int32.toInt_neg, pq_NuO, pq_NuI, pq_NuJ, pq_NuR, pq_shr6, pq_shr7, pq_shr8, lqm1, lq0, lq1, lq2, lq7, lq400] at *; (try simp (disch := omega) only [pq_bm] at *); all_goals omega)) dX8_visitFrom_176 ?_
                refine pq_iinc (v := 1) F dX8_visitFrom_179 rfl (by decide) (by decide) ?_
                refine pq_goto (tgt := 2) F dX8_visitFrom_182 (by decide) ?_
                refine pq_iload_n F dX8_visitFrom_2 rfl rfl ?_
                refine pq_aload_n F dX8_visitFrom_3 rfl rfl ?_
                refine pq_get F ha5 (by decide) lk_X8_12 (pq_kp (pq_kp hW5.e1 (by decide)) (by decide)) dX8_visitFrom_4 ?_
                refine pq_get F hW5.hk (by decide) lk_X8_66 (pq_ko (pq_ko hW5.en hW5.hk ha5 (by decide)) hW5.hk ha5 (by decide)) dX8_visitFrom_7 ?_
                refine pq_icmp_ge (tgt := 185) F dX8_visitFrom_10 (by decide) (fun c10 => ?_) (fun c10 => ?_)
                · skip
                  exact pq_vret F hr hlk hA (Nat.le_refl _) (Nat.le_refl _) (⟨rfl, ((((hF5.mono (by decide)).uI hW5.hs (by first | decide | exact List.mem_cons_self)).uO ha5 (by decide)).uO ha5 (by decide)), (pq_Wk.fr7 (S1 := _) hW5 ha5 (M := [(167, 0), (11, 8), (11, 9)]) (((pq_Fr.rf.uI hW5.hs (by decide)).uO ha5 (by decide)).uO ha5 (by decide)) (by decide) (pq_kp (pq_kp hW5.e7 (by decide)) (by decide)) (Int.le_refl _) (by focus ((try clear hW); (try clear hZ); (try clear hs0); (try clear hZL); (try clear hW5); (try clear hs5); (try clear ih); (try clear K); simp only [vp_in_iff, Int32.lt_iff_toInt_lt, Int32.le_iff_toInt_le, ← Int32.toInt_inj, Int32.toInt_add, Int32.toInt_sub, Int32.toInt_mul, Int32.toInt_neg, pq_NuO, pq_NuI, pq_NuJ, pq_NuR, pq_shr6, pq_shr7, pq_shr8, lqm1, lq0, lq1, lq2, lq7, lq400] at *; (try simp (disch := omega) only [pq_bm] at *); all_goals omega))), pq_ks, (by simp only [pq_IuO, pq_IuJ, pq_Iu, pq_JuO, pq_JuI, pq_Ju, pq_RuO, pq_RuJ, pq_RuI, if_true, if_false]; exact hs5.next (by focus ((try clear hW); (try clear hZ); (try clear hs0); (try clear hZL); (try clear hW5); (try clear hs5); (try clear ih); (try clear K); simp only [vp_in_iff, Int32.lt_iff_toInt_lt, Int32.le_iff_toInt_le, ← Int32.toInt_inj, Int32.toInt_add, Int32.toInt_sub, Int32.toInt_mul, Int32.toInt_neg, pq_NuO, pq_NuI, pq_NuJ, pq_NuR, pq_shr6, pq_shr7, pq_shr8, lqm1, lq0, lq1, lq2, lq7, lq400] at *; (try simp (disch := omega) only [pq_bm] at *); all_goals omega)) (by rw [pq_cl (by focus ((try clear hW); (try clear hZ); (try clear hs0); (try clear hZL); (try clear hW5); (try clear hs5); (try clear ih); (try clear K); simp only [vp_in_iff, Int32.lt_iff_toInt_lt, Int32.le_iff_toInt_le, ← Int32.toInt_inj, Int32.toInt_add, Int32.toInt_sub, Int32.toInt_mul, Int32.toInt_neg, pq_NuO, pq_NuI, pq_NuJ, pq_NuR, pq_shr6, pq_shr7, pq_shr8, lqm1, lq0, lq1, lq2, lq7, lq400] at *; (try simp (disch := omega) only [pq_bm] at *); all_goals omega))]; focus ((try clear hW); (try clear hZ); (try clear hs0); (try clear hZL); (try clear hW5); (try clear hs5); (try clear ih); (try clear K); simp only [vp_in_iff, Int32.lt_iff_toInt_lt, Int32.le_iff_toInt_le, ← Int32.toInt_inj, Int32.toInt_add, Int32.toInt_sub, Int32.toInt_mul, Int32.toInt_neg, pq_NuO, pq_NuI, pq_NuJ, pq_NuR, pq_shr6, pq_shr7, pq_shr8, lqm1, lq0, lq1, lq2, lq7, lq400] at *; (try simp (disch := omega) only [pq_bm] at *); all_goals omega)))⟩) dX8_visitFrom_185
                · exact False.elim (by focus ((try clear hW); (try clear hZ); (try clear hs0); (try clear hZL); (try clear hW5); (try clear hs5); (try clear ih); (try clear K); simp only [vp_in_iff, Int32.lt_iff_toInt_lt, Int32.le_iff_toInt_le, ← Int32.toInt_inj, Int32.toInt_add, Int32.toInt_sub, Int32.toInt_mul, Int32.toInt_neg, pq_NuO, pq_NuI, pq_NuJ, pq_NuR, pq_shr6, pq_shr7, pq_shr8, lqm1, lq0, lq1, lq2, lq7, lq400] at *; (try simp (disch := omega) only [pq_bm] at *); all_goals omega))
              · exact False.elim (by focus ((try clear hW); (try clear hZ); (try clear hs0); (try clear hZL); (try clear hW5); (try clear hs5); (try clear ih); (try clear K); simp only [vp_in_iff, Int32.lt_iff_toInt_lt, Int32.le_iff_toInt_le, ← Int32.toInt_inj, Int32.toInt_add, Int32.toInt_sub, Int32.toInt_mul, Int32.toInt_neg, pq_NuO, pq_NuI, pq_NuJ, pq_NuR, pq_shr6, pq_shr7, pq_shr8, lqm1, lq0, lq1, lq2, lq7, lq400] at *; (try simp (disch := omega) only [pq_bm] at *); all_goals omega))
        · skip
          refine pq_lload_n F dX8_visitFrom_124 rfl rfl ?_
          refine pq_lconst (v := 0) F dX8_visitFrom_125 (by decide) ?_
          refine pq_lcmp F dX8_visitFrom_126 ?_
          refine pq_if_ne (tgt := 134) F dX8_visitFrom_127 (by decide) (fun c127 => ?_) (fun c127 => ?_)
          · exact absurd (by decide) c127
          · skip
            refine pq_iconst (v := 1) F dX8_visitFrom_130 (by decide) ?_
            refine pq_goto (tgt := 135) F dX8_visitFrom_131 (by decide) ?_
            refine pq_putZ F ha5 (by decide) lp_X8_82 rfl (by focus ((try clear hW); (try clear hZ); (try clear hs0); (try clear hZL); (try clear hW5); (try clear hs5); (try clear ih); (try clear K); simp only [vp_in_iff, Int32.lt_iff_toInt_lt, Int32.le_iff_toInt_le, ← Int32.toInt_inj, Int32.toInt_add, Int32.toInt_sub, Int32.toInt_mul, Int32.toInt_neg, pq_NuO, pq_NuI, pq_NuJ, pq_NuR, pq_shr6, pq_shr7, pq_shr8, lqm1, lq0, lq1, lq2, lq7, lq400] at *; (try simp (disch := omega) only [pq_bm] at *); all_goals omega)) (by focus ((try clear hW); (try clear hZ); (try clear hs0); (try clear hZL); (try clear hW5); (try clear hs5); (try clear ih); (try clear K); simp only [vp_in_iff, Int32.lt_iff_toInt_lt, Int32.le_iff_toInt_le, ← Int32.toInt_inj, Int32.toInt_add, Int32.toInt_sub, Int32.toInt_mul, Int32.toInt_neg, pq_NuO, pq_NuI, pq_NuJ, pq_NuR, pq_shr6, pq_shr7, pq_shr8, lqm1, lq0, lq1, lq2, lq7, lq400] at *; (try simp (disch := omega) only [pq_bm] at *); all_goals omega)) dX8_visitFrom_135 ?_
            refine pq_aload_n F dX8_visitFrom_138 rfl rfl ?_
            refine pq_aload_n F dX8_visitFrom_139 rfl rfl ?_
            refine pq_get F ha5 (by decide) lk_X8_46 (pq_kp e95 (by decide)) dX8_visitFrom_140 ?_
            refine pq_if_ne (tgt := 171) F dX8_visitFrom_143 (by decide) (fun c143 => ?_) (fun c143 => ?_)
            · exact absurd rfl c143
            · skip
              refine pq_aload_n F dX8_visitFrom_146 rfl rfl ?_
              refine pq_get F ha5 (by decide) lk_X8_42 (pq_kp hW5.e7 (by decide)) dX8_visitFrom_147 ?_
              refine pq_iconst (v := 2) F dX8_visitFrom_150 (by decide) ?_
              refine pq_isub F dX8_visitFrom_151 ?_
              refine pq_aload_n F dX8_visitFrom_152 rfl rfl ?_
              refine pq_get F ha5 (by decide) lk_X8_82 pq_ks dX8_visitFrom_153 ?_
              refine pq_if_eq (tgt := 163) F dX8_visitFrom_156 (by decide) (fun c156 => ?_) (fun c156 => ?_)
              · exact absurd c156 (by decide)
              · skip
                refine pq_iconst (v := 1) F dX8_visitFrom_159 (by decide) ?_
                refine pq_goto (tgt := 164) F dX8_visitFrom_160 (by decide) ?_
                refine pq_iadd F dX8_visitFrom_164 ?_
                refine pq_sipush (v := 400) F dX8_visitFrom_165 (by decide) ?_
                refine pq_icmp_le (tgt := 175) F dX8_visitFrom_168 (by decide) (fun c168 => ?_) (fun c168 => ?_)
                · skip
                  refine pq_iconst (v := 0) F dX8_visitFrom_175 (by decide) ?_
                  refine pq_putZ F ha5 (by decide) lp_X8_46 rfl (by focus ((try clear hW); (try clear hZ); (try clear hs0); (try clear hZL); (try clear hW5); (try clear hs5); (try clear ih); (try clear K); simp only [vp_in_iff, Int32.lt_iff_toInt_lt, Int32.le_iff_toInt_le, ← Int32.toInt_inj, Int32.toInt_add, Int32.toInt_sub, Int32.toInt_mul, Int32.toInt_neg, pq_NuO, pq_NuI, pq_NuJ, pq_NuR, pq_shr6, pq_shr7, pq_shr8, lqm1, lq0, lq1, lq2, lq7, lq400] at *; (try simp (disch := omega) only [pq_bm] at *); all_goals omega)) (by focus ((try clear hW); (try clear hZ); (try clear hs0); (try clear hZL); (try clear hW5); (try clear hs5); (try clear ih); (try clear K); simp only [vp_in_iff, Int32.lt_iff_toInt_lt, Int32.le_iff_toInt_le, ← Int32.toInt_inj, Int32.toInt_add, Int32.toInt_sub, Int32.toInt_mul, Int32.toInt_neg, pq_NuO, pq_NuI, pq_NuJ, pq_NuR, pq_shr6, pq_shr7, pq_shr8, lqm1, lq0, lq1, lq2, lq7, lq400] at *; (try simp (disch := omega) only [pq_bm] at *); all_goals omega)) dX8_visitFrom_176 ?_
                  refine pq_iinc (v := 1) F dX8_visitFrom_179 rfl (by decide) (by decide) ?_
                  refine pq_goto (tgt := 2) F dX8_visitFrom_182 (by decide) ?_
                  refine pq_iload_n F dX8_visitFrom_2 rfl rfl ?_
                  refine pq_aload_n F dX8_visitFrom_3 rfl rfl ?_
                  refine pq_get F ha5 (by decide) lk_X8_12 (pq_kp (pq_kp hW5.e1 (by decide)) (by decide)) dX8_visitFrom_4 ?_
                  refine pq_get F hW5.hk (by decide) lk_X8_66 (pq_ko (pq_ko hW5.en hW5.hk ha5 (by decide)) hW5.hk ha5 (by decide)) dX8_visitFrom_7 ?_
                  refine pq_icmp_ge (tgt := 185) F dX8_visitFrom_10 (by decide) (fun c10 => ?_) (fun c10 => ?_)
                  · skip
                    exact pq_vret F hr hlk hA (Nat.le_refl _) (Nat.le_refl _) (⟨rfl, ((((hF5.mono (by decide)).uI hW5.hs (by first | decide | exact List.mem_cons_self)).uO ha5 (by decide)).uO ha5 (by decide)), (pq_Wk.fr7 (S1 := _) hW5 ha5 (M := [(167, 0), (11, 8), (11, 9)]) (((pq_Fr.rf.uI hW5.hs (by decide)).uO ha5 (by decide)).uO ha5 (by decide)) (by decide) (pq_kp (pq_kp hW5.e7 (by decide)) (by decide)) (Int.le_refl _) (by focus ((try clear hW); (try clear hZ); (try clear hs0); (try clear hZL); (try clear hW5); (try clear hs5); (try clear ih); (try clear K); simp only [vp_in_iff, Int32.lt_iff_toInt_lt, Int32.le_iff_toInt_le, ← Int32.toInt_inj, Int32.toInt_add, Int32.toInt_sub, Int32.toInt_mul, Int32.toInt_neg, pq_NuO, pq_NuI, pq_NuJ, pq_NuR, pq_shr6, pq_shr7, pq_shr8, lqm1, lq0, lq1, lq2, lq7, lq400] at *; (try simp (disch := omega) only [pq_bm] at *); all_goals omega))), pq_ks, (by simp only [pq_IuO, pq_IuJ, pq_Iu, pq_JuO, pq_JuI, pq_Ju, pq_RuO, pq_RuJ, pq_RuI, if_true, if_false]; exact hs5.next (by focus ((try clear hW); (try clear hZ); (try clear hs0); (try clear hZL); (try clear hW5); (try clear hs5); (try clear ih); (try clear K); simp only [vp_in_iff, Int32.lt_iff_toInt_lt, Int32.le_iff_toInt_le, ← Int32.toInt_inj, Int32.toInt_add, Int32.toInt_sub, Int32.toInt_mul, Int32.toInt_neg, pq_NuO, pq_NuI, pq_NuJ, pq_NuR, pq_shr6, pq_shr7, pq_shr8, lqm1, lq0, lq1, lq2, lq7, lq400] at *; (try simp (disch := omega) only [pq_bm] at *); all_goals omega)) (by rw [pq_cl (by focus ((try clear hW); (try clear hZ); (try clear hs0); (try clear hZL); (try clear hW5); (try clear hs5); (try clear ih); (try clear K); simp only [vp_in_iff, Int32.lt_iff_toInt_lt, Int32.le_iff_toInt_le, ← Int32.toInt_inj, Int32.toInt_add, Int32.toInt_sub, Int32.toInt_mul, Int32.toInt_neg, pq_NuO, pq_NuI, pq_NuJ, pq_NuR, pq_shr6, pq_shr7, pq_shr8, lqm1, lq0, lq1, lq2, lq7, lq400] at *; (try simp (disch := omega) only [pq_bm] at *); all_goals omega))]; focus ((try clear hW); (try clear hZ); (try clear hs0); (try clear hZL); (try clear hW5); (try clear hs5); (try clear ih); (try clear K); simp only [vp_in_iff, Int32.lt_iff_toInt_lt, Int32.le_iff_toInt_le, ← Int32.toInt_inj, Int32.toInt_add, Int32.toInt_sub, Int32.toInt_mul, Int32.toInt_neg, pq_NuO, pq_NuI, pq_NuJ, pq_NuR, pq_shr6, pq_shr7, pq_shr8, lqm1, lq0, lq1, lq2, lq7, lq400] at *; (try simp (disch := omega) only [pq_bm] at *); all_goals omega)))⟩) dX8_visitFrom_185
                  · exact False.elim (by focus ((try clear hW); (try clear hZ); (try clear hs0); (try clear hZL); (try clear hW5); (try clear hs5); (try clear ih); (try clear K); simp only [vp_in_iff, Int32.lt_iff_toInt_lt, Int32.le_iff_toInt_le, ← Int32.toInt_inj, Int32.toInt_add, Int32.toInt_sub, Int32.toInt_mul, Int32.toInt_neg, pq_NuO, pq_NuI, pq_NuJ, pq_NuR, pq_shr6, pq_shr7, pq_shr8, lqm1, lq0, lq1, lq2, lq7, lq400] at *; (try simp (disch := omega) only [pq_bm] at *); all_goals omega))
                · exact False.elim (by focus ((try clear hW); (try clear hZ); (try clear hs0); (try clear hZL); (try clear hW5); (try clear hs5); (try clear ih); (try clear K); simp only [vp_in_iff, Int32.lt_iff_toInt_lt, Int32.le_iff_toInt_le, ← Int32.toInt_inj, Int32.toInt_add, Int32.toInt_sub, Int32.toInt_mul, Int32.toInt_neg, pq_NuO, pq_NuI, pq_NuJ, pq_NuR, pq_shr6, pq_shr7, pq_shr8, lqm1, lq0, lq1, lq2, lq7, lq400] at *; (try simp (disch := omega) only [pq_bm] at *); all_goals omega))

