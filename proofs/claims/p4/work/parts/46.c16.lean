/-! ===== how much first may make: by what stands ahead of it ===== -/
def pq_IW (kd za zb : Int32) : Prop := ((kd.toInt = 0 ∧ ¬ za.toInt = zb.toInt) ∨ (kd.toInt = 1 ∧ za.toInt = 1 ∧ zb.toInt = 0) ∨ (kd.toInt = 2 ∧ zb.toInt = 1 ∧ za.toInt = 0) ∨ (kd.toInt = 3 ∧ za.toInt = 1 ∧ zb.toInt = 1) ∨ ((kd.toInt < 0 ∨ 3 < kd.toInt) ∧ za.toInt = 0 ∧ zb.toInt = 0))
def pq_Fg (w : Nat) (nd : Int) (n : Nat) : Prop := (nd ≤ (n : Int) ∧ w = 0) ∨ ((n : Int) < nd ∧ nd ≤ (w : Int) ∧ 2 * n ≤ w ∧ ((w : Int) = nd ∨ w = 2 * n))
theorem pq_Fg.ex (nd : Int) (n : Nat) : ∃ w, pq_Fg w nd n := by
  by_cases h : nd ≤ (n : Int)
  · exact ⟨0, Or.inl ⟨h, rfl⟩⟩
  · by_cases h2 : nd ≤ 2 * (n : Int)
    · exact ⟨2 * n, Or.inr ⟨by omega, by omega, Nat.le_refl _, Or.inr rfl⟩⟩
    · exact ⟨nd.toNat, Or.inr ⟨by omega, by omega, by omega, Or.inl (by omega)⟩⟩
def pq_Fe (S : HS) (a : Nat) (kd : Int32) (np nq wp wo wq : Nat) : Prop := ∀ (pt A B : Nat) (sa sb za zb : Int32), hO S a 5 = .ref pt → hR S pt 0 = some A → hR S pt 1 = some B → hO S A 5 = .int sa → hO S B 5 = .int sb → hO S A 7 = .int za → hO S B 7 = .int zb → (pq_IW kd za zb ∧ wp = 0 ∧ wo = 0 ∧ wq = 0) ∨ (¬ pq_IW kd za zb ∧ pq_Fg wp (sa.toInt * sb.toInt + 1) np ∧ pq_Fg wo (sa.toInt * sb.toInt + 1) np ∧ pq_Fg wq (4 * sa.toInt) nq)
theorem pq_Fe.ex (S : HS) (a : Nat) (kd : Int32) (np nq : Nat) : ∃ wp wo wq, pq_Fe S a kd np nq wp wo wq := by
  by_cases h : ∃ (pt A B : Nat) (sa sb za zb : Int32), hO S a 5 = .ref pt ∧ hR S pt 0 = some A ∧ hR S pt 1 = some B ∧ hO S A 5 = .int sa ∧ hO S B 5 = .int sb ∧ hO S A 7 = .int za ∧ hO S B 7 = .int zb
  · obtain ⟨pt, A, B, sa, sb, za, zb, h1, h2, h3, h4, h5, h6, h7⟩ := h
    have key : ∀ (wp wo wq : Nat), ((pq_IW kd za zb ∧ wp = 0 ∧ wo = 0 ∧ wq = 0) ∨ (¬ pq_IW kd za zb ∧ pq_Fg wp (sa.toInt * sb.toInt + 1) np ∧ pq_Fg wo (sa.toInt * sb.toInt + 1) np ∧ pq_Fg wq (4 * sa.toInt) nq)) → pq_Fe S a kd np nq wp wo wq := by
      intro wp wo wq hh pt2 A2 B2 sa2 sb2 za2 zb2 k1 k2 k3 k4 k5 k6 k7
      rw [h1] at k1
      cases k1
      rw [h2] at k2
      cases k2
      rw [h3] at k3
      cases k3
      rw [h4] at k4
      cases k4
      rw [h5] at k5
      cases k5
      rw [h6] at k6
      cases k6
      rw [h7] at k7
      cases k7
      exact hh
    by_cases hw : pq_IW kd za zb
    · exact ⟨0, 0, 0, key 0 0 0 (Or.inl ⟨hw, rfl, rfl, rfl⟩)⟩
    · obtain ⟨w1, g1⟩ := pq_Fg.ex (sa.toInt * sb.toInt + 1) np
      obtain ⟨w2, g2⟩ := pq_Fg.ex (4 * sa.toInt) nq
      exact ⟨w1, w1, w2, key w1 w1 w2 (Or.inr ⟨hw, g1, g1, g2⟩)⟩
  · exact ⟨0, 0, 0, fun pt A B sa sb za zb k1 k2 k3 k4 k5 k6 k7 => absurd ⟨pt, A, B, sa, sb, za, zb, k1, k2, k3, k4, k5, k6, k7⟩ h⟩
set_option maxHeartbeats 4000000 in
set_option maxRecDepth 100000 in
theorem k_X10_first (l : Launch) (D : va_G) (cy : Nat → ClassId) (hl0 : l.stackTraces = false) (S : HS) (a : Nat) (ha : pq_R S a 13) (kd : Int32) (t : Int32) (np nq : Nat) (hI : pq_Ix S a t np nq) (wp wo wq : Nat) (hE : pq_Fe S a kd np nq wp wo wq) : pq_CX l D cy yX10_first cX10_first 2 (some .int) 6 4 (wp + wo + wq + 80804) S [.ref a, .int kd] (fun v S2 => pq_Fr [(10, 7), (10, 1), (163, 0), (10, 2), (10, 3), (10, 4), (10, 5), (10, 6), (103, 0), (164, 0), (165, 0), (196, 0)] S S2 ∧ ∃ x : Int32, v = some (.int x) ∧ (∃ np2 nq2 : Nat, pq_Ix S2 a t np2 nq2 ∧ (2 * np + wp ≤ 2 * np2 ∧ 2 * np + wo ≤ 2 * np2 ∧ 2 * nq + wq ≤ 2 * nq2) ∧ np2 ≤ 80804 ∧ nq2 ≤ 1608)) (fun E S2 => E = "java/lang/IllegalArgumentException" ∧ pq_Fr [(10, 7), (10, 1), (163, 0), (10, 2), (10, 3), (10, 4), (10, 5), (10, 6), (103, 0), (164, 0), (165, 0), (196, 0)] S S2 ∧ pq_Ix S2 a t np nq) := by
  refine pq_startX (by decide) (Nat.le_of_ble_eq_true rfl) ?_
  intro p e s m args below meth c A F hr hlk hnm hA ht
  have lqm1 : (-1 : Int32).toInt = -1 := rfl
  have lq0 : (0 : Int32).toInt = 0 := rfl
  have lq1 : (1 : Int32).toInt = 1 := rfl
  have lq5 : (5 : Int32).toInt = 5 := rfl
  obtain ⟨tp, pl, rd, wk, mg, pt, ct, sr, A9, B9, hIf, fet, ⟨ht0, ht1⟩, hIA, hIB, hIs⟩ := hI
  have hIf2 := hIf
  obtain ⟨⟨fa0, fa1, fa2, fa3, fa4, fa5, fa6, fa7⟩, ⟨fb0, fb1, fb2, fb3, fb4, fb5, fb6, fb7, fb8⟩, ⟨fc0, fc1, fc2, fc3⟩, ⟨fd0, fd1, fd2, fd3⟩⟩ := hIf2
  refine pq_iload_n F dX10_first_0 rfl rfl ?_
  refine pq_if_lt (tgt := 9) F dX10_first_1 (by decide) (fun c1 => ?_) (fun c1 => ?_)
  · skip
    exact pq_thr F ht hlk hA hl0 (is := 142) (text := "there is no such kind of text") (cls := "java/lang/IllegalArgumentException") (by decide) xw_93 ⟨Nat.le_of_ble_eq_true rfl, Nat.le_of_ble_eq_true rfl⟩ (Nat.le_of_ble_eq_true rfl) (Nat.le_trans (Nat.le_of_ble_eq_true rfl : 0 + 6 ≤ 80804) (Nat.le_add_left _ _)) (Nat.le_of_ble_eq_true rfl) (Nat.le_trans (Nat.le_of_ble_eq_true rfl : 0 + 6 ≤ 80804) (Nat.le_add_left _ _)) (⟨rfl, pq_andM (M0 := []) (by decide) (pq_Fr.rf) (fun hFF => ⟨tp, pl, rd, wk, mg, pt, ct, sr, A9, B9, hIf.fr hFF (by decide), fet, ⟨(by focus ((try clear hIf); (try clear hIA); (try clear hIB); (try clear hIs); (try clear p1); (try clear p28); (try clear p36); (try clear p44); (try clear p53); (try clear p62); (try clear hwc); (try clear hE); (try clear hEE); (try clear hA9); (try clear hB9); (try clear p36); simp only [vp_in_iff, Int32.lt_iff_toInt_lt, Int32.le_iff_toInt_le, ← Int32.toInt_inj, Int32.toInt_add, Int32.toInt_sub, Int32.toInt_mul, Int32.toInt_neg, pq_NuO, pq_NuI, pq_NuJ, pq_NuR, pq_shr6, pq_shr7, pq_shr8, lqm1, lq0, lq1, lq5] at *; (try simp (disch := omega) only [pq_bm] at *); all_goals omega)), (by focus ((try clear hIf); (try clear hIA); (try clear hIB); (try clear hIs); (try clear p1); (try clear p28); (try clear p36); (try clear p44); (try clear p53); (try clear p62); (try clear hwc); (try clear hE); (try clear hEE); (try clear hA9); (try clear hB9); (try clear p36); simp only [vp_in_iff, Int32.lt_iff_toInt_lt, Int32.le_iff_toInt_le, ← Int32.toInt_inj, Int32.toInt_add, Int32.toInt_sub, Int32.toInt_mul, Int32.toInt_neg, pq_NuO, pq_NuI, pq_NuJ, pq_NuR, pq_shr6, pq_shr7, pq_shr8, lqm1, lq0, lq1, lq5] at *; (try simp (disch := omega) only [pq_bm] at *); all_goals omega))⟩, hIA.fr fd2 (by decide) (by decide) (by decide) hFF (by decide), hIB.fr fd3 (by decide) (by decide) (by decide) hFF (by decide), hIs.fr fb8 hFF (by decide)⟩)⟩) dX10_first_9 dX10_first_12 dX10_first_13 dX10_first_15 dX10_first_18
  · skip
    refine pq_iload_n F dX10_first_4 rfl rfl ?_
    refine pq_iconst (v := 5) F dX10_first_5 (by decide) ?_
    refine pq_icmp_lt (tgt := 19) F dX10_first_6 (by decide) (fun c6 => ?_) (fun c6 => ?_)
    · skip
      have hIA2 := hIA
      obtain ⟨koA, stA, nA, sa, s0A, PA, hA9⟩ := hIA2
      have hIB2 := hIB
      obtain ⟨koB, stB, nB, sb, s0B, PB, hB9⟩ := hIB2
      have hIs2 := hIs
      obtain ⟨pr, og, sn, tx, le, ⟨g1, g2, g3, g4, g5, g6, g7, g8⟩, g9, g10, g11, g12, g13⟩ := hIs2
      refine pq_peekI (k := 7) fd2 (by decide) rfl (fun za fza hza0 hza1 => ?_)
      refine pq_peekI (k := 7) fd3 (by decide) rfl (fun zb fzb hzb0 hzb1 => ?_)
      have hEE := hE pt A9 B9 sa sb za zb fa5 fd0 fd1 hA9.e5 hB9.e5 fza fzb
      refine pq_aload_n F dX10_first_19 rfl rfl ?_
      refine pq_get F ha (by decide) lk_X10_67 fa7 dX10_first_20 ?_
      refine pq_aload_n F dX10_first_23 rfl rfl ?_
      refine pq_get F ha (by decide) lk_X10_53 fa5 dX10_first_24 ?_
      refine pq_iconst (v := 0) F dX10_first_27 (by decide) ?_
      refine pq_aald F fb6 (by decide) (fun n1_28 n2_28 => (by change _ ≤ _ at n1_28; change _ ≤ 2 at n2_28; change 2 ≤ _ at n1_28; focus ((try clear hIf); (try clear hIA); (try clear hIB); (try clear hIs); (try clear p1); (try clear p28); (try clear p36); (try clear p44); (try clear p53); (try clear p62); (try clear hwc); (try clear hE); (try clear hEE); (try clear hA9); (try clear hB9); (try clear p36); simp only [vp_in_iff, Int32.lt_iff_toInt_lt, Int32.le_iff_toInt_le, ← Int32.toInt_inj, Int32.toInt_add, Int32.toInt_sub, Int32.toInt_mul, Int32.toInt_neg, pq_NuO, pq_NuI, pq_NuJ, pq_NuR, pq_shr6, pq_shr7, pq_shr8, lqm1, lq0, lq1, lq5] at *; (try simp (disch := omega) only [pq_bm] at *); all_goals omega))) dX10_first_28 (fun o28 e28 k28 => ?_)
      have e28b : o28 = some A9 := e28.trans fd0
      subst e28b
      refine pq_aload_n F dX10_first_29 rfl rfl ?_
      refine pq_get F ha (by decide) lk_X10_53 fa5 dX10_first_30 ?_
      refine pq_iconst (v := 1) F dX10_first_33 (by decide) ?_
      refine pq_aald F fb6 (by decide) (fun n1_34 n2_34 => (by change _ ≤ _ at n1_34; change _ ≤ 2 at n2_34; change 2 ≤ _ at n1_34; focus ((try clear hIf); (try clear hIA); (try clear hIB); (try clear hIs); (try clear p1); (try clear p28); (try clear p36); (try clear p44); (try clear p53); (try clear p62); (try clear hwc); (try clear hE); (try clear hEE); (try clear hA9); (try clear hB9); (try clear p36); simp only [vp_in_iff, Int32.lt_iff_toInt_lt, Int32.le_iff_toInt_le, ← Int32.toInt_inj, Int32.toInt_add, Int32.toInt_sub, Int32.toInt_mul, Int32.toInt_neg, pq_NuO, pq_NuI, pq_NuJ, pq_NuR, pq_shr6, pq_shr7, pq_shr8, lqm1, lq0, lq1, lq5] at *; (try simp (disch := omega) only [pq_bm] at *); all_goals omega))) dX10_first_34 (fun o34 e34 k34 => ?_)
      have e34b : o34 = some B9 := e34.trans fd1
      subst e34b
      refine pq_iload_n F dX10_first_35 rfl rfl ?_
      refine pq_callV (As := [_, _, _]) F (k_X7_find l D cy _ _ ?_ _ ?_ _ ?_ _ koA stA koB stB nA sa s0A nB sb s0B PA PB hA9 hB9 pr og sn g1 g2 g3 g4 g5 g6 (g11.trans g12.symm) tx wp wo wq za zb g7 g8 fza ?_ ?_ fzb ?_ ?_ (by rw [g11, g12, g13]; exact hEE)) ml_X10_144 fb8 (by decide) rfl (Nat.le_of_ble_eq_true rfl) ⟨Nat.le_of_ble_eq_true rfl, Nat.le_of_ble_eq_true rfl⟩ ⟨(by first | exact Nat.le_of_ble_eq_true rfl | (show _ ≤ 4; simp only [Nat.zero_add, Nat.add_zero]; first | exact Nat.le_refl _ | exact Nat.zero_le _)), (by first | exact Nat.le_of_ble_eq_true rfl | (show _ ≤ (wp + wo + wq + 80804); simp only [Nat.zero_add, Nat.add_zero]; first | exact Nat.le_refl _ | exact Nat.zero_le _))⟩ dX10_first_36 (fun v36 S36 w36 => ?_)
      · exact fb8
      · exact fd2
      · exact fd3
      · focus ((try clear hIf); (try clear hIA); (try clear hIB); (try clear hIs); (try clear p1); (try clear p28); (try clear p36); (try clear p44); (try clear p53); (try clear p62); (try clear hwc); (try clear hE); (try clear hEE); (try clear hA9); (try clear hB9); (try clear p36); simp only [vp_in_iff, Int32.lt_iff_toInt_lt, Int32.le_iff_toInt_le, ← Int32.toInt_inj, Int32.toInt_add, Int32.toInt_sub, Int32.toInt_mul, Int32.toInt_neg, pq_NuO, pq_NuI, pq_NuJ, pq_NuR, pq_shr6, pq_shr7, pq_shr8, lqm1, lq0, lq1, lq5] at *; (try simp (disch := omega) only [pq_bm] at *); all_goals omega)
      · focus ((try clear hIf); (try clear hIA); (try clear hIB); (try clear hIs); (try clear p1); (try clear p28); (try clear p36); (try clear p44); (try clear p53); (try clear p62); (try clear hwc); (try clear hE); (try clear hEE); (try clear hA9); (try clear hB9); (try clear p36); simp only [vp_in_iff, Int32.lt_iff_toInt_lt, Int32.le_iff_toInt_le, ← Int32.toInt_inj, Int32.toInt_add, Int32.toInt_sub, Int32.toInt_mul, Int32.toInt_neg, pq_NuO, pq_NuI, pq_NuJ, pq_NuR, pq_shr6, pq_shr7, pq_shr8, lqm1, lq0, lq1, lq5] at *; (try simp (disch := omega) only [pq_bm] at *); all_goals omega)
      · focus ((try clear hIf); (try clear hIA); (try clear hIB); (try clear hIs); (try clear p1); (try clear p28); (try clear p36); (try clear p44); (try clear p53); (try clear p62); (try clear hwc); (try clear hE); (try clear hEE); (try clear hA9); (try clear hB9); (try clear p36); simp only [vp_in_iff, Int32.lt_iff_toInt_lt, Int32.le_iff_toInt_le, ← Int32.toInt_inj, Int32.toInt_add, Int32.toInt_sub, Int32.toInt_mul, Int32.toInt_neg, pq_NuO, pq_NuI, pq_NuJ, pq_NuR, pq_shr6, pq_shr7, pq_shr8, lqm1, lq0, lq1, lq5] at *; (try simp (disch := omega) only [pq_bm] at *); all_goals omega)
      · focus ((try clear hIf); (try clear hIA); (try clear hIB); (try clear hIs); (try clear p1); (try clear p28); (try clear p36); (try clear p44); (try clear p53); (try clear p62); (try clear hwc); (try clear hE); (try clear hEE); (try clear hA9); (try clear hB9); (try clear p36); simp only [vp_in_iff, Int32.lt_iff_toInt_lt, Int32.le_iff_toInt_le, ← Int32.toInt_inj, Int32.toInt_add, Int32.toInt_sub, Int32.toInt_mul, Int32.toInt_neg, pq_NuO, pq_NuI, pq_NuJ, pq_NuR, pq_shr6, pq_shr7, pq_shr8, lqm1, lq0, lq1, lq5] at *; (try simp (disch := omega) only [pq_bm] at *); all_goals omega)
      obtain ⟨hF36, y36, rfl, p36⟩ := w36
      have ha_36 := (hF36.1 _ _ ha (by decide)).1
      have fb1_36 := (hF36.1 _ _ fb1 (by decide)).1
      have ec36_0_ha_36 := hF36.O ha (by decide) (by decide) fa0
      have fb2_36 := (hF36.1 _ _ fb2 (by decide)).1
      have ec36_1_ha_36 := hF36.O ha (by decide) (by decide) fa1
      have fb3_36 := (hF36.1 _ _ fb3 (by decide)).1
      have ec36_2_ha_36 := hF36.O ha (by decide) (by decide) fa2
      have fb4_36 := (hF36.1 _ _ fb4 (by decide)).1
      have ec36_3_ha_36 := hF36.O ha (by decide) (by decide) fa3
      have fb5_36 := (hF36.1 _ _ fb5 (by decide)).1
      have ec36_4_ha_36 := hF36.O ha (by decide) (by decide) fa4
      have fb6_36 := (hF36.1 _ _ fb6 (by decide)).1
      have ec36_5_ha_36 := hF36.O ha (by decide) (by decide) fa5
      have fb7_36 := (hF36.1 _ _ fb7 (by decide)).1
      have ec36_6_ha_36 := hF36.O ha (by decide) (by decide) fa6
      have fb8_36 := (hF36.1 _ _ fb8 (by decide)).1
      have ec36_7_ha_36 := hF36.O ha (by decide) (by decide) fa7
      obtain ⟨le2, tx2, pr2, og2, sn2, k1, k2, k3, k4, ⟨k5, k6, k7, k8, k9, k10⟩, k11, k12, k13, k14⟩ := p36
      refine pq_lenF k6 (by decide) rfl (fun lp1 lp2 => ?_)
      refine pq_lenF k10 (by decide) rfl (fun ls1 ls2 => ?_)
      rw [g11] at k12
      rw [g12, ← k11] at k13
      rw [g13] at k14
      exact pq_lift (pq_iret F hr hlk hA (by show _ ≤ 4; exact Nat.le_of_ble_eq_true rfl) (by show _ ≤ wp + wo + wq + 80804; simp only [Nat.zero_add, Nat.add_zero]; first | exact Nat.le_refl _ | exact Nat.zero_le _) (pq_andM (M0 := [(10, 7), (10, 1), (163, 0), (10, 2), (10, 3), (10, 4), (10, 5), (10, 6), (103, 0), (164, 0), (165, 0), (196, 0)]) (by decide) ((pq_Fr.rf.cm hF36 (by decide))) (fun hFF => ⟨_, rfl, hN S36 pr2, hN S36 sn2, ⟨tp, pl, rd, wk, mg, pt, ct, sr, A9, B9, hIf.fr hFF (by decide), (hF36.O fb1 (by decide) (by decide) fet), ⟨(by focus ((try clear hIf); (try clear hIA); (try clear hIB); (try clear hIs); (try clear p1); (try clear p28); (try clear p36); (try clear p44); (try clear p53); (try clear p62); (try clear hwc); (try clear hE); (try clear hEE); (try clear hA9); (try clear hB9); (try clear p36); simp only [vp_in_iff, Int32.lt_iff_toInt_lt, Int32.le_iff_toInt_le, ← Int32.toInt_inj, Int32.toInt_add, Int32.toInt_sub, Int32.toInt_mul, Int32.toInt_neg, pq_NuO, pq_NuI, pq_NuJ, pq_NuR, pq_shr6, pq_shr7, pq_shr8, lqm1, lq0, lq1, lq5] at *; (try simp (disch := omega) only [pq_bm] at *); all_goals omega)), (by focus ((try clear hIf); (try clear hIA); (try clear hIB); (try clear hIs); (try clear p1); (try clear p28); (try clear p36); (try clear p44); (try clear p53); (try clear p62); (try clear hwc); (try clear hE); (try clear hEE); (try clear hA9); (try clear hB9); (try clear p36); simp only [vp_in_iff, Int32.lt_iff_toInt_lt, Int32.le_iff_toInt_le, ← Int32.toInt_inj, Int32.toInt_add, Int32.toInt_sub, Int32.toInt_mul, Int32.toInt_neg, pq_NuO, pq_NuI, pq_NuJ, pq_NuR, pq_shr6, pq_shr7, pq_shr8, lqm1, lq0, lq1, lq5] at *; (try simp (disch := omega) only [pq_bm] at *); all_goals omega))⟩, hIA.fr fd2 (by decide) (by decide) (by decide) hFF (by decide), hIB.fr fd3 (by decide) (by decide) (by decide) hFF (by decide), ⟨pr2, og2, sn2, tx2, le2, ⟨k5, k6, k7, k8, k9, k10, k2, k3⟩, k1, k4, rfl, k11.symm, rfl⟩⟩, ⟨k12, k13, k14⟩, lp2, ls2⟩)) dX10_first_39)
    · skip
      exact pq_thr F ht hlk hA hl0 (is := 142) (text := "there is no such kind of text") (cls := "java/lang/IllegalArgumentException") (by decide) xw_93 ⟨Nat.le_of_ble_eq_true rfl, Nat.le_of_ble_eq_true rfl⟩ (Nat.le_of_ble_eq_true rfl) (Nat.le_trans (Nat.le_of_ble_eq_true rfl : 0 + 6 ≤ 80804) (Nat.le_add_left _ _)) (Nat.le_of_ble_eq_true rfl) (Nat.le_trans (Nat.le_of_ble_eq_true rfl : 0 + 6 ≤ 80804) (Nat.le_add_left _ _)) (⟨rfl, pq_andM (M0 := []) (by decide) (pq_Fr.rf) (fun hFF => ⟨tp, pl, rd, wk, mg, pt, ct, sr, A9, B9, hIf.fr hFF (by decide), fet, ⟨(by focus ((try clear hIf); (try clear hIA); (try clear hIB); (try clear hIs); (try clear p1); (try clear p28); (try clear p36); (try clear p44); (try clear p53); (try clear p62); (try clear hwc); (try clear hE); (try clear hEE); (try clear hA9); (try clear hB9); (try clear p36); simp only [vp_in_iff, Int32.lt_iff_toInt_lt, Int32.le_iff_toInt_le, ← Int32.toInt_inj, Int32.toInt_add, Int32.toInt_sub, Int32.toInt_mul, Int32.toInt_neg, pq_NuO, pq_NuI, pq_NuJ, pq_NuR, pq_shr6, pq_shr7, pq_shr8, lqm1, lq0, lq1, lq5] at *; (try simp (disch := omega) only [pq_bm] at *); all_goals omega)), (by focus ((try clear hIf); (try clear hIA); (try clear hIB); (try clear hIs); (try clear p1); (try clear p28); (try clear p36); (try clear p44); (try clear p53); (try clear p62); (try clear hwc); (try clear hE); (try clear hEE); (try clear hA9); (try clear hB9); (try clear p36); simp only [vp_in_iff, Int32.lt_iff_toInt_lt, Int32.le_iff_toInt_le, ← Int32.toInt_inj, Int32.toInt_add, Int32.toInt_sub, Int32.toInt_mul, Int32.toInt_neg, pq_NuO, pq_NuI, pq_NuJ, pq_NuR, pq_shr6, pq_shr7, pq_shr8, lqm1, lq0, lq1, lq5] at *; (try simp (disch := omega) only [pq_bm] at *); all_goals omega))⟩, hIA.fr fd2 (by decide) (by decide) (by decide) hFF (by decide), hIB.fr fd3 (by decide) (by decide) (by decide) hFF (by decide), hIs.fr fb8 hFF (by decide)⟩)⟩) dX10_first_9 dX10_first_12 dX10_first_13 dX10_first_15 dX10_first_18

