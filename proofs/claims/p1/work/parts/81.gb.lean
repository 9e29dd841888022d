set_option maxHeartbeats 4000000 in
set_option maxRecDepth 100000 in
theorem k_X10_emptyY (l : Launch) (D : va_G) (cy : Nat → ClassId) (hl0 : l.stackTraces = false) (S : HS) (a : Nat) (ha : pq_R S a 13) (pw : Int32) (hY : pf_Y S a) : pq_CX l D cy yX10_empty cX10_empty 2 (some .boolean) 6 1 6 S [.ref a, .int pw] (fun v S2 => pq_Fr [] S S2 ∧ ∃ x : Int32, v = some (.int x) ∧ 0 ≤ x.toInt ∧ x.toInt ≤ 1 ∧ ((pw = 0 ∨ pw = 1) ∧ x = 1)) (fun E S2 => E = "java/lang/IllegalArgumentException" ∧ ¬ (pw = 0 ∨ pw = 1) ∧ pq_Fr [] S S2) := by
  refine pq_startX (by decide) (Nat.le_of_ble_eq_true rfl) ?_
  intro p e s m args below meth c A F hr hlk hnm hA ht
  have lqm1 : (-1 : Int32).toInt = -1 := rfl
  have lq0 : (0 : Int32).toInt = 0 := rfl
  have lq1 : (1 : Int32).toInt = 1 := rfl
  obtain ⟨tp, pl, rd, wk, mg, pt, ct, sr, A9, B9, hIf, ft1, fx8, hAA, hBB, hIs, fs7⟩ := hY
  have hIf2 := hIf
  obtain ⟨⟨fa0, fa1, fa2, fa3, fa4, fa5, fa6, fa7⟩, ⟨fb0, fb1, fb2, fb3, fb4, fb5, fb6, fb7, fb8⟩, ⟨fc0, fc1, fc2, fc3⟩, ⟨fd0, fd1, fd2, fd3⟩⟩ := hIf2
  obtain ⟨koA, stA, acA, ⟨⟨xa0, ka0⟩, ⟨xa3, ka3⟩, xa2, ka2⟩, ⟨xa4, xa5, xa6, xa7⟩, xak, xas, xac⟩ := hAA
  obtain ⟨koB, stB, acB, ⟨⟨xb0, kb0⟩, ⟨xb3, kb3⟩, xb2, kb2⟩, ⟨xb4, xb5, xb6, xb7⟩, xbk, xbs, xbc⟩ := hBB
  refine pq_iload_n F dX10_empty_0 rfl rfl ?_
  refine pq_callS (As := [_]) F (k_X10_isPattern l D cy _ _) ml_X10_94 (Nat.le_of_ble_eq_true rfl) ⟨Nat.le_of_ble_eq_true rfl, Nat.le_of_ble_eq_true rfl⟩ ⟨by decide, by decide⟩ dX10_empty_1 (fun v1 S1 w1 => ?_)
  obtain ⟨u1, y1, rfl, yl1_0, yl1_1, p1⟩ := w1
  rw [u1]
  try rw [u1] at p1
  refine pq_if_ne (tgt := 17) F dX10_empty_4 (by decide) (fun c4 => ?_) (fun c4 => ?_)
  · skip
    have hwc : pw = 0 ∨ pw = 1 := p1.1 (Int32.toInt_inj.mp (by focus ((try clear hIf); (try clear hIs); (try clear xak); (try clear xas); (try clear xac); (try clear xbk); (try clear xbs); (try clear xbc); (try clear p1); simp only [vp_in_iff, Int32.lt_iff_toInt_lt, Int32.le_iff_toInt_le, ← Int32.toInt_inj, Int32.toInt_add, Int32.toInt_sub, Int32.toInt_mul, Int32.toInt_neg, pq_NuO, pq_NuI, pq_NuJ, pq_NuR, pq_shr6, pq_shr7, pq_shr8, lqm1, lq0, lq1] at *; (try simp (disch := omega) only [pq_bm] at *); all_goals omega)))
    have hwd := hwc
    refine pq_aload_n F dX10_empty_17 rfl rfl ?_
    rcases hwc with hw9 | hw9
    · skip
      refine pq_get F ha (by decide) lk_X10_53 fa5 dX10_empty_18 ?_
      refine pq_iload_n F dX10_empty_21 rfl rfl ?_
      refine pq_aald F fb6 (by decide) (fun n1_22 n2_22 => (by change _ ≤ _ at n1_22; change _ ≤ 2 at n2_22; change 2 ≤ _ at n1_22; focus ((try clear hIf); (try clear hIs); (try clear xak); (try clear xas); (try clear xac); (try clear xbk); (try clear xbs); (try clear xbc); (try clear p1); simp only [vp_in_iff, Int32.lt_iff_toInt_lt, Int32.le_iff_toInt_le, ← Int32.toInt_inj, Int32.toInt_add, Int32.toInt_sub, Int32.toInt_mul, Int32.toInt_neg, pq_NuO, pq_NuI, pq_NuJ, pq_NuR, pq_shr6, pq_shr7, pq_shr8, lqm1, lq0, lq1] at *; (try simp (disch := omega) only [pq_bm] at *); all_goals omega))) dX10_empty_22 (fun o22 e22 k22 => ?_)
      have e22b : o22 = some A9 := e22.trans (by rw [hw9]; exact fd0)
      subst e22b
      refine pq_get F fd2 (by decide) lk_X10_135 xa7 dX10_empty_23 ?_
      exact pq_lift (pq_zret F hr hlk hA rfl (Nat.zero_le _) (Nat.zero_le _) (⟨pq_Fr.rf, 1, rfl, (by focus ((try clear hIf); (try clear hIs); (try clear xak); (try clear xas); (try clear xac); (try clear xbk); (try clear xbs); (try clear xbc); (try clear p1); simp only [vp_in_iff, Int32.lt_iff_toInt_lt, Int32.le_iff_toInt_le, ← Int32.toInt_inj, Int32.toInt_add, Int32.toInt_sub, Int32.toInt_mul, Int32.toInt_neg, pq_NuO, pq_NuI, pq_NuJ, pq_NuR, pq_shr6, pq_shr7, pq_shr8, lqm1, lq0, lq1] at *; (try simp (disch := omega) only [pq_bm] at *); all_goals omega)), (by focus ((try clear hIf); (try clear hIs); (try clear xak); (try clear xas); (try clear xac); (try clear xbk); (try clear xbs); (try clear xbc); (try clear p1); simp only [vp_in_iff, Int32.lt_iff_toInt_lt, Int32.le_iff_toInt_le, ← Int32.toInt_inj, Int32.toInt_add, Int32.toInt_sub, Int32.toInt_mul, Int32.toInt_neg, pq_NuO, pq_NuI, pq_NuJ, pq_NuR, pq_shr6, pq_shr7, pq_shr8, lqm1, lq0, lq1] at *; (try simp (disch := omega) only [pq_bm] at *); all_goals omega)), hwd, rfl⟩) dX10_empty_26)
    · skip
      refine pq_get F ha (by decide) lk_X10_53 fa5 dX10_empty_18 ?_
      refine pq_iload_n F dX10_empty_21 rfl rfl ?_
      refine pq_aald F fb6 (by decide) (fun n1_22 n2_22 => (by change _ ≤ _ at n1_22; change _ ≤ 2 at n2_22; change 2 ≤ _ at n1_22; focus ((try clear hIf); (try clear hIs); (try clear xak); (try clear xas); (try clear xac); (try clear xbk); (try clear xbs); (try clear xbc); (try clear p1); simp only [vp_in_iff, Int32.lt_iff_toInt_lt, Int32.le_iff_toInt_le, ← Int32.toInt_inj, Int32.toInt_add, Int32.toInt_sub, Int32.toInt_mul, Int32.toInt_neg, pq_NuO, pq_NuI, pq_NuJ, pq_NuR, pq_shr6, pq_shr7, pq_shr8, lqm1, lq0, lq1] at *; (try simp (disch := omega) only [pq_bm] at *); all_goals omega))) dX10_empty_22 (fun o22 e22 k22 => ?_)
      have e22b : o22 = some B9 := e22.trans (by rw [hw9]; exact fd1)
      subst e22b
      refine pq_get F fd3 (by decide) lk_X10_135 xb7 dX10_empty_23 ?_
      exact pq_lift (pq_zret F hr hlk hA rfl (Nat.zero_le _) (Nat.zero_le _) (⟨pq_Fr.rf, 1, rfl, (by focus ((try clear hIf); (try clear hIs); (try clear xak); (try clear xas); (try clear xac); (try clear xbk); (try clear xbs); (try clear xbc); (try clear p1); simp only [vp_in_iff, Int32.lt_iff_toInt_lt, Int32.le_iff_toInt_le, ← Int32.toInt_inj, Int32.toInt_add, Int32.toInt_sub, Int32.toInt_mul, Int32.toInt_neg, pq_NuO, pq_NuI, pq_NuJ, pq_NuR, pq_shr6, pq_shr7, pq_shr8, lqm1, lq0, lq1] at *; (try simp (disch := omega) only [pq_bm] at *); all_goals omega)), (by focus ((try clear hIf); (try clear hIs); (try clear xak); (try clear xas); (try clear xac); (try clear xbk); (try clear xbs); (try clear xbc); (try clear p1); simp only [vp_in_iff, Int32.lt_iff_toInt_lt, Int32.le_iff_toInt_le, ← Int32.toInt_inj, Int32.toInt_add, Int32.toInt_sub, Int32.toInt_mul, Int32.toInt_neg, pq_NuO, pq_NuI, pq_NuJ, pq_NuR, pq_shr6, pq_shr7, pq_shr8, lqm1, lq0, lq1] at *; (try simp (disch := omega) only [pq_bm] at *); all_goals omega)), hwd, rfl⟩) dX10_empty_26)
  · skip
    exact pq_thr F ht hlk hA hl0 (is := 102) (text := "there is no such pattern") (cls := "java/lang/IllegalArgumentException") (by decide) xw_93 ⟨Nat.le_of_ble_eq_true rfl, Nat.le_of_ble_eq_true rfl⟩ (Nat.le_of_ble_eq_true rfl) (Nat.le_of_ble_eq_true rfl) (Nat.le_of_ble_eq_true rfl) (Nat.le_of_ble_eq_true rfl) (⟨rfl, (fun z => absurd (c4.symm.trans (p1.2 z)) (by decide)), pq_Fr.rf⟩) dX10_empty_7 dX10_empty_10 dX10_empty_11 dX10_empty_13 dX10_empty_16

set_option maxHeartbeats 4000000 in
set_option maxRecDepth 100000 in
theorem k_X10_placeY (l : Launch) (D : va_G) (cy : Nat → ClassId) (S : HS) (a : Nat) (ha : pq_R S a 13) (hY : pf_Y S a) : pq_C l D cy yX10_place cX10_place 1 (some .int) 1 0 0 S [.ref a] (fun v S2 => S2 = S ∧ ∃ x : Int32, v = some (.int x) ∧ (x = -1)) := by
  refine pq_start (by decide) (Nat.le_of_ble_eq_true rfl) ?_
  intro p e s m args below meth c A F hr hlk hnm hA
  have lqm1 : (-1 : Int32).toInt = -1 := rfl
  have lq0 : (0 : Int32).toInt = 0 := rfl
  have lq1 : (1 : Int32).toInt = 1 := rfl
  obtain ⟨tp, pl, rd, wk, mg, pt, ct, sr, A9, B9, hIf, ft1, fx8, hAA, hBB, hIs, fs7⟩ := hY
  have hIf2 := hIf
  obtain ⟨⟨fa0, fa1, fa2, fa3, fa4, fa5, fa6, fa7⟩, ⟨fb0, fb1, fb2, fb3, fb4, fb5, fb6, fb7, fb8⟩, ⟨fc0, fc1, fc2, fc3⟩, ⟨fd0, fd1, fd2, fd3⟩⟩ := hIf2
  obtain ⟨koA, stA, acA, ⟨⟨xa0, ka0⟩, ⟨xa3, ka3⟩, xa2, ka2⟩, ⟨xa4, xa5, xa6, xa7⟩, xak, xas, xac⟩ := hAA
  obtain ⟨koB, stB, acB, ⟨⟨xb0, kb0⟩, ⟨xb3, kb3⟩, xb2, kb2⟩, ⟨xb4, xb5, xb6, xb7⟩, xbk, xbs, xbc⟩ := hBB
  refine pq_aload_n F dX10_place_0 rfl rfl ?_
  refine pq_get F ha (by decide) lk_X10_71 fx8 dX10_place_1 ?_
  exact pq_iret F hr hlk hA (Nat.le_refl _) (Nat.le_refl _) (⟨rfl, _, rfl, rfl⟩) dX10_place_4

set_option maxHeartbeats 4000000 in
set_option maxRecDepth 100000 in
theorem k_X10_octetY (l : Launch) (D : va_G) (cy : Nat → ClassId) (hl0 : l.stackTraces = false) (S : HS) (a : Nat) (ha : pq_R S a 13) (pi : Int32) (hY : pf_Y S a) : pq_CX l D cy yX10_octet cX10_octet 2 (some .int) 6 1 6 S [.ref a, .int pi] (fun v S2 => pq_Fr [] S S2 ∧ ∃ x : Int32, v = some (.int x) ∧ (False)) (fun E S2 => E = "java/util/NoSuchElementException" ∧ pq_Fr [] S S2) := by
  refine pq_startX (by decide) (Nat.le_of_ble_eq_true rfl) ?_
  intro p e s m args below meth c A F hr hlk hnm hA ht
  have lqm1 : (-1 : Int32).toInt = -1 := rfl
  have lq0 : (0 : Int32).toInt = 0 := rfl
  have lq1 : (1 : Int32).toInt = 1 := rfl
  obtain ⟨tp, pl, rd, wk, mg, pt, ct, sr, A9, B9, hIf, ft1, fx8, hAA, hBB, hIs, fs7⟩ := hY
  have hIf2 := hIf
  obtain ⟨⟨fa0, fa1, fa2, fa3, fa4, fa5, fa6, fa7⟩, ⟨fb0, fb1, fb2, fb3, fb4, fb5, fb6, fb7, fb8⟩, ⟨fc0, fc1, fc2, fc3⟩, ⟨fd0, fd1, fd2, fd3⟩⟩ := hIf2
  obtain ⟨koA, stA, acA, ⟨⟨xa0, ka0⟩, ⟨xa3, ka3⟩, xa2, ka2⟩, ⟨xa4, xa5, xa6, xa7⟩, xak, xas, xac⟩ := hAA
  obtain ⟨koB, stB, acB, ⟨⟨xb0, kb0⟩, ⟨xb3, kb3⟩, xb2, kb2⟩, ⟨xb4, xb5, xb6, xb7⟩, xbk, xbs, xbc⟩ := hBB
  refine pq_iload_n F dX10_octet_0 rfl rfl ?_
  refine pq_if_lt (tgt := 15) F dX10_octet_1 (by decide) (fun c1 => ?_) (fun c1 => ?_)
  · skip
    exact pq_thrX F ht hlk hA hl0 ⟨Nat.le_of_ble_eq_true rfl, Nat.le_of_ble_eq_true rfl⟩ (Nat.le_of_ble_eq_true rfl) (Nat.le_of_ble_eq_true rfl) (Nat.le_of_ble_eq_true rfl) (Nat.le_of_ble_eq_true rfl) (⟨rfl, pq_Fr.rf⟩) dX10_octet_15 dX10_octet_18 dX10_octet_19 dX10_octet_21 dX10_octet_24
  · skip
    refine pq_iload_n F dX10_octet_4 rfl rfl ?_
    refine pq_aload_n F dX10_octet_5 rfl rfl ?_
    refine pq_get F ha (by decide) lk_X10_67 fa7 dX10_octet_6 ?_
    refine pq_get F fb8 (by decide) lk_X10_148 fs7 dX10_octet_9 ?_
    refine pq_icmp_lt (tgt := 25) F dX10_octet_12 (by decide) (fun c12 => ?_) (fun c12 => ?_)
    · exact False.elim (by focus ((try clear hIf); (try clear hIs); (try clear xak); (try clear xas); (try clear xac); (try clear xbk); (try clear xbs); (try clear xbc); (try clear p1); simp only [vp_in_iff, Int32.lt_iff_toInt_lt, Int32.le_iff_toInt_le, ← Int32.toInt_inj, Int32.toInt_add, Int32.toInt_sub, Int32.toInt_mul, Int32.toInt_neg, pq_NuO, pq_NuI, pq_NuJ, pq_NuR, pq_shr6, pq_shr7, pq_shr8, lqm1, lq0, lq1] at *; (try simp (disch := omega) only [pq_bm] at *); all_goals omega))
    · skip
      exact pq_thrX F ht hlk hA hl0 ⟨Nat.le_of_ble_eq_true rfl, Nat.le_of_ble_eq_true rfl⟩ (Nat.le_of_ble_eq_true rfl) (Nat.le_of_ble_eq_true rfl) (Nat.le_of_ble_eq_true rfl) (Nat.le_of_ble_eq_true rfl) (⟨rfl, pq_Fr.rf⟩) dX10_octet_15 dX10_octet_18 dX10_octet_19 dX10_octet_21 dX10_octet_24

set_option maxHeartbeats 4000000 in
set_option maxRecDepth 100000 in
theorem k_X0_hasTextYA (l : Launch) (D : va_G) (cy : Nat → ClassId) (S : HS) (a : Nat) (ha : pq_R S a 3) (tp : Nat) (htp : pq_R S tp 12) (e1 : hO S tp 1 = .int 0) (e7 : hO S a 7 = .int 1) : pq_C l D cy yX0_hasText cX0_hasText 5 (some .boolean) 1 0 0 S [.ref a, .ref tp] (fun v S2 => S2 = S ∧ ∃ x : Int32, v = some (.int x) ∧ 0 ≤ x.toInt ∧ x.toInt ≤ 1 ∧ (x = 1)) := by
  refine pq_start (by decide) (Nat.le_of_ble_eq_true rfl) ?_
  intro p e s m args below meth c A F hr hlk hnm hA
  have lqm1 : (-1 : Int32).toInt = -1 := rfl
  have lq0 : (0 : Int32).toInt = 0 := rfl
  have lq1 : (1 : Int32).toInt = 1 := rfl
  have lq128 : (128 : Int32).toInt = 128 := rfl
  refine pq_aload_n F dX0_hasText_0 rfl rfl ?_
  refine pq_get F htp (by decide) lk_X0_58 e1 dX0_hasText_1 ?_
  refine pq_if_ne (tgt := 12) F dX0_hasText_4 (by decide) (fun c4 => ?_) (fun c4 => ?_)
  · exact absurd rfl c4
  · skip
    refine pq_aload_n F dX0_hasText_7 rfl rfl ?_
    refine pq_get F ha (by decide) lk_X0_37 e7 dX0_hasText_8 ?_
    exact pq_zret F hr hlk hA rfl (Nat.le_refl _) (Nat.le_refl _) (⟨rfl, 1, rfl, (by focus (simp only [vp_in_iff, Int32.lt_iff_toInt_lt, Int32.le_iff_toInt_le, ← Int32.toInt_inj, Int32.toInt_add, Int32.toInt_sub, Int32.toInt_mul, Int32.toInt_neg, pq_NuO, pq_NuI, pq_NuJ, pq_NuR, pq_shr6, pq_shr7, pq_shr8, lqm1, lq0, lq1, lq128] at *; (try simp (disch := omega) only [pq_bm] at *); all_goals omega)), (by focus (simp only [vp_in_iff, Int32.lt_iff_toInt_lt, Int32.le_iff_toInt_le, ← Int32.toInt_inj, Int32.toInt_add, Int32.toInt_sub, Int32.toInt_mul, Int32.toInt_neg, pq_NuO, pq_NuI, pq_NuJ, pq_NuR, pq_shr6, pq_shr7, pq_shr8, lqm1, lq0, lq1, lq128] at *; (try simp (disch := omega) only [pq_bm] at *); all_goals omega)), rfl⟩) dX0_hasText_11

set_option maxHeartbeats 4000000 in
set_option maxRecDepth 100000 in
theorem k_X0_hasTextYB (l : Launch) (D : va_G) (cy : Nat → ClassId) (S : HS) (a : Nat) (ha : pq_R S a 33) (tp : Nat) (htp : pq_R S tp 12) (e1 : hO S tp 1 = .int 0) (e7 : hO S a 7 = .int 1) : pq_C l D cy yX0_hasText cX0_hasText 5 (some .boolean) 1 0 0 S [.ref a, .ref tp] (fun v S2 => S2 = S ∧ ∃ x : Int32, v = some (.int x) ∧ 0 ≤ x.toInt ∧ x.toInt ≤ 1 ∧ (x = 1)) := by
  refine pq_start (by decide) (Nat.le_of_ble_eq_true rfl) ?_
  intro p e s m args below meth c A F hr hlk hnm hA
  have lqm1 : (-1 : Int32).toInt = -1 := rfl
  have lq0 : (0 : Int32).toInt = 0 := rfl
  have lq1 : (1 : Int32).toInt = 1 := rfl
  have lq128 : (128 : Int32).toInt = 128 := rfl
  refine pq_aload_n F dX0_hasText_0 rfl rfl ?_
  refine pq_get F htp (by decide) lk_X0_58 e1 dX0_hasText_1 ?_
  refine pq_if_ne (tgt := 12) F dX0_hasText_4 (by decide) (fun c4 => ?_) (fun c4 => ?_)
  · exact absurd rfl c4
  · skip
    refine pq_aload_n F dX0_hasText_7 rfl rfl ?_
    refine pq_get F ha (by decide) lk_X0_37 e7 dX0_hasText_8 ?_
    exact pq_zret F hr hlk hA rfl (Nat.le_refl _) (Nat.le_refl _) (⟨rfl, 1, rfl, (by focus (simp only [vp_in_iff, Int32.lt_iff_toInt_lt, Int32.le_iff_toInt_le, ← Int32.toInt_inj, Int32.toInt_add, Int32.toInt_sub, Int32.toInt_mul, Int32.toInt_neg, pq_NuO, pq_NuI, pq_NuJ, pq_NuR, pq_shr6, pq_shr7, pq_shr8, lqm1, lq0, lq1, lq128] at *; (try simp (disch := omega) only [pq_bm] at *); all_goals omega)), (by focus (simp only [vp_in_iff, Int32.lt_iff_toInt_lt, Int32.le_iff_toInt_le, ← Int32.toInt_inj, Int32.toInt_add, Int32.toInt_sub, Int32.toInt_mul, Int32.toInt_neg, pq_NuO, pq_NuI, pq_NuJ, pq_NuR, pq_shr6, pq_shr7, pq_shr8, lqm1, lq0, lq1, lq128] at *; (try simp (disch := omega) only [pq_bm] at *); all_goals omega)), rfl⟩) dX0_hasText_11

set_option maxHeartbeats 4000000 in
set_option maxRecDepth 100000 in
theorem k_X10_fitsY (l : Launch) (D : va_G) (cy : Nat → ClassId) (hl0 : l.stackTraces = false) (S : HS) (a : Nat) (ha : pq_R S a 13) (pw : Int32) (hY : pf_Y S a) : pq_CX l D cy yX10_fits cX10_fits 4 (some .boolean) 6 1 6 S [.ref a, .int pw] (fun v S2 => pq_Fr [(12, 1)] S S2 ∧ ∃ x : Int32, v = some (.int x) ∧ 0 ≤ x.toInt ∧ x.toInt ≤ 1 ∧ ((pw = 0 ∨ pw = 1) ∧ x = 1)) (fun E S2 => E = "java/lang/IllegalArgumentException" ∧ ¬ (pw = 0 ∨ pw = 1) ∧ pq_Fr [(12, 1)] S S2) := by
  refine pq_startX (by decide) (Nat.le_of_ble_eq_true rfl) ?_
  intro p e s m args below meth c A F hr hlk hnm hA ht
  have lqm1 : (-1 : Int32).toInt = -1 := rfl
  have lq0 : (0 : Int32).toInt = 0 := rfl
  have lq1 : (1 : Int32).toInt = 1 := rfl
  obtain ⟨tp, pl, rd, wk, mg, pt, ct, sr, A9, B9, hIf, ft1, fx8, hAA, hBB, hIs, fs7⟩ := hY
  have hIf2 := hIf
  obtain ⟨⟨fa0, fa1, fa2, fa3, fa4, fa5, fa6, fa7⟩, ⟨fb0, fb1, fb2, fb3, fb4, fb5, fb6, fb7, fb8⟩, ⟨fc0, fc1, fc2, fc3⟩, ⟨fd0, fd1, fd2, fd3⟩⟩ := hIf2
  obtain ⟨koA, stA, acA, ⟨⟨xa0, ka0⟩, ⟨xa3, ka3⟩, xa2, ka2⟩, ⟨xa4, xa5, xa6, xa7⟩, xak, xas, xac⟩ := hAA
  obtain ⟨koB, stB, acB, ⟨⟨xb0, kb0⟩, ⟨xb3, kb3⟩, xb2, kb2⟩, ⟨xb4, xb5, xb6, xb7⟩, xbk, xbs, xbc⟩ := hBB
  refine pq_iload_n F dX10_fits_0 rfl rfl ?_
  refine pq_callS (As := [_]) F (k_X10_isPattern l D cy _ _) ml_X10_94 (Nat.le_of_ble_eq_true rfl) ⟨Nat.le_of_ble_eq_true rfl, Nat.le_of_ble_eq_true rfl⟩ ⟨by decide, by decide⟩ dX10_fits_1 (fun v1 S1 w1 => ?_)
  obtain ⟨u1, y1, rfl, yl1_0, yl1_1, p1⟩ := w1
  rw [u1]
  try rw [u1] at p1
  refine pq_istore_n F dX10_fits_4 rfl (by decide) ?_
  refine pq_iload_n F dX10_fits_5 rfl rfl ?_
  refine pq_if_eq (tgt := 29) F dX10_fits_6 (by decide) (fun c6 => ?_) (fun c6 => ?_)
  · skip
    refine pq_iconst (v := 0) F dX10_fits_29 (by decide) ?_
    refine pq_istore_n F dX10_fits_30 rfl (by decide) ?_
    refine pq_aload_n F dX10_fits_31 rfl rfl ?_
    refine pq_get F ha (by decide) lk_X10_10 fa0 dX10_fits_32 ?_
    refine pq_iconst (v := 0) F dX10_fits_35 (by decide) ?_
    refine pq_putI F fb1 (by decide) lp_X10_75 rfl (by focus ((try clear hIf); (try clear hIs); (try clear xak); (try clear xas); (try clear xac); (try clear xbk); (try clear xbs); (try clear xbc); (try clear p1); (try clear p19); simp only [vp_in_iff, Int32.lt_iff_toInt_lt, Int32.le_iff_toInt_le, ← Int32.toInt_inj, Int32.toInt_add, Int32.toInt_sub, Int32.toInt_mul, Int32.toInt_neg, pq_NuO, pq_NuI, pq_NuJ, pq_NuR, pq_shr6, pq_shr7, pq_shr8, lqm1, lq0, lq1] at *; (try simp (disch := omega) only [pq_bm] at *); all_goals omega)) (by focus ((try clear hIf); (try clear hIs); (try clear xak); (try clear xas); (try clear xac); (try clear xbk); (try clear xbs); (try clear xbc); (try clear p1); (try clear p19); simp only [vp_in_iff, Int32.lt_iff_toInt_lt, Int32.le_iff_toInt_le, ← Int32.toInt_inj, Int32.toInt_add, Int32.toInt_sub, Int32.toInt_mul, Int32.toInt_neg, pq_NuO, pq_NuI, pq_NuJ, pq_NuR, pq_shr6, pq_shr7, pq_shr8, lqm1, lq0, lq1] at *; (try simp (disch := omega) only [pq_bm] at *); all_goals omega)) dX10_fits_36 ?_
    refine pq_iload_n F dX10_fits_39 rfl rfl ?_
    refine pq_if_ne (tgt := 53) F dX10_fits_40 (by decide) (fun c40 => ?_) (fun c40 => ?_)
    · exact absurd c6 c40
    · skip
      exact pq_thr F ht hlk hA hl0 (is := 102) (text := "there is no such pattern") (cls := "java/lang/IllegalArgumentException") (by decide) xw_93 ⟨Nat.le_of_ble_eq_true rfl, Nat.le_of_ble_eq_true rfl⟩ (Nat.le_of_ble_eq_true rfl) (Nat.le_of_ble_eq_true rfl) (Nat.le_of_ble_eq_true rfl) (Nat.le_of_ble_eq_true rfl) (⟨rfl, (fun z => absurd (c6.symm.trans (p1.2 z)) (by decide)), (pq_Fr.rf.uO fb1 (by decide))⟩) dX10_fits_43 dX10_fits_46 dX10_fits_47 dX10_fits_49 dX10_fits_52
  · skip
    have hwc : pw = 0 ∨ pw = 1 := p1.1 (Int32.toInt_inj.mp (by focus ((try clear hIf); (try clear hIs); (try clear xak); (try clear xas); (try clear xac); (try clear xbk); (try clear xbs); (try clear xbc); (try clear p1); (try clear p19); simp only [vp_in_iff, Int32.lt_iff_toInt_lt, Int32.le_iff_toInt_le, ← Int32.toInt_inj, Int32.toInt_add, Int32.toInt_sub, Int32.toInt_mul, Int32.toInt_neg, pq_NuO, pq_NuI, pq_NuJ, pq_NuR, pq_shr6, pq_shr7, pq_shr8, lqm1, lq0, lq1] at *; (try simp (disch := omega) only [pq_bm] at *); all_goals omega)))
    have hwd := hwc
    refine pq_aload_n F dX10_fits_9 rfl rfl ?_
    rcases hwc with hw9 | hw9
    · skip
      refine pq_get F ha (by decide) lk_X10_53 fa5 dX10_fits_10 ?_
      refine pq_iload_n F dX10_fits_13 rfl rfl ?_
      refine pq_aald F fb6 (by decide) (fun n1_14 n2_14 => (by change _ ≤ _ at n1_14; change _ ≤ 2 at n2_14; change 2 ≤ _ at n1_14; focus ((try clear hIf); (try clear hIs); (try clear xak); (try clear xas); (try clear xac); (try clear xbk); (try clear xbs); (try clear xbc); (try clear p1); (try clear p19); simp only [vp_in_iff, Int32.lt_iff_toInt_lt, Int32.le_iff_toInt_le, ← Int32.toInt_inj, Int32.toInt_add, Int32.toInt_sub, Int32.toInt_mul, Int32.toInt_neg, pq_NuO, pq_NuI, pq_NuJ, pq_NuR, pq_shr6, pq_shr7, pq_shr8, lqm1, lq0, lq1] at *; (try simp (disch := omega) only [pq_bm] at *); all_goals omega))) dX10_fits_14 (fun o14 e14 k14 => ?_)
      have e14b : o14 = some A9 := e14.trans (by rw [hw9]; exact fd0)
      subst e14b
      refine pq_aload_n F dX10_fits_15 rfl rfl ?_
      refine pq_get F ha (by decide) lk_X10_10 fa0 dX10_fits_16 ?_
      refine pq_callV (As := [_]) F (k_X0_hasTextYA l D cy _ _ ?_ _ ?_ ft1 xa7) ml_X10_138 fd2 (by decide) rfl (Nat.le_of_ble_eq_true rfl) ⟨Nat.le_of_ble_eq_true rfl, Nat.le_of_ble_eq_true rfl⟩ ⟨by decide, by decide⟩ dX10_fits_19 (fun v19 S19 w19 => ?_)
      · exact fd2
      · exact fb1
      obtain ⟨u19, y19, rfl, yl19_0, yl19_1, p19⟩ := w19
      rw [u19]
      try rw [u19] at p19
      refine pq_if_eq (tgt := 29) F dX10_fits_22 (by decide) (fun c22 => ?_) (fun c22 => ?_)
      · exact absurd (c22.symm.trans p19) (by decide)
      · skip
        refine pq_iconst (v := 1) F dX10_fits_25 (by decide) ?_
        refine pq_goto (tgt := 30) F dX10_fits_26 (by decide) ?_
        refine pq_istore_n F dX10_fits_30 rfl (by decide) ?_
        refine pq_aload_n F dX10_fits_31 rfl rfl ?_
        refine pq_get F ha (by decide) lk_X10_10 fa0 dX10_fits_32 ?_
        refine pq_iconst (v := 0) F dX10_fits_35 (by decide) ?_
        refine pq_putI F fb1 (by decide) lp_X10_75 rfl (by focus ((try clear hIf); (try clear hIs); (try clear xak); (try clear xas); (try clear xac); (try clear xbk); (try clear xbs); (try clear xbc); (try clear p1); (try clear p19); simp only [vp_in_iff, Int32.lt_iff_toInt_lt, Int32.le_iff_toInt_le, ← Int32.toInt_inj, Int32.toInt_add, Int32.toInt_sub, Int32.toInt_mul, Int32.toInt_neg, pq_NuO, pq_NuI, pq_NuJ, pq_NuR, pq_shr6, pq_shr7, pq_shr8, lqm1, lq0, lq1] at *; (try simp (disch := omega) only [pq_bm] at *); all_goals omega)) (by focus ((try clear hIf); (try clear hIs); (try clear xak); (try clear xas); (try clear xac); (try clear xbk); (try clear xbs); (try clear xbc); (try clear p1); (try clear p19); simp only [vp_in_iff, Int32.lt_iff_toInt_lt, Int32.le_iff_toInt_le, ← Int32.toInt_inj, Int32.toInt_add, Int32.toInt_sub, Int32.toInt_mul, Int32.toInt_neg, pq_NuO, pq_NuI, pq_NuJ, pq_NuR, pq_shr6, pq_shr7, pq_shr8, lqm1, lq0, lq1] at *; (try simp (disch := omega) only [pq_bm] at *); all_goals omega)) dX10_fits_36 ?_
        refine pq_iload_n F dX10_fits_39 rfl rfl ?_
        refine pq_if_ne (tgt := 53) F dX10_fits_40 (by decide) (fun c40 => ?_) (fun c40 => ?_)
        · skip
          refine pq_iload_n F dX10_fits_53 rfl rfl ?_
          exact pq_lift (pq_zret F hr hlk hA rfl (Nat.zero_le _) (Nat.zero_le _) (⟨(pq_Fr.rf.uO fb1 (by decide)), 1, rfl, (by focus ((try clear hIf); (try clear hIs); (try clear xak); (try clear xas); (try clear xac); (try clear xbk); (try clear xbs); (try clear xbc); (try clear p1); (try clear p19); simp only [vp_in_iff, Int32.lt_iff_toInt_lt, Int32.le_iff_toInt_le, ← Int32.toInt_inj, Int32.toInt_add, Int32.toInt_sub, Int32.toInt_mul, Int32.toInt_neg, pq_NuO, pq_NuI, pq_NuJ, pq_NuR, pq_shr6, pq_shr7, pq_shr8, lqm1, lq0, lq1] at *; (try simp (disch := omega) only [pq_bm] at *); all_goals omega)), (by focus ((try clear hIf); (try clear hIs); (try clear xak); (try clear xas); (try clear xac); (try clear xbk); (try clear xbs); (try clear xbc); (try clear p1); (try clear p19); simp only [vp_in_iff, Int32.lt_iff_toInt_lt, Int32.le_iff_toInt_le, ← Int32.toInt_inj, Int32.toInt_add, Int32.toInt_sub, Int32.toInt_mul, Int32.toInt_neg, pq_NuO, pq_NuI, pq_NuJ, pq_NuR, pq_shr6, pq_shr7, pq_shr8, lqm1, lq0, lq1] at *; (try simp (disch := omega) only [pq_bm] at *); all_goals omega)), hwd, rfl⟩) dX10_fits_54)
        · exact absurd c40 c6
    · skip
      refine pq_get F ha (by decide) lk_X10_53 fa5 dX10_fits_10 ?_
      refine pq_iload_n F dX10_fits_13 rfl rfl ?_
      refine pq_aald F fb6 (by decide) (fun n1_14 n2_14 => (by change _ ≤ _ at n1_14; change _ ≤ 2 at n2_14; change 2 ≤ _ at n1_14; focus ((try clear hIf); (try clear hIs); (try clear xak); (try clear xas); (try clear xac); (try clear xbk); (try clear xbs); (try clear xbc); (try clear p1); (try clear p19); simp only [vp_in_iff, Int32.lt_iff_toInt_lt, Int32.le_iff_toInt_le, ← Int32.toInt_inj, Int32.toInt_add, Int32.toInt_sub, Int32.toInt_mul, Int32.toInt_neg, pq_NuO, pq_NuI, pq_NuJ, pq_NuR, pq_shr6, pq_shr7, pq_shr8, lqm1, lq0, lq1] at *; (try simp (disch := omega) only [pq_bm] at *); all_goals omega))) dX10_fits_14 (fun o14 e14 k14 => ?_)
      have e14b : o14 = some B9 := e14.trans (by rw [hw9]; exact fd1)
      subst e14b
      refine pq_aload_n F dX10_fits_15 rfl rfl ?_
      refine pq_get F ha (by decide) lk_X10_10 fa0 dX10_fits_16 ?_
      refine pq_callV (As := [_]) F (k_X0_hasTextYB l D cy _ _ ?_ _ ?_ ft1 xb7) ml_X10_138 fd3 (by decide) rfl (Nat.le_of_ble_eq_true rfl) ⟨Nat.le_of_ble_eq_true rfl, Nat.le_of_ble_eq_true rfl⟩ ⟨by decide, by decide⟩ dX10_fits_19 (fun v19 S19 w19 => ?_)
      · exact fd3
      · exact fb1
      obtain ⟨u19, y19, rfl, yl19_0, yl19_1, p19⟩ := w19
      rw [u19]
      try rw [u19] at p19
      refine pq_if_eq (tgt := 29) F dX10_fits_22 (by decide) (fun c22 => ?_) (fun c22 => ?_)
      · exact absurd (c22.symm.trans p19) (by decide)
      · skip
        refine pq_iconst (v := 1) F dX10_fits_25 (by decide) ?_
        refine pq_goto (tgt := 30) F dX10_fits_26 (by decide) ?_
        refine pq_istore_n F dX10_fits_30 rfl (by decide) ?_
        refine pq_aload_n F dX10_fits_31 rfl rfl ?_
        refine pq_get F ha (by decide) lk_X10_10 fa0 dX10_fits_32 ?_
        refine pq_iconst (v := 0) F dX10_fits_35 (by decide) ?_
        refine pq_putI F fb1 (by decide) lp_X10_75 rfl (by focus ((try clear hIf); (try clear hIs); (try clear xak); (try clear xas); (try clear xac); (try clear xbk); (try clear xbs); (try clear xbc); (try clear p1); (try clear p19); simp only [vp_in_iff, Int32.lt_iff_toInt_lt, Int32.le_iff_toInt_le, ← Int32.toInt_inj, Int32.toInt_add, Int32.toInt_sub, Int32.toInt_mul, Int32.toInt_neg, pq_NuO, pq_NuI, pq_NuJ, pq_NuR, pq_shr6, pq_shr7, pq_shr8, lqm1, lq0, lq1] at *; (try simp (disch := omega) only [pq_bm] at *); all_goals omega)) (by focus ((try clear hIf); (try clear hIs); (try clear xak); (try clear xas); (try clear xac); (try clear xbk); (try clear xbs); (try clear xbc); (try clear p1); (try clear p19); simp only [vp_in_iff, Int32.lt_iff_toInt_lt, Int32.le_iff_toInt_le, ← Int32.toInt_inj, Int32.toInt_add, Int32.toInt_sub, Int32.toInt_mul, Int32.toInt_neg, pq_NuO, pq_NuI, pq_NuJ, pq_NuR, pq_shr6, pq_shr7, pq_shr8, lqm1, lq0, lq1] at *; (try simp (disch := omega) only [pq_bm] at *); all_goals omega)) dX10_fits_36 ?_
        refine pq_iload_n F dX10_fits_39 rfl rfl ?_
        refine pq_if_ne (tgt := 53) F dX10_fits_40 (by decide) (fun c40 => ?_) (fun c40 => ?_)
        · skip
          refine pq_iload_n F dX10_fits_53 rfl rfl ?_
          exact pq_lift (pq_zret F hr hlk hA rfl (Nat.zero_le _) (Nat.zero_le _) (⟨(pq_Fr.rf.uO fb1 (by decide)), 1, rfl, (by focus ((try clear hIf); (try clear hIs); (try clear xak); (try clear xas); (try clear xac); (try clear xbk); (try clear xbs); (try clear xbc); (try clear p1); (try clear p19); simp only [vp_in_iff, Int32.lt_iff_toInt_lt, Int32.le_iff_toInt_le, ← Int32.toInt_inj, Int32.toInt_add, Int32.toInt_sub, Int32.toInt_mul, Int32.toInt_neg, pq_NuO, pq_NuI, pq_NuJ, pq_NuR, pq_shr6, pq_shr7, pq_shr8, lqm1, lq0, lq1] at *; (try simp (disch := omega) only [pq_bm] at *); all_goals omega)), (by focus ((try clear hIf); (try clear hIs); (try clear xak); (try clear xas); (try clear xac); (try clear xbk); (try clear xbs); (try clear xbc); (try clear p1); (try clear p19); simp only [vp_in_iff, Int32.lt_iff_toInt_lt, Int32.le_iff_toInt_le, ← Int32.toInt_inj, Int32.toInt_add, Int32.toInt_sub, Int32.toInt_mul, Int32.toInt_neg, pq_NuO, pq_NuI, pq_NuJ, pq_NuR, pq_shr6, pq_shr7, pq_shr8, lqm1, lq0, lq1] at *; (try simp (disch := omega) only [pq_bm] at *); all_goals omega)), hwd, rfl⟩) dX10_fits_54)
        · exact absurd c40 c6

set_option maxHeartbeats 4000000 in
set_option maxRecDepth 100000 in
theorem k_X1_textsOfYA (l : Launch) (D : va_G) (cy : Nat → ClassId) (S : HS) (a : Nat) (ha : pq_R S a 4) (tt : Nat) (htt : pq_R S tt 3) (ln : Int32) (hln0 : 0 ≤ ln.toInt) (hln1 : ln.toInt ≤ 12) (sst ac : Nat) (e3 : hO S tt 3 = .ref sst) (hsst : pq_R S sst 152) (e2 : hO S tt 2 = .ref ac) (hac : pq_R S ac 206) (e4 : hO S tt 4 = .int 1) (e5 : hO S tt 5 = .int 1) (e6 : hO S tt 6 = .int 0) (e7 : hO S tt 7 = .int 1) (kac : hI S ac 0 = 0) : pq_C l D cy yX1_textsOf cX1_textsOf 6 (some .long) 3 0 0 S [.ref a, .ref tt, .int ln] (fun v S2 => pq_Fr [(189, 0), (4, 0), (4, 1)] S S2 ∧ ∃ x : Int64, v = some (.long x) ∧ (x = (if ln.toInt = 0 then 1 else 0))) := by
  refine pq_start (by decide) (Nat.le_of_ble_eq_true rfl) ?_
  intro p e s m args below meth c A F hr hlk hnm hA
  have lqm1 : (-1 : Int32).toInt = -1 := rfl
  have lq0 : (0 : Int32).toInt = 0 := rfl
  have lq1 : (1 : Int32).toInt = 1 := rfl
  have L58 : ∀ (hnz : ¬ ln = 0) (fu : Nat) (S1 : HS) (j_tx : Int64) (k : Int32)  (hF : pq_Fr [(189, 0), (4, 0), (4, 1)] S S1) (hk0 : 0 ≤ k.toInt) (hk1 : k.toInt ≤ 1) (htx : j_tx = 0), (1 - k.toInt).toNat < fu → pq_At p l e (pq_rm 3 0 0) s m args below meth c (pq_Z below args s D cy S 0 0 (fun v S2 => pq_Fr [(189, 0), (4, 0), (4, 1)] S S2 ∧ ∃ x : Int64, v = some (.long x) ∧ (x = (if ln.toInt = 0 then 1 else 0)))) D cy A 6 0 0 58 S1 [some (.ref a), some (.ref tt), some (.int ln), some (.long j_tx), none, some (.int k)] [] := by
    intro hnz fu
    induction fu with
    | zero => intro S1 j_tx k hF hk0 hk1 htx hm; exact absurd hm (Nat.not_lt_zero _)
    | succ fu ih =>
      intro S1 j_tx k hF hk0 hk1 htx hm
      have haL := hF.R ha (by first | decide | omega)
      have httL := hF.R htt (by first | decide | omega)
      have e3L := hF.O htt (by decide) (by decide) e3
      have hsL := hF.R hsst (by decide)
      have e4L := hF.O htt (by decide) (by decide) e4
      have e5L := hF.O htt (by decide) (by decide) e5
      have e2L := hF.O htt (by decide) (by decide) e2
      have hacL := hF.R hac (by decide)
      have aI := hF.I hac (by decide) (by decide)
      refine pq_lenF hsL (by decide) rfl (fun ln1 ln2 => ?_)
      refine pq_iload F dX1_textsOf_58 rfl ?_
      refine pq_aload_n F dX1_textsOf_60 rfl rfl ?_
      refine pq_get F httL (by decide) lk_X1_38 e5L dX1_textsOf_61 ?_
      refine pq_icmp_ge (tgt := 97) F dX1_textsOf_64 (by decide) (fun c64 => ?_) (fun c64 => ?_)
      · skip
        refine pq_lload_n F dX1_textsOf_97 rfl rfl ?_
        exact pq_lret F hr hlk hA (Nat.le_refl _) (Nat.le_refl _) (⟨hF, _, rfl, (by rw [htx, if_neg (fun (z : ln.toInt = 0) => hnz (Int32.toInt_inj.mp (z.trans lq0.symm)))])⟩) dX1_textsOf_98
      · skip
        refine pq_lload_n F dX1_textsOf_67 rfl rfl ?_
        refine pq_aload_n F dX1_textsOf_68 rfl rfl ?_
        refine pq_get F httL (by decide) lk_X1_41 e2L dX1_textsOf_69 ?_
        refine pq_iload F dX1_textsOf_72 rfl ?_
        refine pq_zald F hacL (by decide) (by decide) rfl (fun n1_74 n2_74 => (by focus ((try clear kac); (try clear aI); (try clear htx); (try clear hnz); simp only [vp_in_iff, Int32.lt_iff_toInt_lt, Int32.le_iff_toInt_le, ← Int32.toInt_inj, Int32.toInt_add, Int32.toInt_sub, Int32.toInt_mul, Int32.toInt_neg, pq_NuO, pq_NuI, pq_NuJ, pq_NuR, pq_shr6, pq_shr7, pq_shr8, lqm1, lq0, lq1] at *; (try simp (disch := omega) only [pq_bm] at *); all_goals omega))) dX1_textsOf_74 (fun x74 e74 l74 u74 => ?_)
        refine pq_if_eq (tgt := 88) F dX1_textsOf_75 (by decide) (fun c75 => ?_) (fun c75 => ?_)
        · skip
          refine pq_lconst (v := 0) F dX1_textsOf_88 (by decide) ?_
          refine pq_ladd F dX1_textsOf_89 ?_
          refine pq_lstore_n F dX1_textsOf_90 rfl (by decide) ?_
          refine pq_iinc (v := 1) F dX1_textsOf_91 rfl (by decide) (by decide) ?_
          refine pq_goto (tgt := 58) F dX1_textsOf_94 (by decide) ?_
          exact pq_fgm [true, true, true, true, false, true] (ih _ _ _ hF (by focus ((try clear kac); (try clear aI); (try clear htx); (try clear hnz); simp only [vp_in_iff, Int32.lt_iff_toInt_lt, Int32.le_iff_toInt_le, ← Int32.toInt_inj, Int32.toInt_add, Int32.toInt_sub, Int32.toInt_mul, Int32.toInt_neg, pq_NuO, pq_NuI, pq_NuJ, pq_NuR, pq_shr6, pq_shr7, pq_shr8, lqm1, lq0, lq1] at *; (try simp (disch := omega) only [pq_bm] at *); all_goals omega)) (by focus ((try clear kac); (try clear aI); (try clear htx); (try clear hnz); simp only [vp_in_iff, Int32.lt_iff_toInt_lt, Int32.le_iff_toInt_le, ← Int32.toInt_inj, Int32.toInt_add, Int32.toInt_sub, Int32.toInt_mul, Int32.toInt_neg, pq_NuO, pq_NuI, pq_NuJ, pq_NuR, pq_shr6, pq_shr7, pq_shr8, lqm1, lq0, lq1] at *; (try simp (disch := omega) only [pq_bm] at *); all_goals omega)) (by rw [htx]; rfl) (by focus ((try clear kac); (try clear aI); (try clear htx); (try clear hnz); simp only [vp_in_iff, Int32.lt_iff_toInt_lt, Int32.le_iff_toInt_le, ← Int32.toInt_inj, Int32.toInt_add, Int32.toInt_sub, Int32.toInt_mul, Int32.toInt_neg, pq_NuO, pq_NuI, pq_NuJ, pq_NuR, pq_shr6, pq_shr7, pq_shr8, lqm1, lq0, lq1] at *; (try simp (disch := omega) only [pq_bm] at *); all_goals omega)))
        · exact absurd (show x74 = 0 from e74.trans (by rw [aI, show k.toNatClampNeg = 0 by (have z := pq_cl hk0; focus ((try clear kac); (try clear aI); (try clear htx); (try clear hnz); simp only [vp_in_iff, Int32.lt_iff_toInt_lt, Int32.le_iff_toInt_le, ← Int32.toInt_inj, Int32.toInt_add, Int32.toInt_sub, Int32.toInt_mul, Int32.toInt_neg, pq_NuO, pq_NuI, pq_NuJ, pq_NuR, pq_shr6, pq_shr7, pq_shr8, lqm1, lq0, lq1] at *; (try simp (disch := omega) only [pq_bm] at *); all_goals omega))]; exact kac)) c75
  have L37 : ∀ (hnz : ¬ ln = 0) (fu : Nat) (S1 : HS) (k : Int32)  (hF : pq_Fr [(189, 0), (4, 0), (4, 1)] S S1) (hk0 : 0 ≤ k.toInt) (hk1 : k.toInt ≤ 12), (12 - k.toInt).toNat < fu → pq_At p l e (pq_rm 3 0 0) s m args below meth c (pq_Z below args s D cy S 0 0 (fun v S2 => pq_Fr [(189, 0), (4, 0), (4, 1)] S S2 ∧ ∃ x : Int64, v = some (.long x) ∧ (x = (if ln.toInt = 0 then 1 else 0)))) D cy A 6 0 0 37 S1 [some (.ref a), some (.ref tt), some (.int ln), some (.int k), none, none] [] := by
    intro hnz fu
    induction fu with
    | zero => intro S1 k hF hk0 hk1 hm; exact absurd hm (Nat.not_lt_zero _)
    | succ fu ih =>
      intro S1 k hF hk0 hk1 hm
      have haL := hF.R ha (by first | decide | omega)
      have httL := hF.R htt (by first | decide | omega)
      have e3L := hF.O htt (by decide) (by decide) e3
      have hsL := hF.R hsst (by decide)
      have e4L := hF.O htt (by decide) (by decide) e4
      have e5L := hF.O htt (by decide) (by decide) e5
      have e2L := hF.O htt (by decide) (by decide) e2
      have hacL := hF.R hac (by decide)
      have aI := hF.I hac (by decide) (by decide)
      refine pq_lenF hsL (by decide) rfl (fun ln1 ln2 => ?_)
      refine pq_iload_n F dX1_textsOf_37 rfl rfl ?_
      refine pq_iload_n F dX1_textsOf_38 rfl rfl ?_
      refine pq_icmp_ge (tgt := 53) F dX1_textsOf_39 (by decide) (fun c39 => ?_) (fun c39 => ?_)
      · skip
        refine pq_lconst (v := 0) F dX1_textsOf_53 (by decide) ?_
        refine pq_lstore_n F dX1_textsOf_54 rfl (by decide) ?_
        refine pq_iconst (v := 0) F dX1_textsOf_55 (by decide) ?_
        refine pq_istore F dX1_textsOf_56 (by decide) ?_
        exact pq_fgm [true, true, true, true, false, true] (L58 hnz 10 _ 0 0 hF (by focus ((try clear kac); (try clear aI); (try clear htx); (try clear hnz); simp only [vp_in_iff, Int32.lt_iff_toInt_lt, Int32.le_iff_toInt_le, ← Int32.toInt_inj, Int32.toInt_add, Int32.toInt_sub, Int32.toInt_mul, Int32.toInt_neg, pq_NuO, pq_NuI, pq_NuJ, pq_NuR, pq_shr6, pq_shr7, pq_shr8, lqm1, lq0, lq1] at *; (try simp (disch := omega) only [pq_bm] at *); all_goals omega)) (by focus ((try clear kac); (try clear aI); (try clear htx); (try clear hnz); simp only [vp_in_iff, Int32.lt_iff_toInt_lt, Int32.le_iff_toInt_le, ← Int32.toInt_inj, Int32.toInt_add, Int32.toInt_sub, Int32.toInt_mul, Int32.toInt_neg, pq_NuO, pq_NuI, pq_NuJ, pq_NuR, pq_shr6, pq_shr7, pq_shr8, lqm1, lq0, lq1] at *; (try simp (disch := omega) only [pq_bm] at *); all_goals omega)) rfl (by focus ((try clear kac); (try clear aI); (try clear htx); (try clear hnz); simp only [vp_in_iff, Int32.lt_iff_toInt_lt, Int32.le_iff_toInt_le, ← Int32.toInt_inj, Int32.toInt_add, Int32.toInt_sub, Int32.toInt_mul, Int32.toInt_neg, pq_NuO, pq_NuI, pq_NuJ, pq_NuR, pq_shr6, pq_shr7, pq_shr8, lqm1, lq0, lq1] at *; (try simp (disch := omega) only [pq_bm] at *); all_goals omega)))
      · skip
        refine pq_aload_n F dX1_textsOf_42 rfl rfl ?_
        refine pq_aload_n F dX1_textsOf_43 rfl rfl ?_
        refine pq_callV (As := [_]) F (k_X1_lengthenA l D cy _ _ ?_ _ ?_ 0 sst 1 1 e3L hsL e4L ?_ ?_ e5L ?_ ?_ (by show (1 : Int32).toInt * (1 : Int32).toInt ≤ _; rw [lq1]; omega)) ml_X1_34 haL (by decide) rfl (Nat.le_of_ble_eq_true rfl) ⟨Nat.le_of_ble_eq_true rfl, Nat.le_of_ble_eq_true rfl⟩ ⟨by decide, by decide⟩ dX1_textsOf_44 (fun v44 S44 w44 => ?_)
        · exact haL
        · exact httL
        · focus ((try clear kac); (try clear aI); (try clear htx); (try clear hnz); simp only [vp_in_iff, Int32.lt_iff_toInt_lt, Int32.le_iff_toInt_le, ← Int32.toInt_inj, Int32.toInt_add, Int32.toInt_sub, Int32.toInt_mul, Int32.toInt_neg, pq_NuO, pq_NuI, pq_NuJ, pq_NuR, pq_shr6, pq_shr7, pq_shr8, lqm1, lq0, lq1] at *; (try simp (disch := omega) only [pq_bm] at *); all_goals omega)
        · focus ((try clear kac); (try clear aI); (try clear htx); (try clear hnz); simp only [vp_in_iff, Int32.lt_iff_toInt_lt, Int32.le_iff_toInt_le, ← Int32.toInt_inj, Int32.toInt_add, Int32.toInt_sub, Int32.toInt_mul, Int32.toInt_neg, pq_NuO, pq_NuI, pq_NuJ, pq_NuR, pq_shr6, pq_shr7, pq_shr8, lqm1, lq0, lq1] at *; (try simp (disch := omega) only [pq_bm] at *); all_goals omega)
        · focus ((try clear kac); (try clear aI); (try clear htx); (try clear hnz); simp only [vp_in_iff, Int32.lt_iff_toInt_lt, Int32.le_iff_toInt_le, ← Int32.toInt_inj, Int32.toInt_add, Int32.toInt_sub, Int32.toInt_mul, Int32.toInt_neg, pq_NuO, pq_NuI, pq_NuJ, pq_NuR, pq_shr6, pq_shr7, pq_shr8, lqm1, lq0, lq1] at *; (try simp (disch := omega) only [pq_bm] at *); all_goals omega)
        · focus ((try clear kac); (try clear aI); (try clear htx); (try clear hnz); simp only [vp_in_iff, Int32.lt_iff_toInt_lt, Int32.le_iff_toInt_le, ← Int32.toInt_inj, Int32.toInt_add, Int32.toInt_sub, Int32.toInt_mul, Int32.toInt_neg, pq_NuO, pq_NuI, pq_NuJ, pq_NuR, pq_shr6, pq_shr7, pq_shr8, lqm1, lq0, lq1] at *; (try simp (disch := omega) only [pq_bm] at *); all_goals omega)
        obtain ⟨rfl, hF44⟩ := w44
        have haL_44 := (hF44.1 _ _ haL (by decide)).1
        have httL_44 := (hF44.1 _ _ httL (by decide)).1
        have hsL_44 := (hF44.1 _ _ hsL (by decide)).1
        have ec44_3_httL_44 := hF44.O httL (by decide) (by decide) e3L
        have ec44_4_httL_44 := hF44.O httL (by decide) (by decide) e4L
        have ec44_5_httL_44 := hF44.O httL (by decide) (by decide) e5L
        have hacL_44 := (hF44.1 _ _ hacL (by decide)).1
        have ec44_2_httL_44 := hF44.O httL (by decide) (by decide) e2L
        refine pq_iinc (v := 1) F dX1_textsOf_47 rfl (by decide) (by decide) ?_
        refine pq_goto (tgt := 37) F dX1_textsOf_50 (by decide) ?_
        exact pq_fgm [true, true, true, true, false, false] (ih _ _ (hF.cm hF44 (by decide)) (by focus ((try clear kac); (try clear aI); (try clear htx); (try clear hnz); simp only [vp_in_iff, Int32.lt_iff_toInt_lt, Int32.le_iff_toInt_le, ← Int32.toInt_inj, Int32.toInt_add, Int32.toInt_sub, Int32.toInt_mul, Int32.toInt_neg, pq_NuO, pq_NuI, pq_NuJ, pq_NuR, pq_shr6, pq_shr7, pq_shr8, lqm1, lq0, lq1] at *; (try simp (disch := omega) only [pq_bm] at *); all_goals omega)) (by focus ((try clear kac); (try clear aI); (try clear htx); (try clear hnz); simp only [vp_in_iff, Int32.lt_iff_toInt_lt, Int32.le_iff_toInt_le, ← Int32.toInt_inj, Int32.toInt_add, Int32.toInt_sub, Int32.toInt_mul, Int32.toInt_neg, pq_NuO, pq_NuI, pq_NuJ, pq_NuR, pq_shr6, pq_shr7, pq_shr8, lqm1, lq0, lq1] at *; (try simp (disch := omega) only [pq_bm] at *); all_goals omega)) (by focus ((try clear kac); (try clear aI); (try clear htx); (try clear hnz); simp only [vp_in_iff, Int32.lt_iff_toInt_lt, Int32.le_iff_toInt_le, ← Int32.toInt_inj, Int32.toInt_add, Int32.toInt_sub, Int32.toInt_mul, Int32.toInt_neg, pq_NuO, pq_NuI, pq_NuJ, pq_NuR, pq_shr6, pq_shr7, pq_shr8, lqm1, lq0, lq1] at *; (try simp (disch := omega) only [pq_bm] at *); all_goals omega)))
  refine pq_iload_n F dX1_textsOf_0 rfl rfl ?_
  refine pq_if_ne (tgt := 17) F dX1_textsOf_1 (by decide) (fun c1 => ?_) (fun c1 => ?_)
  · skip
    refine pq_aload_n F dX1_textsOf_17 rfl rfl ?_
    refine pq_getR F ha (by decide) lk_X1_9 rfl dX1_textsOf_18 (fun r18 e18 h18 => ?_)
    refine pq_lconst (v := 0) F dX1_textsOf_21 (by decide) ?_
    refine pq_lenF h18 (by decide) rfl (fun lna22_0 lnb22_0 => ?_)
    refine pq_callS (As := [_, _]) F (k_J7_fill_d0a16 l D cy _ _ 189 ?_ ?_ ?_ _ ?_) ml_X1_24 (Nat.le_of_ble_eq_true rfl) ⟨Nat.le_of_ble_eq_true rfl, Nat.le_of_ble_eq_true rfl⟩ ⟨by decide, by decide⟩ dX1_textsOf_22 (fun v22 S22 w22 => ?_)
    · exact h18
    · first | decide | omega
    · first | decide | omega
    · focus ((try clear kac); (try clear aI); (try clear htx); (try clear hnz); simp only [vp_in_iff, Int32.lt_iff_toInt_lt, Int32.le_iff_toInt_le, ← Int32.toInt_inj, Int32.toInt_add, Int32.toInt_sub, Int32.toInt_mul, Int32.toInt_neg, pq_NuO, pq_NuI, pq_NuJ, pq_NuR, pq_shr6, pq_shr7, pq_shr8, lqm1, lq0, lq1] at *; (try simp (disch := omega) only [pq_bm] at *); all_goals omega)
    obtain ⟨rfl, f22, rfl, g22⟩ := w22
    refine pq_aload_n F dX1_textsOf_25 rfl rfl ?_
    refine pq_get F ha (by decide) lk_X1_9 e18 dX1_textsOf_26 ?_
    refine pq_aload_n F dX1_textsOf_29 rfl rfl ?_
    refine pq_get F htt (by decide) lk_X1_30 e6 dX1_textsOf_30 ?_
    refine pq_lconst (v := 1) F dX1_textsOf_33 (by decide) ?_
    refine pq_last F h18 (by decide) (by decide) rfl (fun n1_34 n2_34 => (by focus ((try clear kac); (try clear aI); (try clear htx); (try clear hnz); simp only [vp_in_iff, Int32.lt_iff_toInt_lt, Int32.le_iff_toInt_le, ← Int32.toInt_inj, Int32.toInt_add, Int32.toInt_sub, Int32.toInt_mul, Int32.toInt_neg, pq_NuO, pq_NuI, pq_NuJ, pq_NuR, pq_shr6, pq_shr7, pq_shr8, lqm1, lq0, lq1] at *; (try simp (disch := omega) only [pq_bm] at *); all_goals omega))) dX1_textsOf_34 ?_
    refine pq_iconst (v := 0) F dX1_textsOf_35 (by decide) ?_
    refine pq_istore_n F dX1_textsOf_36 rfl (by decide) ?_
    exact pq_fgm [true, true, true, true, false, false] (L37 c1 100 _ 0 ((pq_Fr.rf.uJ h18 (by first | decide | exact List.mem_cons_self)).uJ h18 (by first | decide | exact List.mem_cons_self)) (by focus ((try clear kac); (try clear aI); (try clear htx); (try clear hnz); simp only [vp_in_iff, Int32.lt_iff_toInt_lt, Int32.le_iff_toInt_le, ← Int32.toInt_inj, Int32.toInt_add, Int32.toInt_sub, Int32.toInt_mul, Int32.toInt_neg, pq_NuO, pq_NuI, pq_NuJ, pq_NuR, pq_shr6, pq_shr7, pq_shr8, lqm1, lq0, lq1] at *; (try simp (disch := omega) only [pq_bm] at *); all_goals omega)) (by focus ((try clear kac); (try clear aI); (try clear htx); (try clear hnz); simp only [vp_in_iff, Int32.lt_iff_toInt_lt, Int32.le_iff_toInt_le, ← Int32.toInt_inj, Int32.toInt_add, Int32.toInt_sub, Int32.toInt_mul, Int32.toInt_neg, pq_NuO, pq_NuI, pq_NuJ, pq_NuR, pq_shr6, pq_shr7, pq_shr8, lqm1, lq0, lq1] at *; (try simp (disch := omega) only [pq_bm] at *); all_goals omega)) (by focus ((try clear kac); (try clear aI); (try clear htx); (try clear hnz); simp only [vp_in_iff, Int32.lt_iff_toInt_lt, Int32.le_iff_toInt_le, ← Int32.toInt_inj, Int32.toInt_add, Int32.toInt_sub, Int32.toInt_mul, Int32.toInt_neg, pq_NuO, pq_NuI, pq_NuJ, pq_NuR, pq_shr6, pq_shr7, pq_shr8, lqm1, lq0, lq1] at *; (try simp (disch := omega) only [pq_bm] at *); all_goals omega)))
  · skip
    refine pq_aload_n F dX1_textsOf_4 rfl rfl ?_
    refine pq_get F htt (by decide) lk_X1_18 e7 dX1_textsOf_5 ?_
    refine pq_if_eq (tgt := 15) F dX1_textsOf_8 (by decide) (fun c8 => ?_) (fun c8 => ?_)
    · exact absurd c8 (by decide)
    · skip
      refine pq_lconst (v := 1) F dX1_textsOf_11 (by decide) ?_
      refine pq_goto (tgt := 16) F dX1_textsOf_12 (by decide) ?_
      exact pq_lret F hr hlk hA (Nat.le_refl _) (Nat.le_refl _) (⟨pq_Fr.rf, _, rfl, (by rw [if_pos (show ln.toInt = 0 from by rw [c1]; rfl)])⟩) dX1_textsOf_16

set_option maxHeartbeats 4000000 in
set_option maxRecDepth 100000 in
theorem k_X1_textsOfYB (l : Launch) (D : va_G) (cy : Nat → ClassId) (S : HS) (a : Nat) (ha : pq_R S a 4) (tt : Nat) (htt : pq_R S tt 33) (ln : Int32) (hln0 : 0 ≤ ln.toInt) (hln1 : ln.toInt ≤ 12) (sst ac : Nat) (e3 : hO S tt 3 = .ref sst) (hsst : pq_R S sst 155) (e2 : hO S tt 2 = .ref ac) (hac : pq_R S ac 207) (e4 : hO S tt 4 = .int 1) (e5 : hO S tt 5 = .int 1) (e6 : hO S tt 6 = .int 0) (e7 : hO S tt 7 = .int 1) (kac : hI S ac 0 = 0) : pq_C l D cy yX1_textsOf cX1_textsOf 6 (some .long) 3 0 0 S [.ref a, .ref tt, .int ln] (fun v S2 => pq_Fr [(189, 0), (4, 0), (4, 1)] S S2 ∧ ∃ x : Int64, v = some (.long x) ∧ (x = (if ln.toInt = 0 then 1 else 0))) := by
  refine pq_start (by decide) (Nat.le_of_ble_eq_true rfl) ?_
  intro p e s m args below meth c A F hr hlk hnm hA
  have lqm1 : (-1 : Int32).toInt = -1 := rfl
  have lq0 : (0 : Int32).toInt = 0 := rfl
  have lq1 : (1 : Int32).toInt = 1 := rfl
  have L58 : ∀ (hnz : ¬ ln = 0) (fu : Nat) (S1 : HS) (j_tx : Int64) (k : Int32)  (hF : pq_Fr [(189, 0), (4, 0), (4, 1)] S S1) (hk0 : 0 ≤ k.toInt) (hk1 : k.toInt ≤ 1) (htx : j_tx = 0), (1 - k.toInt).toNat < fu → pq_At p l e (pq_rm 3 0 0) s m args below meth c (pq_Z below args s D cy S 0 0 (fun v S2 => pq_Fr [(189, 0), (4, 0), (4, 1)] S S2 ∧ ∃ x : Int64, v = some (.long x) ∧ (x = (if ln.toInt = 0 then 1 else 0)))) D cy A 6 0 0 58 S1 [some (.ref a), some (.ref tt), some (.int ln), some (.long j_tx), none, some (.int k)] [] := by
    intro hnz fu
    induction fu with
    | zero => intro S1 j_tx k hF hk0 hk1 htx hm; exact absurd hm (Nat.not_lt_zero _)
    | succ fu ih =>
      intro S1 j_tx k hF hk0 hk1 htx hm
      have haL := hF.R ha (by first | decide | omega)
      have httL := hF.R htt (by first | decide | omega)
      have e3L := hF.O htt (by decide) (by decide) e3
      have hsL := hF.R hsst (by decide)
      have e4L := hF.O htt (by decide) (by decide) e4
      have e5L := hF.O htt (by decide) (by decide) e5
      have e2L := hF.O htt (by decide) (by decide) e2
      have hacL := hF.R hac (by decide)
      have aI := hF.I hac (by decide) (by decide)
      refine pq_lenF hsL (by decide) rfl (fun ln1 ln2 => ?_)
      refine pq_iload F dX1_textsOf_58 rfl ?_
      refine pq_aload_n F dX1_textsOf_60 rfl rfl ?_
      refine pq_get F httL (by decide) lk_X1_38 e5L dX1_textsOf_61 ?_
      refine pq_icmp_ge (tgt := 97) F dX1_textsOf_64 (by decide) (fun c64 => ?_) (fun c64 => ?_)
      · skip
        refine pq_lload_n F dX1_textsOf_97 rfl rfl ?_
        exact pq_lret F hr hlk hA (Nat.le_refl _) (Nat.le_refl _) (⟨hF, _, rfl, (by rw [htx, if_neg (fun (z : ln.toInt = 0) => hnz (Int32.toInt_inj.mp (z.trans lq0.symm)))])⟩) dX1_textsOf_98
      · skip
        refine pq_lload_n F dX1_textsOf_67 rfl rfl ?_
        refine pq_aload_n F dX1_textsOf_68 rfl rfl ?_
        refine pq_get F httL (by decide) lk_X1_41 e2L dX1_textsOf_69 ?_
        refine pq_iload F dX1_textsOf_72 rfl ?_
        refine pq_zald F hacL (by decide) (by decide) rfl (fun n1_74 n2_74 => (by focus ((try clear kac); (try clear aI); (try clear htx); (try clear hnz); simp only [vp_in_iff, Int32.lt_iff_toInt_lt, Int32.le_iff_toInt_le, ← Int32.toInt_inj, Int32.toInt_add, Int32.toInt_sub, Int32.toInt_mul, Int32.toInt_neg, pq_NuO, pq_NuI, pq_NuJ, pq_NuR, pq_shr6, pq_shr7, pq_shr8, lqm1, lq0, lq1] at *; (try simp (disch := omega) only [pq_bm] at *); all_goals omega))) dX1_textsOf_74 (fun x74 e74 l74 u74 => ?_)
        refine pq_if_eq (tgt := 88) F dX1_textsOf_75 (by decide) (fun c75 => ?_) (fun c75 => ?_)
        · skip
          refine pq_lconst (v := 0) F dX1_textsOf_88 (by decide) ?_
          refine pq_ladd F dX1_textsOf_89 ?_
          refine pq_lstore_n F dX1_textsOf_90 rfl (by decide) ?_
          refine pq_iinc (v := 1) F dX1_textsOf_91 rfl (by decide) (by decide) ?_
          refine pq_goto (tgt := 58) F dX1_textsOf_94 (by decide) ?_
          exact pq_fgm [true, true, true, true, false, true] (ih _ _ _ hF (by focus ((try clear kac); (try clear aI); (try clear htx); (try clear hnz); simp only [vp_in_iff, Int32.lt_iff_toInt_lt, Int32.le_iff_toInt_le, ← Int32.toInt_inj, Int32.toInt_add, Int32.toInt_sub, Int32.toInt_mul, Int32.toInt_neg, pq_NuO, pq_NuI, pq_NuJ, pq_NuR, pq_shr6, pq_shr7, pq_shr8, lqm1, lq0, lq1] at *; (try simp (disch := omega) only [pq_bm] at *); all_goals omega)) (by focus ((try clear kac); (try clear aI); (try clear htx); (try clear hnz); simp only [vp_in_iff, Int32.lt_iff_toInt_lt, Int32.le_iff_toInt_le, ← Int32.toInt_inj, Int32.toInt_add, Int32.toInt_sub, Int32.toInt_mul, Int32.toInt_neg, pq_NuO, pq_NuI, pq_NuJ, pq_NuR, pq_shr6, pq_shr7, pq_shr8, lqm1, lq0, lq1] at *; (try simp (disch := omega) only [pq_bm] at *); all_goals omega)) (by rw [htx]; rfl) (by focus ((try clear kac); (try clear aI); (try clear htx); (try clear hnz); simp only [vp_in_iff, Int32.lt_iff_toInt_lt, Int32.le_iff_toInt_le, ← Int32.toInt_inj, Int32.toInt_add, Int32.toInt_sub, Int32.toInt_mul, Int32.toInt_neg, pq_NuO, pq_NuI, pq_NuJ, pq_NuR, pq_shr6, pq_shr7, pq_shr8, lqm1, lq0, lq1] at *; (try simp (disch := omega) only [pq_bm] at *); all_goals omega)))
        · exact absurd (show x74 = 0 from e74.trans (by rw [aI, show k.toNatClampNeg = 0 by (have z := pq_cl hk0; focus ((try clear kac); (try clear aI); (try clear htx); (try clear hnz); simp only [vp_in_iff, Int32.lt_iff_toInt_lt, Int32.le_iff_toInt_le, ← Int32.toInt_inj, Int32.toInt_add, Int32.toInt_sub, Int32.toInt_mul, Int32.toInt_neg, pq_NuO, pq_NuI, pq_NuJ, pq_NuR, pq_shr6, pq_shr7, pq_shr8, lqm1, lq0, lq1] at *; (try simp (disch := omega) only [pq_bm] at *); all_goals omega))]; exact kac)) c75
  have L37 : ∀ (hnz : ¬ ln = 0) (fu : Nat) (S1 : HS) (k : Int32)  (hF : pq_Fr [(189, 0), (4, 0), (4, 1)] S S1) (hk0 : 0 ≤ k.toInt) (hk1 : k.toInt ≤ 12), (12 - k.toInt).toNat < fu → pq_At p l e (pq_rm 3 0 0) s m args below meth c (pq_Z below args s D cy S 0 0 (fun v S2 => pq_Fr [(189, 0), (4, 0), (4, 1)] S S2 ∧ ∃ x : Int64, v = some (.long x) ∧ (x = (if ln.toInt = 0 then 1 else 0)))) D cy A 6 0 0 37 S1 [some (.ref a), some (.ref tt), some (.int ln), some (.int k), none, none] [] := by
    intro hnz fu
    induction fu with
    | zero => intro S1 k hF hk0 hk1 hm; exact absurd hm (Nat.not_lt_zero _)
    | succ fu ih =>
      intro S1 k hF hk0 hk1 hm
      have haL := hF.R ha (by first | decide | omega)
      have httL := hF.R htt (by first | decide | omega)
      have e3L := hF.O htt (by decide) (by decide) e3
      have hsL := hF.R hsst (by decide)
      have e4L := hF.O htt (by decide) (by decide) e4
      have e5L := hF.O htt (by decide) (by decide) e5
      have e2L := hF.O htt (by decide) (by decide) e2
      have hacL := hF.R hac (by decide)
      have aI := hF.I hac (by decide) (by decide)
      refine pq_lenF hsL (by decide) rfl (fun ln1 ln2 => ?_)
      refine pq_iload_n F dX1_textsOf_37 rfl rfl ?_
      refine pq_iload_n F dX1_textsOf_38 rfl rfl ?_
      refine pq_icmp_ge (tgt := 53) F dX1_textsOf_39 (by decide) (fun c39 => ?_) (fun c39 => ?_)
      · skip
        refine pq_lconst (v := 0) F dX1_textsOf_53 (by decide) ?_
        refine pq_lstore_n F dX1_textsOf_54 rfl (by decide) ?_
        refine pq_iconst (v := 0) F dX1_textsOf_55 (by decide) ?_
        refine pq_istore F dX1_textsOf_56 (by decide) ?_
        exact pq_fgm [true, true, true, true, false, true] (L58 hnz 10 _ 0 0 hF (by focus ((try clear kac); (try clear aI); (try clear htx); (try clear hnz); simp only [vp_in_iff, Int32.lt_iff_toInt_lt, Int32.le_iff_toInt_le, ← Int32.toInt_inj, Int32.toInt_add, Int32.toInt_sub, Int32.toInt_mul, Int32.toInt_neg, pq_NuO, pq_NuI, pq_NuJ, pq_NuR, pq_shr6, pq_shr7, pq_shr8, lqm1, lq0, lq1] at *; (try simp (disch := omega) only [pq_bm] at *); all_goals omega)) (by focus ((try clear kac); (try clear aI); (try clear htx); (try clear hnz); simp only [vp_in_iff, Int32.lt_iff_toInt_lt, Int32.le_iff_toInt_le, ← Int32.toInt_inj, Int32.toInt_add, Int32.toInt_sub, Int32.toInt_mul, Int32.toInt_neg, pq_NuO, pq_NuI, pq_NuJ, pq_NuR, pq_shr6, pq_shr7, pq_shr8, lqm1, lq0, lq1] at *; (try simp (disch := omega) only [pq_bm] at *); all_goals omega)) rfl (by focus ((try clear kac); (try clear aI); (try clear htx); (try clear hnz); simp only [vp_in_iff, Int32.lt_iff_toInt_lt, Int32.le_iff_toInt_le, ← Int32.toInt_inj, Int32.toInt_add, Int32.toInt_sub, Int32.toInt_mul, Int32.toInt_neg, pq_NuO, pq_NuI, pq_NuJ, pq_NuR, pq_shr6, pq_shr7, pq_shr8, lqm1, lq0, lq1] at *; (try simp (disch := omega) only [pq_bm] at *); all_goals omega)))
      · skip
        refine pq_aload_n F dX1_textsOf_42 rfl rfl ?_
        refine pq_aload_n F dX1_textsOf_43 rfl rfl ?_
        refine pq_callV (As := [_]) F (k_X1_lengthenB l D cy _ _ ?_ _ ?_ 0 sst 1 1 e3L hsL e4L ?_ ?_ e5L ?_ ?_ (by show (1 : Int32).toInt * (1 : Int32).toInt ≤ _; rw [lq1]; omega)) ml_X1_34 haL (by decide) rfl (Nat.le_of_ble_eq_true rfl) ⟨Nat.le_of_ble_eq_true rfl, Nat.le_of_ble_eq_true rfl⟩ ⟨by decide, by decide⟩ dX1_textsOf_44 (fun v44 S44 w44 => ?_)
        · exact haL
        · exact httL
        · focus ((try clear kac); (try clear aI); (try clear htx); (try clear hnz); simp only [vp_in_iff, Int32.lt_iff_toInt_lt, Int32.le_iff_toInt_le, ← Int32.toInt_inj, Int32.toInt_add, Int32.toInt_sub, Int32.toInt_mul, Int32.toInt_neg, pq_NuO, pq_NuI, pq_NuJ, pq_NuR, pq_shr6, pq_shr7, pq_shr8, lqm1, lq0, lq1] at *; (try simp (disch := omega) only [pq_bm] at *); all_goals omega)
        · focus ((try clear kac); (try clear aI); (try clear htx); (try clear hnz); simp only [vp_in_iff, Int32.lt_iff_toInt_lt, Int32.le_iff_toInt_le, ← Int32.toInt_inj, Int32.toInt_add, Int32.toInt_sub, Int32.toInt_mul, Int32.toInt_neg, pq_NuO, pq_NuI, pq_NuJ, pq_NuR, pq_shr6, pq_shr7, pq_shr8, lqm1, lq0, lq1] at *; (try simp (disch := omega) only [pq_bm] at *); all_goals omega)
        · focus ((try clear kac); (try clear aI); (try clear htx); (try clear hnz); simp only [vp_in_iff, Int32.lt_iff_toInt_lt, Int32.le_iff_toInt_le, ← Int32.toInt_inj, Int32.toInt_add, Int32.toInt_sub, Int32.toInt_mul, Int32.toInt_neg, pq_NuO, pq_NuI, pq_NuJ, pq_NuR, pq_shr6, pq_shr7, pq_shr8, lqm1, lq0, lq1] at *; (try simp (disch := omega) only [pq_bm] at *); all_goals omega)
        · focus ((try clear kac); (try clear aI); (try clear htx); (try clear hnz); simp only [vp_in_iff, Int32.lt_iff_toInt_lt, Int32.le_iff_toInt_le, ← Int32.toInt_inj, Int32.toInt_add, Int32.toInt_sub, Int32.toInt_mul, Int32.toInt_neg, pq_NuO, pq_NuI, pq_NuJ, pq_NuR, pq_shr6, pq_shr7, pq_shr8, lqm1, lq0, lq1] at *; (try simp (disch := omega) only [pq_bm] at *); all_goals omega)
        obtain ⟨rfl, hF44⟩ := w44
        have haL_44 := (hF44.1 _ _ haL (by decide)).1
        have httL_44 := (hF44.1 _ _ httL (by decide)).1
        have hsL_44 := (hF44.1 _ _ hsL (by decide)).1
        have ec44_3_httL_44 := hF44.O httL (by decide) (by decide) e3L
        have ec44_4_httL_44 := hF44.O httL (by decide) (by decide) e4L
        have ec44_5_httL_44 := hF44.O httL (by decide) (by decide) e5L
        have hacL_44 := (hF44.1 _ _ hacL (by decide)).1
        have ec44_2_httL_44 := hF44.O httL (by decide) (by decide) e2L
        refine pq_iinc (v := 1) F dX1_textsOf_47 rfl (by decide) (by decide) ?_
        refine pq_goto (tgt := 37) F dX1_textsOf_50 (by decide) ?_
        exact pq_fgm [true, true, true, true, false, false] (ih _ _ (hF.cm hF44 (by decide)) (by focus ((try clear kac); (try clear aI); (try clear htx); (try clear hnz); simp only [vp_in_iff, Int32.lt_iff_toInt_lt, Int32.le_iff_toInt_le, ← Int32.toInt_inj, Int32.toInt_add, Int32.toInt_sub, Int32.toInt_mul, Int32.toInt_neg, pq_NuO, pq_NuI, pq_NuJ, pq_NuR, pq_shr6, pq_shr7, pq_shr8, lqm1, lq0, lq1] at *; (try simp (disch := omega) only [pq_bm] at *); all_goals omega)) (by focus ((try clear kac); (try clear aI); (try clear htx); (try clear hnz); simp only [vp_in_iff, Int32.lt_iff_toInt_lt, Int32.le_iff_toInt_le, ← Int32.toInt_inj, Int32.toInt_add, Int32.toInt_sub, Int32.toInt_mul, Int32.toInt_neg, pq_NuO, pq_NuI, pq_NuJ, pq_NuR, pq_shr6, pq_shr7, pq_shr8, lqm1, lq0, lq1] at *; (try simp (disch := omega) only [pq_bm] at *); all_goals omega)) (by focus ((try clear kac); (try clear aI); (try clear htx); (try clear hnz); simp only [vp_in_iff, Int32.lt_iff_toInt_lt, Int32.le_iff_toInt_le, ← Int32.toInt_inj, Int32.toInt_add, Int32.toInt_sub, Int32.toInt_mul, Int32.toInt_neg, pq_NuO, pq_NuI, pq_NuJ, pq_NuR, pq_shr6, pq_shr7, pq_shr8, lqm1, lq0, lq1] at *; (try simp (disch := omega) only [pq_bm] at *); all_goals omega)))
  refine pq_iload_n F dX1_textsOf_0 rfl rfl ?_
  refine pq_if_ne (tgt := 17) F dX1_textsOf_1 (by decide) (fun c1 => ?_) (fun c1 => ?_)
  · skip
    refine pq_aload_n F dX1_textsOf_17 rfl rfl ?_
    refine pq_getR F ha (by decide) lk_X1_9 rfl dX1_textsOf_18 (fun r18 e18 h18 => ?_)
    refine pq_lconst (v := 0) F dX1_textsOf_21 (by decide) ?_
    refine pq_lenF h18 (by decide) rfl (fun lna22_0 lnb22_0 => ?_)
    refine pq_callS (As := [_, _]) F (k_J7_fill_d0a16 l D cy _ _ 189 ?_ ?_ ?_ _ ?_) ml_X1_24 (Nat.le_of_ble_eq_true rfl) ⟨Nat.le_of_ble_eq_true rfl, Nat.le_of_ble_eq_true rfl⟩ ⟨by decide, by decide⟩ dX1_textsOf_22 (fun v22 S22 w22 => ?_)
    · exact h18
    · first | decide | omega
    · first | decide | omega
    · focus ((try clear kac); (try clear aI); (try clear htx); (try clear hnz); simp only [vp_in_iff, Int32.lt_iff_toInt_lt, Int32.le_iff_toInt_le, ← Int32.toInt_inj, Int32.toInt_add, Int32.toInt_sub, Int32.toInt_mul, Int32.toInt_neg, pq_NuO, pq_NuI, pq_NuJ, pq_NuR, pq_shr6, pq_shr7, pq_shr8, lqm1, lq0, lq1] at *; (try simp (disch := omega) only [pq_bm] at *); all_goals omega)
    obtain ⟨rfl, f22, rfl, g22⟩ := w22
    refine pq_aload_n F dX1_textsOf_25 rfl rfl ?_
    refine pq_get F ha (by decide) lk_X1_9 e18 dX1_textsOf_26 ?_
    refine pq_aload_n F dX1_textsOf_29 rfl rfl ?_
    refine pq_get F htt (by decide) lk_X1_30 e6 dX1_textsOf_30 ?_
    refine pq_lconst (v := 1) F dX1_textsOf_33 (by decide) ?_
    refine pq_last F h18 (by decide) (by decide) rfl (fun n1_34 n2_34 => (by focus ((try clear kac); (try clear aI); (try clear htx); (try clear hnz); simp only [vp_in_iff, Int32.lt_iff_toInt_lt, Int32.le_iff_toInt_le, ← Int32.toInt_inj, Int32.toInt_add, Int32.toInt_sub, Int32.toInt_mul, Int32.toInt_neg, pq_NuO, pq_NuI, pq_NuJ, pq_NuR, pq_shr6, pq_shr7, pq_shr8, lqm1, lq0, lq1] at *; (try simp (disch := omega) only [pq_bm] at *); all_goals omega))) dX1_textsOf_34 ?_
    refine pq_iconst (v := 0) F dX1_textsOf_35 (by decide) ?_
    refine pq_istore_n F dX1_textsOf_36 rfl (by decide) ?_
    exact pq_fgm [true, true, true, true, false, false] (L37 c1 100 _ 0 ((pq_Fr.rf.uJ h18 (by first | decide | exact List.mem_cons_self)).uJ h18 (by first | decide | exact List.mem_cons_self)) (by focus ((try clear kac); (try clear aI); (try clear htx); (try clear hnz); simp only [vp_in_iff, Int32.lt_iff_toInt_lt, Int32.le_iff_toInt_le, ← Int32.toInt_inj, Int32.toInt_add, Int32.toInt_sub, Int32.toInt_mul, Int32.toInt_neg, pq_NuO, pq_NuI, pq_NuJ, pq_NuR, pq_shr6, pq_shr7, pq_shr8, lqm1, lq0, lq1] at *; (try simp (disch := omega) only [pq_bm] at *); all_goals omega)) (by focus ((try clear kac); (try clear aI); (try clear htx); (try clear hnz); simp only [vp_in_iff, Int32.lt_iff_toInt_lt, Int32.le_iff_toInt_le, ← Int32.toInt_inj, Int32.toInt_add, Int32.toInt_sub, Int32.toInt_mul, Int32.toInt_neg, pq_NuO, pq_NuI, pq_NuJ, pq_NuR, pq_shr6, pq_shr7, pq_shr8, lqm1, lq0, lq1] at *; (try simp (disch := omega) only [pq_bm] at *); all_goals omega)) (by focus ((try clear kac); (try clear aI); (try clear htx); (try clear hnz); simp only [vp_in_iff, Int32.lt_iff_toInt_lt, Int32.le_iff_toInt_le, ← Int32.toInt_inj, Int32.toInt_add, Int32.toInt_sub, Int32.toInt_mul, Int32.toInt_neg, pq_NuO, pq_NuI, pq_NuJ, pq_NuR, pq_shr6, pq_shr7, pq_shr8, lqm1, lq0, lq1] at *; (try simp (disch := omega) only [pq_bm] at *); all_goals omega)))
  · skip
    refine pq_aload_n F dX1_textsOf_4 rfl rfl ?_
    refine pq_get F htt (by decide) lk_X1_18 e7 dX1_textsOf_5 ?_
    refine pq_if_eq (tgt := 15) F dX1_textsOf_8 (by decide) (fun c8 => ?_) (fun c8 => ?_)
    · exact absurd c8 (by decide)
    · skip
      refine pq_lconst (v := 1) F dX1_textsOf_11 (by decide) ?_
      refine pq_goto (tgt := 16) F dX1_textsOf_12 (by decide) ?_
      exact pq_lret F hr hlk hA (Nat.le_refl _) (Nat.le_refl _) (⟨pq_Fr.rf, _, rfl, (by rw [if_pos (show ln.toInt = 0 from by rw [c1]; rfl)])⟩) dX1_textsOf_16

set_option maxHeartbeats 4000000 in
set_option maxRecDepth 100000 in
theorem k_X10_countY (l : Launch) (D : va_G) (cy : Nat → ClassId) (hl0 : l.stackTraces = false) (S : HS) (a : Nat) (ha : pq_R S a 13) (pw : Int32) (pn : Int32) (hY : pf_Y S a) : pq_CX l D cy yX10_count cX10_count 3 (some .long) 6 1 6 S [.ref a, .int pw, .int pn] (fun v S2 => pq_Fr [(189, 0), (4, 0), (4, 1)] S S2 ∧ ∃ x : Int64, v = some (.long x) ∧ (((pw = 0 ∨ pw = 1) ∧ (0 ≤ pn.toInt ∧ pn.toInt ≤ 12)) ∧ x = (if pn.toInt = 0 then 1 else 0))) (fun E S2 => E = "java/lang/IllegalArgumentException" ∧ ¬ ((pw = 0 ∨ pw = 1) ∧ (0 ≤ pn.toInt ∧ pn.toInt ≤ 12)) ∧ pq_Fr [(189, 0), (4, 0), (4, 1)] S S2) := by
  refine pq_startX (by decide) (Nat.le_of_ble_eq_true rfl) ?_
  intro p e s m args below meth c A F hr hlk hnm hA ht
  have lqm1 : (-1 : Int32).toInt = -1 := rfl
  have lq0 : (0 : Int32).toInt = 0 := rfl
  have lq1 : (1 : Int32).toInt = 1 := rfl
  have lq12 : (12 : Int32).toInt = 12 := rfl
  obtain ⟨tp, pl, rd, wk, mg, pt, ct, sr, A9, B9, hIf, ft1, fx8, hAA, hBB, hIs, fs7⟩ := hY
  have hIf2 := hIf
  obtain ⟨⟨fa0, fa1, fa2, fa3, fa4, fa5, fa6, fa7⟩, ⟨fb0, fb1, fb2, fb3, fb4, fb5, fb6, fb7, fb8⟩, ⟨fc0, fc1, fc2, fc3⟩, ⟨fd0, fd1, fd2, fd3⟩⟩ := hIf2
  obtain ⟨koA, stA, acA, ⟨⟨xa0, ka0⟩, ⟨xa3, ka3⟩, xa2, ka2⟩, ⟨xa4, xa5, xa6, xa7⟩, xak, xas, xac⟩ := hAA
  obtain ⟨koB, stB, acB, ⟨⟨xb0, kb0⟩, ⟨xb3, kb3⟩, xb2, kb2⟩, ⟨xb4, xb5, xb6, xb7⟩, xbk, xbs, xbc⟩ := hBB
  refine pq_iload_n F dX10_count_0 rfl rfl ?_
  refine pq_callS (As := [_]) F (k_X10_isPattern l D cy _ _) ml_X10_94 (Nat.le_of_ble_eq_true rfl) ⟨Nat.le_of_ble_eq_true rfl, Nat.le_of_ble_eq_true rfl⟩ ⟨by decide, by decide⟩ dX10_count_1 (fun v1 S1 w1 => ?_)
  obtain ⟨u1, y1, rfl, yl1_0, yl1_1, p1⟩ := w1
  rw [u1]
  try rw [u1] at p1
  refine pq_if_ne (tgt := 17) F dX10_count_4 (by decide) (fun c4 => ?_) (fun c4 => ?_)
  · skip
    refine pq_iload_n F dX10_count_17 rfl rfl ?_
    refine pq_if_lt (tgt := 27) F dX10_count_18 (by decide) (fun c18 => ?_) (fun c18 => ?_)
    · skip
      exact pq_thr F ht hlk hA hl0 (is := 158) (text := "texts of this length are not counted") (cls := "java/lang/IllegalArgumentException") (by decide) xw_93 ⟨Nat.le_of_ble_eq_true rfl, Nat.le_of_ble_eq_true rfl⟩ (Nat.le_of_ble_eq_true rfl) (Nat.le_of_ble_eq_true rfl) (Nat.le_of_ble_eq_true rfl) (Nat.le_of_ble_eq_true rfl) (⟨rfl, (fun z => by have z2 := z.2; clear z; focus ((try clear hIf); (try clear hIs); (try clear xak); (try clear xas); (try clear xac); (try clear xbk); (try clear xbs); (try clear xbc); (try clear p1); (try clear p48); simp only [vp_in_iff, Int32.lt_iff_toInt_lt, Int32.le_iff_toInt_le, ← Int32.toInt_inj, Int32.toInt_add, Int32.toInt_sub, Int32.toInt_mul, Int32.toInt_neg, pq_NuO, pq_NuI, pq_NuJ, pq_NuR, pq_shr6, pq_shr7, pq_shr8, lqm1, lq0, lq1, lq12] at *; (try simp (disch := omega) only [pq_bm] at *); all_goals omega)), pq_Fr.rf⟩) dX10_count_27 dX10_count_30 dX10_count_31 dX10_count_33 dX10_count_36
    · skip
      refine pq_iload_n F dX10_count_21 rfl rfl ?_
      refine pq_bipush (v := 12) F dX10_count_22 (by decide) ?_
      refine pq_icmp_le (tgt := 37) F dX10_count_24 (by decide) (fun c24 => ?_) (fun c24 => ?_)
      · skip
        have hwc : pw = 0 ∨ pw = 1 := p1.1 (Int32.toInt_inj.mp (by focus ((try clear hIf); (try clear hIs); (try clear xak); (try clear xas); (try clear xac); (try clear xbk); (try clear xbs); (try clear xbc); (try clear p1); (try clear p48); simp only [vp_in_iff, Int32.lt_iff_toInt_lt, Int32.le_iff_toInt_le, ← Int32.toInt_inj, Int32.toInt_add, Int32.toInt_sub, Int32.toInt_mul, Int32.toInt_neg, pq_NuO, pq_NuI, pq_NuJ, pq_NuR, pq_shr6, pq_shr7, pq_shr8, lqm1, lq0, lq1, lq12] at *; (try simp (disch := omega) only [pq_bm] at *); all_goals omega)))
        have hwd := hwc
        refine pq_aload_n F dX10_count_37 rfl rfl ?_
        rcases hwc with hw9 | hw9
        · skip
          refine pq_get F ha (by decide) lk_X10_60 fa6 dX10_count_38 ?_
          refine pq_aload_n F dX10_count_41 rfl rfl ?_
          refine pq_get F ha (by decide) lk_X10_53 fa5 dX10_count_42 ?_
          refine pq_iload_n F dX10_count_45 rfl rfl ?_
          refine pq_aald F fb6 (by decide) (fun n1_46 n2_46 => (by change _ ≤ _ at n1_46; change _ ≤ 2 at n2_46; change 2 ≤ _ at n1_46; focus ((try clear hIf); (try clear hIs); (try clear xak); (try clear xas); (try clear xac); (try clear xbk); (try clear xbs); (try clear xbc); (try clear p1); (try clear p48); simp only [vp_in_iff, Int32.lt_iff_toInt_lt, Int32.le_iff_toInt_le, ← Int32.toInt_inj, Int32.toInt_add, Int32.toInt_sub, Int32.toInt_mul, Int32.toInt_neg, pq_NuO, pq_NuI, pq_NuJ, pq_NuR, pq_shr6, pq_shr7, pq_shr8, lqm1, lq0, lq1, lq12] at *; (try simp (disch := omega) only [pq_bm] at *); all_goals omega))) dX10_count_46 (fun o46 e46 k46 => ?_)
          have e46b : o46 = some A9 := e46.trans (by rw [hw9]; exact fd0)
          subst e46b
          refine pq_iload_n F dX10_count_47 rfl rfl ?_
          refine pq_callV (As := [_, _]) F (k_X1_textsOfYA l D cy _ _ ?_ _ ?_ _ ?_ ?_ stA acA xa3 ka3 xa2 ka2 xa4 xa5 xa6 xa7 xac) ml_X10_160 fb7 (by decide) rfl (Nat.le_of_ble_eq_true rfl) ⟨Nat.le_of_ble_eq_true rfl, Nat.le_of_ble_eq_true rfl⟩ ⟨by decide, by decide⟩ dX10_count_48 (fun v48 S48 w48 => ?_)
          · exact fb7
          · exact fd2
          · focus ((try clear hIf); (try clear hIs); (try clear xak); (try clear xas); (try clear xac); (try clear xbk); (try clear xbs); (try clear xbc); (try clear p1); (try clear p48); simp only [vp_in_iff, Int32.lt_iff_toInt_lt, Int32.le_iff_toInt_le, ← Int32.toInt_inj, Int32.toInt_add, Int32.toInt_sub, Int32.toInt_mul, Int32.toInt_neg, pq_NuO, pq_NuI, pq_NuJ, pq_NuR, pq_shr6, pq_shr7, pq_shr8, lqm1, lq0, lq1, lq12] at *; (try simp (disch := omega) only [pq_bm] at *); all_goals omega)
          · focus ((try clear hIf); (try clear hIs); (try clear xak); (try clear xas); (try clear xac); (try clear xbk); (try clear xbs); (try clear xbc); (try clear p1); (try clear p48); simp only [vp_in_iff, Int32.lt_iff_toInt_lt, Int32.le_iff_toInt_le, ← Int32.toInt_inj, Int32.toInt_add, Int32.toInt_sub, Int32.toInt_mul, Int32.toInt_neg, pq_NuO, pq_NuI, pq_NuJ, pq_NuR, pq_shr6, pq_shr7, pq_shr8, lqm1, lq0, lq1, lq12] at *; (try simp (disch := omega) only [pq_bm] at *); all_goals omega)
          obtain ⟨hF48, y48, rfl, p48⟩ := w48
          have ha_48 := (hF48.1 _ _ ha (by decide)).1
          have fb1_48 := (hF48.1 _ _ fb1 (by decide)).1
          have ec48_0_ha_48 := hF48.O ha (by decide) (by decide) fa0
          have fb2_48 := (hF48.1 _ _ fb2 (by decide)).1
          have ec48_1_ha_48 := hF48.O ha (by decide) (by decide) fa1
          have fb3_48 := (hF48.1 _ _ fb3 (by decide)).1
          have ec48_2_ha_48 := hF48.O ha (by decide) (by decide) fa2
          have fb4_48 := (hF48.1 _ _ fb4 (by decide)).1
          have ec48_3_ha_48 := hF48.O ha (by decide) (by decide) fa3
          have fb5_48 := (hF48.1 _ _ fb5 (by decide)).1
          have ec48_4_ha_48 := hF48.O ha (by decide) (by decide) fa4
          have fb6_48 := (hF48.1 _ _ fb6 (by decide)).1
          have ec48_5_ha_48 := hF48.O ha (by decide) (by decide) fa5
          have fb7_48 := (hF48.1 _ _ fb7 (by decide)).1
          have ec48_6_ha_48 := hF48.O ha (by decide) (by decide) fa6
          have fb8_48 := (hF48.1 _ _ fb8 (by decide)).1
          have ec48_7_ha_48 := hF48.O ha (by decide) (by decide) fa7
          have ec48_1_fb1_48 := hF48.O fb1 (by decide) (by decide) ft1
          have ec48_7_fb8_48 := hF48.O fb8 (by decide) (by decide) fs7
          have ec48_8_ha_48 := hF48.O ha (by decide) (by decide) fx8
          have ka0_48 := (hF48.1 _ _ ka0 (by decide)).1
          have fd2_48 := (hF48.1 _ _ fd2 (by decide)).1
          have ec48_0_fd2_48 := hF48.O fd2 (by decide) (by decide) xa0
          have ka3_48 := (hF48.1 _ _ ka3 (by decide)).1
          have ec48_3_fd2_48 := hF48.O fd2 (by decide) (by decide) xa3
          have ka2_48 := (hF48.1 _ _ ka2 (by decide)).1
          have ec48_2_fd2_48 := hF48.O fd2 (by decide) (by decide) xa2
          have ec48_4_fd2_48 := hF48.O fd2 (by decide) (by decide) xa4
          have ec48_5_fd2_48 := hF48.O fd2 (by decide) (by decide) xa5
          have ec48_6_fd2_48 := hF48.O fd2 (by decide) (by decide) xa6
          have ec48_7_fd2_48 := hF48.O fd2 (by decide) (by decide) xa7
          exact pq_lift (pq_lret F hr hlk hA (Nat.zero_le _) (Nat.zero_le _) (⟨(pq_Fr.rf.cm hF48 (by decide)), _, rfl, ⟨hwd, (by focus ((try clear hIf); (try clear hIs); (try clear xak); (try clear xas); (try clear xac); (try clear xbk); (try clear xbs); (try clear xbc); (try clear p1); (try clear p48); simp only [vp_in_iff, Int32.lt_iff_toInt_lt, Int32.le_iff_toInt_le, ← Int32.toInt_inj, Int32.toInt_add, Int32.toInt_sub, Int32.toInt_mul, Int32.toInt_neg, pq_NuO, pq_NuI, pq_NuJ, pq_NuR, pq_shr6, pq_shr7, pq_shr8, lqm1, lq0, lq1, lq12] at *; (try simp (disch := omega) only [pq_bm] at *); all_goals omega)), (by focus ((try clear hIf); (try clear hIs); (try clear xak); (try clear xas); (try clear xac); (try clear xbk); (try clear xbs); (try clear xbc); (try clear p1); (try clear p48); simp only [vp_in_iff, Int32.lt_iff_toInt_lt, Int32.le_iff_toInt_le, ← Int32.toInt_inj, Int32.toInt_add, Int32.toInt_sub, Int32.toInt_mul, Int32.toInt_neg, pq_NuO, pq_NuI, pq_NuJ, pq_NuR, pq_shr6, pq_shr7, pq_shr8, lqm1, lq0, lq1, lq12] at *; (try simp (disch := omega) only [pq_bm] at *); all_goals omega))⟩, p48⟩) dX10_count_51)
        · skip
          refine pq_get F ha (by decide) lk_X10_60 fa6 dX10_count_38 ?_
          refine pq_aload_n F dX10_count_41 rfl rfl ?_
          refine pq_get F ha (by decide) lk_X10_53 fa5 dX10_count_42 ?_
          refine pq_iload_n F dX10_count_45 rfl rfl ?_
          refine pq_aald F fb6 (by decide) (fun n1_46 n2_46 => (by change _ ≤ _ at n1_46; change _ ≤ 2 at n2_46; change 2 ≤ _ at n1_46; focus ((try clear hIf); (try clear hIs); (try clear xak); (try clear xas); (try clear xac); (try clear xbk); (try clear xbs); (try clear xbc); (try clear p1); (try clear p48); simp only [vp_in_iff, Int32.lt_iff_toInt_lt, Int32.le_iff_toInt_le, ← Int32.toInt_inj, Int32.toInt_add, Int32.toInt_sub, Int32.toInt_mul, Int32.toInt_neg, pq_NuO, pq_NuI, pq_NuJ, pq_NuR, pq_shr6, pq_shr7, pq_shr8, lqm1, lq0, lq1, lq12] at *; (try simp (disch := omega) only [pq_bm] at *); all_goals omega))) dX10_count_46 (fun o46 e46 k46 => ?_)
          have e46b : o46 = some B9 := e46.trans (by rw [hw9]; exact fd1)
          subst e46b
          refine pq_iload_n F dX10_count_47 rfl rfl ?_
          refine pq_callV (As := [_, _]) F (k_X1_textsOfYB l D cy _ _ ?_ _ ?_ _ ?_ ?_ stB acB xb3 kb3 xb2 kb2 xb4 xb5 xb6 xb7 xbc) ml_X10_160 fb7 (by decide) rfl (Nat.le_of_ble_eq_true rfl) ⟨Nat.le_of_ble_eq_true rfl, Nat.le_of_ble_eq_true rfl⟩ ⟨by decide, by decide⟩ dX10_count_48 (fun v48 S48 w48 => ?_)
          · exact fb7
          · exact fd3
          · focus ((try clear hIf); (try clear hIs); (try clear xak); (try clear xas); (try clear xac); (try clear xbk); (try clear xbs); (try clear xbc); (try clear p1); (try clear p48); simp only [vp_in_iff, Int32.lt_iff_toInt_lt, Int32.le_iff_toInt_le, ← Int32.toInt_inj, Int32.toInt_add, Int32.toInt_sub, Int32.toInt_mul, Int32.toInt_neg, pq_NuO, pq_NuI, pq_NuJ, pq_NuR, pq_shr6, pq_shr7, pq_shr8, lqm1, lq0, lq1, lq12] at *; (try simp (disch := omega) only [pq_bm] at *); all_goals omega)
          · focus ((try clear hIf); (try clear hIs); (try clear xak); (try clear xas); (try clear xac); (try clear xbk); (try clear xbs); (try clear xbc); (try clear p1); (try clear p48); simp only [vp_in_iff, Int32.lt_iff_toInt_lt, Int32.le_iff_toInt_le, ← Int32.toInt_inj, Int32.toInt_add, Int32.toInt_sub, Int32.toInt_mul, Int32.toInt_neg, pq_NuO, pq_NuI, pq_NuJ, pq_NuR, pq_shr6, pq_shr7, pq_shr8, lqm1, lq0, lq1, lq12] at *; (try simp (disch := omega) only [pq_bm] at *); all_goals omega)
          obtain ⟨hF48, y48, rfl, p48⟩ := w48
          have ha_48 := (hF48.1 _ _ ha (by decide)).1
          have fb1_48 := (hF48.1 _ _ fb1 (by decide)).1
          have ec48_0_ha_48 := hF48.O ha (by decide) (by decide) fa0
          have fb2_48 := (hF48.1 _ _ fb2 (by decide)).1
          have ec48_1_ha_48 := hF48.O ha (by decide) (by decide) fa1
          have fb3_48 := (hF48.1 _ _ fb3 (by decide)).1
          have ec48_2_ha_48 := hF48.O ha (by decide) (by decide) fa2
          have fb4_48 := (hF48.1 _ _ fb4 (by decide)).1
          have ec48_3_ha_48 := hF48.O ha (by decide) (by decide) fa3
          have fb5_48 := (hF48.1 _ _ fb5 (by decide)).1
          have ec48_4_ha_48 := hF48.O ha (by decide) (by decide) fa4
          have fb6_48 := (hF48.1 _ _ fb6 (by decide)).1
          have ec48_5_ha_48 := hF48.O ha (by decide) (by decide) fa5
          have fb7_48 := (hF48.1 _ _ fb7 (by decide)).1
          have ec48_6_ha_48 := hF48.O ha (by decide) (by decide) fa6
          have fb8_48 := (hF48.1 _ _ fb8 (by decide)).1
          have ec48_7_ha_48 := hF48.O ha (by decide) (by decide) fa7
          have ec48_1_fb1_48 := hF48.O fb1 (by decide) (by decide) ft1
          have ec48_7_fb8_48 := hF48.O fb8 (by decide) (by decide) fs7
          have ec48_8_ha_48 := hF48.O ha (by decide) (by decide) fx8
          have ka0_48 := (hF48.1 _ _ ka0 (by decide)).1
          have fd2_48 := (hF48.1 _ _ fd2 (by decide)).1
          have ec48_0_fd2_48 := hF48.O fd2 (by decide) (by decide) xa0
          have ka3_48 := (hF48.1 _ _ ka3 (by decide)).1
          have ec48_3_fd2_48 := hF48.O fd2 (by decide) (by decide) xa3
          have ka2_48 := (hF48.1 _ _ ka2 (by decide)).1
          have ec48_2_fd2_48 := hF48.O fd2 (by decide) (by decide) xa2
          have ec48_4_fd2_48 := hF48.O fd2 (by decide) (by decide) xa4
          have ec48_5_fd2_48 := hF48.O fd2 (by decide) (by decide) xa5
          have ec48_6_fd2_48 := hF48.O fd2 (by decide) (by decide) xa6
          have ec48_7_fd2_48 := hF48.O fd2 (by decide) (by decide) xa7
          have kb0_48 := (hF48.1 _ _ kb0 (by decide)).1
          have fd3_48 := (hF48.1 _ _ fd3 (by decide)).1
          have ec48_0_fd3_48 := hF48.O fd3 (by decide) (by decide) xb0
          have kb3_48 := (hF48.1 _ _ kb3 (by decide)).1
          have ec48_3_fd3_48 := hF48.O fd3 (by decide) (by decide) xb3
          have kb2_48 := (hF48.1 _ _ kb2 (by decide)).1
          have ec48_2_fd3_48 := hF48.O fd3 (by decide) (by decide) xb2
          have ec48_4_fd3_48 := hF48.O fd3 (by decide) (by decide) xb4
          have ec48_5_fd3_48 := hF48.O fd3 (by decide) (by decide) xb5
          have ec48_6_fd3_48 := hF48.O fd3 (by decide) (by decide) xb6
          have ec48_7_fd3_48 := hF48.O fd3 (by decide) (by decide) xb7
          exact pq_lift (pq_lret F hr hlk hA (Nat.zero_le _) (Nat.zero_le _) (⟨(pq_Fr.rf.cm hF48 (by decide)), _, rfl, ⟨hwd, (by focus ((try clear hIf); (try clear hIs); (try clear xak); (try clear xas); (try clear xac); (try clear xbk); (try clear xbs); (try clear xbc); (try clear p1); (try clear p48); simp only [vp_in_iff, Int32.lt_iff_toInt_lt, Int32.le_iff_toInt_le, ← Int32.toInt_inj, Int32.toInt_add, Int32.toInt_sub, Int32.toInt_mul, Int32.toInt_neg, pq_NuO, pq_NuI, pq_NuJ, pq_NuR, pq_shr6, pq_shr7, pq_shr8, lqm1, lq0, lq1, lq12] at *; (try simp (disch := omega) only [pq_bm] at *); all_goals omega)), (by focus ((try clear hIf); (try clear hIs); (try clear xak); (try clear xas); (try clear xac); (try clear xbk); (try clear xbs); (try clear xbc); (try clear p1); (try clear p48); simp only [vp_in_iff, Int32.lt_iff_toInt_lt, Int32.le_iff_toInt_le, ← Int32.toInt_inj, Int32.toInt_add, Int32.toInt_sub, Int32.toInt_mul, Int32.toInt_neg, pq_NuO, pq_NuI, pq_NuJ, pq_NuR, pq_shr6, pq_shr7, pq_shr8, lqm1, lq0, lq1, lq12] at *; (try simp (disch := omega) only [pq_bm] at *); all_goals omega))⟩, p48⟩) dX10_count_51)
      · skip
        exact pq_thr F ht hlk hA hl0 (is := 158) (text := "texts of this length are not counted") (cls := "java/lang/IllegalArgumentException") (by decide) xw_93 ⟨Nat.le_of_ble_eq_true rfl, Nat.le_of_ble_eq_true rfl⟩ (Nat.le_of_ble_eq_true rfl) (Nat.le_of_ble_eq_true rfl) (Nat.le_of_ble_eq_true rfl) (Nat.le_of_ble_eq_true rfl) (⟨rfl, (fun z => by have z2 := z.2; clear z; focus ((try clear hIf); (try clear hIs); (try clear xak); (try clear xas); (try clear xac); (try clear xbk); (try clear xbs); (try clear xbc); (try clear p1); (try clear p48); simp only [vp_in_iff, Int32.lt_iff_toInt_lt, Int32.le_iff_toInt_le, ← Int32.toInt_inj, Int32.toInt_add, Int32.toInt_sub, Int32.toInt_mul, Int32.toInt_neg, pq_NuO, pq_NuI, pq_NuJ, pq_NuR, pq_shr6, pq_shr7, pq_shr8, lqm1, lq0, lq1, lq12] at *; (try simp (disch := omega) only [pq_bm] at *); all_goals omega)), pq_Fr.rf⟩) dX10_count_27 dX10_count_30 dX10_count_31 dX10_count_33 dX10_count_36
  · skip
    exact pq_thr F ht hlk hA hl0 (is := 102) (text := "there is no such pattern") (cls := "java/lang/IllegalArgumentException") (by decide) xw_93 ⟨Nat.le_of_ble_eq_true rfl, Nat.le_of_ble_eq_true rfl⟩ (Nat.le_of_ble_eq_true rfl) (Nat.le_of_ble_eq_true rfl) (Nat.le_of_ble_eq_true rfl) (Nat.le_of_ble_eq_true rfl) (⟨rfl, (fun z => absurd (c4.symm.trans (p1.2 z.1)) (by decide)), pq_Fr.rf⟩) dX10_count_7 dX10_count_10 dX10_count_11 dX10_count_13 dX10_count_16

