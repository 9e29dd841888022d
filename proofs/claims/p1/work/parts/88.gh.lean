theorem pq_cw39 : Cond.castable "java/util/NoSuchElementException" "java/util/NoSuchElementException" ∈ ntb := (pq_nt5 (i := 174) rfl rfl)
theorem pf_au.ia {S : HS} {A rk rs ra : Nat} (h : pf_au S A rk rs ra) (hl : ∀ st, hO S A 3 = .ref st → 1 ≤ hN S st) : pq_Iau S A rk rs := by
  obtain ⟨ko, st, ac, ⟨⟨a1, a2⟩, ⟨a3, a4⟩, a5, a6⟩, ⟨b1, b2, b3, b4⟩, c1, c2, c3⟩ := h
  have e1 : (1 : Int32).toInt = 1 := rfl
  refine ⟨ko, st, 1, 1, 0, (fun x => x = 0), ⟨a1, a2, a3, a4⟩, ⟨b1, b2, b3⟩, by decide, ?_, fun i hi => ?_, (by rintro x rfl; decide), rfl, fun x hx i h1 h2 => ?_⟩
  · have := hl st a3
    rw [e1]; omega
  · rw [c1 i (by omega)]; decide
  · have hx' : x = 0 := hx
    subst hx'
    rw [e1] at h1 h2
    have e0 : (0 : Int32).toInt = 0 := rfl
    rw [e0] at h1 h2
    have : i = 0 := by omega
    subst this
    exact c2
theorem pf_Y.ix {S : HS} {x : Nat} (h : pf_Y S x) (hl : ∀ b r, pq_R S b r → r = 152 ∨ r = 155 → 1 ≤ hN S b) : pq_Ix S x 0 0 0 := by
  obtain ⟨tp, pl, rd, wk, mg, pt, ct, sr, A, B, h1, h2, h3, h4, h5, h6, h7⟩ := h
  refine ⟨tp, pl, rd, wk, mg, pt, ct, sr, A, B, h1, h2, by decide, h4.ia (fun st e => ?_), h5.ia (fun st e => ?_), h6⟩
  · obtain ⟨ko, st', ac, ⟨-, ⟨a3, a4⟩, -⟩, -⟩ := h4
    rw [a3] at e; cases e
    exact hl _ _ a4 (Or.inl rfl)
  · obtain ⟨ko, st', ac, ⟨-, ⟨a3, a4⟩, -⟩, -⟩ := h5
    rw [a3] at e; cases e
    exact hl _ _ a4 (Or.inr rfl)
set_option maxHeartbeats 4000000 in
set_option maxRecDepth 100000 in
theorem k_L_emptyY (l : Launch) (D : va_G) (cy : Nat → ClassId) (hl0 : l.stackTraces = false) (S : HS) (a : Nat) (ha : pq_R S a 13) (pw : Int32) (ou : Nat) (hou : pq_R S ou 186) (hY : pf_Y S a) (hol : hN S ou = 1) : pq_CH l D cy yL_empty cL_empty 4 (some .int) [(0, 16, 19, 19)] 7 1 6 S [.ref a, .int pw, .ref ou] (fun v S2 => pq_Fr [(186, 0)] S S2 ∧ ∃ x : Int32, v = some (.int x) ∧ 0 ≤ x.toInt ∧ x.toInt ≤ 1 ∧ ((x = 0 ∧ (pw = 0 ∨ pw = 1) ∧ hJ S2 ou 0 = 1) ∨ (x = 1 ∧ ¬ (pw = 0 ∨ pw = 1)))) pq_Dn := by
  refine pq_startH (by decide) (Nat.le_of_ble_eq_true rfl) ?_
  intro p e s m args below meth c A F hr hlk hA htb hEx
  have lqm1 : (-1 : Int32).toInt = -1 := rfl
  have lq0 : (0 : Int32).toInt = 0 := rfl
  have lq1 : (1 : Int32).toInt = 1 := rfl
  refine pq_aload_n F dL_empty_0 rfl rfl ?_
  refine pq_iconst (v := 0) F dL_empty_1 (by decide) ?_
  refine pq_aload_n F dL_empty_2 rfl rfl ?_
  refine pq_iload_n F dL_empty_3 rfl rfl ?_
  refine pq_callVX (As := [_]) F hEx (k_X10_emptyY l D cy hl0 _ _ ?_ _ hY) ml_L_26 (pq_gt5 (i := 107) rfl rfl) ha (by decide) rfl (Nat.le_of_ble_eq_true rfl) ⟨Nat.le_of_ble_eq_true rfl, Nat.le_of_ble_eq_true rfl⟩ ⟨Nat.le_of_ble_eq_true rfl, Nat.le_of_ble_eq_true rfl⟩ dL_empty_4 (fun E4 T4 q4 xw4 => ?_) (fun v4 S4 w4 => ?_)
  · exact ha
  · skip
    obtain ⟨rfl, hx1, hFx⟩ := xw4
    refine ⟨19, (pq_Hd1 (st := 0) (en := 16) (ct := 19) htb (by decide) (by decide) (F.2.2.2.2.1 _ cl_L_19) (pq_wN' F.2.2.2.2.2.2.2.1 pq_cw19)), ?_⟩
    refine pq_astore_n F dL_empty_19 rfl (by decide) ?_
    refine pq_iconst (v := 1) F dL_empty_20 (by decide) ?_
    exact pq_lift (pq_iret F hr hlk hA (Nat.le_of_ble_eq_true rfl) (Nat.le_of_ble_eq_true rfl) (⟨(hFx.mono (by decide)), 1, rfl, (by focus ((try clear hY); (try clear p4); simp only [vp_in_iff, Int32.lt_iff_toInt_lt, Int32.le_iff_toInt_le, ← Int32.toInt_inj, Int32.toInt_add, Int32.toInt_sub, Int32.toInt_mul, Int32.toInt_neg, pq_NuO, pq_NuI, pq_NuJ, pq_NuR, pq_shr6, pq_shr7, pq_shr8, lqm1, lq0, lq1] at *; (try simp (disch := omega) only [pq_bm] at *); all_goals omega)), (by focus ((try clear hY); (try clear p4); simp only [vp_in_iff, Int32.lt_iff_toInt_lt, Int32.le_iff_toInt_le, ← Int32.toInt_inj, Int32.toInt_add, Int32.toInt_sub, Int32.toInt_mul, Int32.toInt_neg, pq_NuO, pq_NuI, pq_NuJ, pq_NuR, pq_shr6, pq_shr7, pq_shr8, lqm1, lq0, lq1] at *; (try simp (disch := omega) only [pq_bm] at *); all_goals omega)), Or.inr ⟨rfl, hx1⟩⟩) dL_empty_21)
  obtain ⟨hF4, y4, rfl, yl4_0, yl4_1, p4⟩ := w4
  have ha_4 := (hF4.1 _ _ ha (by decide)).1
  have hou_4 := (hF4.1 _ _ hou (by decide)).1
  have hol2 : hN S4 ou = 1 := ((hF4.1 ou 186 hou (by decide)).2).trans hol
  refine pq_if_eq (tgt := 14) F dL_empty_7 (by decide) (fun c7 => ?_) (fun c7 => ?_)
  · exact absurd (c7.symm.trans p4.2) (by decide)
  · skip
    refine pq_lconst (v := 1) F dL_empty_10 (by decide) ?_
    refine pq_goto (tgt := 15) F dL_empty_11 (by decide) ?_
    refine pq_last F hou_4 (by decide) (by decide) rfl (fun n1_15 n2_15 => (by focus ((try clear hY); (try clear p4); simp only [vp_in_iff, Int32.lt_iff_toInt_lt, Int32.le_iff_toInt_le, ← Int32.toInt_inj, Int32.toInt_add, Int32.toInt_sub, Int32.toInt_mul, Int32.toInt_neg, pq_NuO, pq_NuI, pq_NuJ, pq_NuR, pq_shr6, pq_shr7, pq_shr8, lqm1, lq0, lq1] at *; (try simp (disch := omega) only [pq_bm] at *); all_goals omega))) dL_empty_15 ?_
    refine pq_goto (tgt := 22) F dL_empty_16 (by decide) ?_
    refine pq_iconst (v := 0) F dL_empty_22 (by decide) ?_
    exact pq_lift (pq_iret F hr hlk hA (Nat.le_of_ble_eq_true rfl) (Nat.le_of_ble_eq_true rfl) (⟨((pq_Fr.rf.cm hF4 (by decide)).uJ hou_4 (by first | decide | exact List.mem_cons_self)), 0, rfl, (by focus ((try clear hY); (try clear p4); simp only [vp_in_iff, Int32.lt_iff_toInt_lt, Int32.le_iff_toInt_le, ← Int32.toInt_inj, Int32.toInt_add, Int32.toInt_sub, Int32.toInt_mul, Int32.toInt_neg, pq_NuO, pq_NuI, pq_NuJ, pq_NuR, pq_shr6, pq_shr7, pq_shr8, lqm1, lq0, lq1] at *; (try simp (disch := omega) only [pq_bm] at *); all_goals omega)), (by focus ((try clear hY); (try clear p4); simp only [vp_in_iff, Int32.lt_iff_toInt_lt, Int32.le_iff_toInt_le, ← Int32.toInt_inj, Int32.toInt_add, Int32.toInt_sub, Int32.toInt_mul, Int32.toInt_neg, pq_NuO, pq_NuI, pq_NuJ, pq_NuR, pq_shr6, pq_shr7, pq_shr8, lqm1, lq0, lq1] at *; (try simp (disch := omega) only [pq_bm] at *); all_goals omega)), Or.inl ⟨rfl, p4.1, (by simp only [pq_IuO, pq_IuJ, pq_Iu, pq_JuO, pq_JuI, pq_Ju, pq_RuO, pq_RuJ, pq_RuI, if_true, if_false]; exact pf_ulS)⟩⟩) dL_empty_23)

set_option maxHeartbeats 4000000 in
set_option maxRecDepth 100000 in
theorem k_L_fitsY (l : Launch) (D : va_G) (cy : Nat → ClassId) (hl0 : l.stackTraces = false) (S : HS) (a : Nat) (ha : pq_R S a 13) (pw : Int32) (ou : Nat) (hou : pq_R S ou 186) (hY : pf_Y S a) (hol : hN S ou = 1) : pq_CH l D cy yL_fits cL_fits 4 (some .int) [(0, 16, 19, 19)] 7 1 6 S [.ref a, .int pw, .ref ou] (fun v S2 => pq_Fr [(12, 1), (186, 0)] S S2 ∧ ∃ x : Int32, v = some (.int x) ∧ 0 ≤ x.toInt ∧ x.toInt ≤ 1 ∧ ((x = 0 ∧ (pw = 0 ∨ pw = 1) ∧ hJ S2 ou 0 = 1) ∨ (x = 1 ∧ ¬ (pw = 0 ∨ pw = 1)))) pq_Dn := by
  refine pq_startH (by decide) (Nat.le_of_ble_eq_true rfl) ?_
  intro p e s m args below meth c A F hr hlk hA htb hEx
  have lqm1 : (-1 : Int32).toInt = -1 := rfl
  have lq0 : (0 : Int32).toInt = 0 := rfl
  have lq1 : (1 : Int32).toInt = 1 := rfl
  refine pq_aload_n F dL_fits_0 rfl rfl ?_
  refine pq_iconst (v := 0) F dL_fits_1 (by decide) ?_
  refine pq_aload_n F dL_fits_2 rfl rfl ?_
  refine pq_iload_n F dL_fits_3 rfl rfl ?_
  refine pq_callVX (As := [_]) F hEx (k_X10_fitsY l D cy hl0 _ _ ?_ _ hY) ml_L_30 (pq_gt5 (i := 114) rfl rfl) ha (by decide) rfl (Nat.le_of_ble_eq_true rfl) ⟨Nat.le_of_ble_eq_true rfl, Nat.le_of_ble_eq_true rfl⟩ ⟨Nat.le_of_ble_eq_true rfl, Nat.le_of_ble_eq_true rfl⟩ dL_fits_4 (fun E4 T4 q4 xw4 => ?_) (fun v4 S4 w4 => ?_)
  · exact ha
  · skip
    obtain ⟨rfl, hx1, hFx⟩ := xw4
    refine ⟨19, (pq_Hd1 (st := 0) (en := 16) (ct := 19) htb (by decide) (by decide) (F.2.2.2.2.1 _ cl_L_19) (pq_wN' F.2.2.2.2.2.2.2.1 pq_cw19)), ?_⟩
    refine pq_astore_n F dL_fits_19 rfl (by decide) ?_
    refine pq_iconst (v := 1) F dL_fits_20 (by decide) ?_
    exact pq_lift (pq_iret F hr hlk hA (Nat.le_of_ble_eq_true rfl) (Nat.le_of_ble_eq_true rfl) (⟨(hFx.mono (by decide)), 1, rfl, (by focus ((try clear hY); (try clear p4); simp only [vp_in_iff, Int32.lt_iff_toInt_lt, Int32.le_iff_toInt_le, ← Int32.toInt_inj, Int32.toInt_add, Int32.toInt_sub, Int32.toInt_mul, Int32.toInt_neg, pq_NuO, pq_NuI, pq_NuJ, pq_NuR, pq_shr6, pq_shr7, pq_shr8, lqm1, lq0, lq1] at *; (try simp (disch := omega) only [pq_bm] at *); all_goals omega)), (by focus ((try clear hY); (try clear p4); simp only [vp_in_iff, Int32.lt_iff_toInt_lt, Int32.le_iff_toInt_le, ← Int32.toInt_inj, Int32.toInt_add, Int32.toInt_sub, Int32.toInt_mul, Int32.toInt_neg, pq_NuO, pq_NuI, pq_NuJ, pq_NuR, pq_shr6, pq_shr7, pq_shr8, lqm1, lq0, lq1] at *; (try simp (disch := omega) only [pq_bm] at *); all_goals omega)), Or.inr ⟨rfl, hx1⟩⟩) dL_fits_21)
  obtain ⟨hF4, y4, rfl, yl4_0, yl4_1, p4⟩ := w4
  have ha_4 := (hF4.1 _ _ ha (by decide)).1
  have hou_4 := (hF4.1 _ _ hou (by decide)).1
  have hol2 : hN S4 ou = 1 := ((hF4.1 ou 186 hou (by decide)).2).trans hol
  refine pq_if_eq (tgt := 14) F dL_fits_7 (by decide) (fun c7 => ?_) (fun c7 => ?_)
  · exact absurd (c7.symm.trans p4.2) (by decide)
  · skip
    refine pq_lconst (v := 1) F dL_fits_10 (by decide) ?_
    refine pq_goto (tgt := 15) F dL_fits_11 (by decide) ?_
    refine pq_last F hou_4 (by decide) (by decide) rfl (fun n1_15 n2_15 => (by focus ((try clear hY); (try clear p4); simp only [vp_in_iff, Int32.lt_iff_toInt_lt, Int32.le_iff_toInt_le, ← Int32.toInt_inj, Int32.toInt_add, Int32.toInt_sub, Int32.toInt_mul, Int32.toInt_neg, pq_NuO, pq_NuI, pq_NuJ, pq_NuR, pq_shr6, pq_shr7, pq_shr8, lqm1, lq0, lq1] at *; (try simp (disch := omega) only [pq_bm] at *); all_goals omega))) dL_fits_15 ?_
    refine pq_goto (tgt := 22) F dL_fits_16 (by decide) ?_
    refine pq_iconst (v := 0) F dL_fits_22 (by decide) ?_
    exact pq_lift (pq_iret F hr hlk hA (Nat.le_of_ble_eq_true rfl) (Nat.le_of_ble_eq_true rfl) (⟨((pq_Fr.rf.cm hF4 (by decide)).uJ hou_4 (by first | decide | exact List.mem_cons_self)), 0, rfl, (by focus ((try clear hY); (try clear p4); simp only [vp_in_iff, Int32.lt_iff_toInt_lt, Int32.le_iff_toInt_le, ← Int32.toInt_inj, Int32.toInt_add, Int32.toInt_sub, Int32.toInt_mul, Int32.toInt_neg, pq_NuO, pq_NuI, pq_NuJ, pq_NuR, pq_shr6, pq_shr7, pq_shr8, lqm1, lq0, lq1] at *; (try simp (disch := omega) only [pq_bm] at *); all_goals omega)), (by focus ((try clear hY); (try clear p4); simp only [vp_in_iff, Int32.lt_iff_toInt_lt, Int32.le_iff_toInt_le, ← Int32.toInt_inj, Int32.toInt_add, Int32.toInt_sub, Int32.toInt_mul, Int32.toInt_neg, pq_NuO, pq_NuI, pq_NuJ, pq_NuR, pq_shr6, pq_shr7, pq_shr8, lqm1, lq0, lq1] at *; (try simp (disch := omega) only [pq_bm] at *); all_goals omega)), Or.inl ⟨rfl, p4.1, (by simp only [pq_IuO, pq_IuJ, pq_Iu, pq_JuO, pq_JuI, pq_Ju, pq_RuO, pq_RuJ, pq_RuI, if_true, if_false]; exact pf_ulS)⟩⟩) dL_fits_23)

set_option maxHeartbeats 4000000 in
set_option maxRecDepth 100000 in
theorem k_L_firstY (l : Launch) (D : va_G) (cy : Nat → ClassId) (hl0 : l.stackTraces = false) (S : HS) (a : Nat) (ha : pq_R S a 13) (kd : Int32) (ou : Nat) (hou : pq_R S ou 186) (hY : pf_Y S a) (hol : hN S ou = 1) : pq_CH l D cy yL_first cL_first 4 (some .int) [(0, 9, 12, 19)] 7 4 9 S [.ref a, .int kd, .ref ou] (fun v S2 => pq_Fr [(10, 7), (10, 1), (163, 0), (10, 2), (10, 3), (10, 4), (10, 5), (164, 0), (165, 0), (196, 0), (10, 6), (103, 0), (186, 0)] S S2 ∧ ∃ x : Int32, v = some (.int x) ∧ 0 ≤ x.toInt ∧ x.toInt ≤ 1 ∧ ((x = 0 ∧ (0 ≤ kd.toInt ∧ kd.toInt ≤ 4) ∧ hJ S2 ou 0 = (if kd = 3 then (0 : Int32) else if kd = 4 then 1 else -1).toInt64) ∨ (x = 1 ∧ ¬ (0 ≤ kd.toInt ∧ kd.toInt ≤ 4)))) pq_Dn := by
  refine pq_startH (by decide) (Nat.le_of_ble_eq_true rfl) ?_
  intro p e s m args below meth c A F hr hlk hA htb hEx
  have lqm1 : (-1 : Int32).toInt = -1 := rfl
  have lq0 : (0 : Int32).toInt = 0 := rfl
  have lq1 : (1 : Int32).toInt = 1 := rfl
  refine pq_aload_n F dL_first_0 rfl rfl ?_
  refine pq_iconst (v := 0) F dL_first_1 (by decide) ?_
  refine pq_aload_n F dL_first_2 rfl rfl ?_
  refine pq_iload_n F dL_first_3 rfl rfl ?_
  refine pq_callVX (As := [_]) F hEx (k_X10_firstY l D cy hl0 _ _ ?_ _ hY) ml_L_33 (pq_gt5 (i := 130) rfl rfl) ha (by decide) rfl (Nat.le_of_ble_eq_true rfl) ⟨Nat.le_of_ble_eq_true rfl, Nat.le_of_ble_eq_true rfl⟩ ⟨Nat.le_of_ble_eq_true rfl, Nat.le_of_ble_eq_true rfl⟩ dL_first_4 (fun E4 T4 q4 xw4 => ?_) (fun v4 S4 w4 => ?_)
  · exact ha
  · skip
    obtain ⟨rfl, hx1, hFx⟩ := xw4
    refine ⟨12, (pq_Hd1 (st := 0) (en := 9) (ct := 19) htb (by decide) (by decide) (F.2.2.2.2.1 _ cl_L_19) (pq_wN' F.2.2.2.2.2.2.2.1 pq_cw19)), ?_⟩
    refine pq_astore_n F dL_first_12 rfl (by decide) ?_
    refine pq_iconst (v := 1) F dL_first_13 (by decide) ?_
    exact pq_lift (pq_iret F hr hlk hA (Nat.le_of_ble_eq_true rfl) (Nat.le_of_ble_eq_true rfl) (⟨(hFx.mono (by decide)), 1, rfl, (by focus ((try clear hY); (try clear p4); simp only [vp_in_iff, Int32.lt_iff_toInt_lt, Int32.le_iff_toInt_le, ← Int32.toInt_inj, Int32.toInt_add, Int32.toInt_sub, Int32.toInt_mul, Int32.toInt_neg, pq_NuO, pq_NuI, pq_NuJ, pq_NuR, pq_shr6, pq_shr7, pq_shr8, lqm1, lq0, lq1] at *; (try simp (disch := omega) only [pq_bm] at *); all_goals omega)), (by focus ((try clear hY); (try clear p4); simp only [vp_in_iff, Int32.lt_iff_toInt_lt, Int32.le_iff_toInt_le, ← Int32.toInt_inj, Int32.toInt_add, Int32.toInt_sub, Int32.toInt_mul, Int32.toInt_neg, pq_NuO, pq_NuI, pq_NuJ, pq_NuR, pq_shr6, pq_shr7, pq_shr8, lqm1, lq0, lq1] at *; (try simp (disch := omega) only [pq_bm] at *); all_goals omega)), Or.inr ⟨rfl, hx1⟩⟩) dL_first_14)
  obtain ⟨hF4, y4, rfl, p4⟩ := w4
  have ha_4 := (hF4.1 _ _ ha (by decide)).1
  have hou_4 := (hF4.1 _ _ hou (by decide)).1
  have hol2 : hN S4 ou = 1 := ((hF4.1 ou 186 hou (by decide)).2).trans hol
  refine pq_i2l F dL_first_7 ?_
  refine pq_last F hou_4 (by decide) (by decide) rfl (fun n1_8 n2_8 => (by focus ((try clear hY); (try clear p4); simp only [vp_in_iff, Int32.lt_iff_toInt_lt, Int32.le_iff_toInt_le, ← Int32.toInt_inj, Int32.toInt_add, Int32.toInt_sub, Int32.toInt_mul, Int32.toInt_neg, pq_NuO, pq_NuI, pq_NuJ, pq_NuR, pq_shr6, pq_shr7, pq_shr8, lqm1, lq0, lq1] at *; (try simp (disch := omega) only [pq_bm] at *); all_goals omega))) dL_first_8 ?_
  refine pq_goto (tgt := 15) F dL_first_9 (by decide) ?_
  refine pq_iconst (v := 0) F dL_first_15 (by decide) ?_
  exact pq_lift (pq_iret F hr hlk hA (Nat.le_of_ble_eq_true rfl) (Nat.le_of_ble_eq_true rfl) (⟨((pq_Fr.rf.cm hF4 (by decide)).uJ hou_4 (by first | decide | exact List.mem_cons_self)), 0, rfl, (by focus ((try clear hY); (try clear p4); simp only [vp_in_iff, Int32.lt_iff_toInt_lt, Int32.le_iff_toInt_le, ← Int32.toInt_inj, Int32.toInt_add, Int32.toInt_sub, Int32.toInt_mul, Int32.toInt_neg, pq_NuO, pq_NuI, pq_NuJ, pq_NuR, pq_shr6, pq_shr7, pq_shr8, lqm1, lq0, lq1] at *; (try simp (disch := omega) only [pq_bm] at *); all_goals omega)), (by focus ((try clear hY); (try clear p4); simp only [vp_in_iff, Int32.lt_iff_toInt_lt, Int32.le_iff_toInt_le, ← Int32.toInt_inj, Int32.toInt_add, Int32.toInt_sub, Int32.toInt_mul, Int32.toInt_neg, pq_NuO, pq_NuI, pq_NuJ, pq_NuR, pq_shr6, pq_shr7, pq_shr8, lqm1, lq0, lq1] at *; (try simp (disch := omega) only [pq_bm] at *); all_goals omega)), Or.inl ⟨rfl, p4.1, (by simp only [pq_IuO, pq_IuJ, pq_Iu, pq_JuO, pq_JuI, pq_Ju, pq_RuO, pq_RuJ, pq_RuI, if_true, if_false]; exact pf_ulS.trans (by rw [p4.2]))⟩⟩) dL_first_16)

set_option maxHeartbeats 4000000 in
set_option maxRecDepth 100000 in
theorem k_L_countY (l : Launch) (D : va_G) (cy : Nat → ClassId) (hl0 : l.stackTraces = false) (S : HS) (a : Nat) (ha : pq_R S a 13) (pw : Int32) (pn : Int32) (ou : Nat) (hou : pq_R S ou 186) (hY : pf_Y S a) (hol : hN S ou = 1) : pq_CH l D cy yL_count cL_count 5 (some .int) [(0, 9, 12, 19)] 7 1 6 S [.ref a, .int pw, .int pn, .ref ou] (fun v S2 => pq_Fr [(189, 0), (4, 0), (4, 1), (186, 0)] S S2 ∧ ∃ x : Int32, v = some (.int x) ∧ 0 ≤ x.toInt ∧ x.toInt ≤ 1 ∧ ((x = 0 ∧ ((pw = 0 ∨ pw = 1) ∧ (0 ≤ pn.toInt ∧ pn.toInt ≤ 12)) ∧ hJ S2 ou 0 = (if pn.toInt = 0 then 1 else 0)) ∨ (x = 1 ∧ ¬ ((pw = 0 ∨ pw = 1) ∧ (0 ≤ pn.toInt ∧ pn.toInt ≤ 12))))) pq_Dn := by
  refine pq_startH (by decide) (Nat.le_of_ble_eq_true rfl) ?_
  intro p e s m args below meth c A F hr hlk hA htb hEx
  have lqm1 : (-1 : Int32).toInt = -1 := rfl
  have lq0 : (0 : Int32).toInt = 0 := rfl
  have lq1 : (1 : Int32).toInt = 1 := rfl
  refine pq_aload_n F dL_count_0 rfl rfl ?_
  refine pq_iconst (v := 0) F dL_count_1 (by decide) ?_
  refine pq_aload_n F dL_count_2 rfl rfl ?_
  refine pq_iload_n F dL_count_3 rfl rfl ?_
  refine pq_iload_n F dL_count_4 rfl rfl ?_
  refine pq_callVX (As := [_, _]) F hEx (k_X10_countY l D cy hl0 _ _ ?_ _ _ hY) ml_L_41 (pq_gt5 (i := 191) rfl rfl) ha (by decide) rfl (Nat.le_of_ble_eq_true rfl) ⟨Nat.le_of_ble_eq_true rfl, Nat.le_of_ble_eq_true rfl⟩ ⟨Nat.le_of_ble_eq_true rfl, Nat.le_of_ble_eq_true rfl⟩ dL_count_5 (fun E5 T5 q5 xw5 => ?_) (fun v5 S5 w5 => ?_)
  · exact ha
  · skip
    obtain ⟨rfl, hx1, hFx⟩ := xw5
    refine ⟨12, (pq_Hd1 (st := 0) (en := 9) (ct := 19) htb (by decide) (by decide) (F.2.2.2.2.1 _ cl_L_19) (pq_wN' F.2.2.2.2.2.2.2.1 pq_cw19)), ?_⟩
    refine pq_astore F dL_count_12 (by decide) ?_
    refine pq_iconst (v := 1) F dL_count_14 (by decide) ?_
    exact pq_lift (pq_iret F hr hlk hA (Nat.le_of_ble_eq_true rfl) (Nat.le_of_ble_eq_true rfl) (⟨(hFx.mono (by decide)), 1, rfl, (by focus ((try clear hY); (try clear p5); simp only [vp_in_iff, Int32.lt_iff_toInt_lt, Int32.le_iff_toInt_le, ← Int32.toInt_inj, Int32.toInt_add, Int32.toInt_sub, Int32.toInt_mul, Int32.toInt_neg, pq_NuO, pq_NuI, pq_NuJ, pq_NuR, pq_shr6, pq_shr7, pq_shr8, lqm1, lq0, lq1] at *; (try simp (disch := omega) only [pq_bm] at *); all_goals omega)), (by focus ((try clear hY); (try clear p5); simp only [vp_in_iff, Int32.lt_iff_toInt_lt, Int32.le_iff_toInt_le, ← Int32.toInt_inj, Int32.toInt_add, Int32.toInt_sub, Int32.toInt_mul, Int32.toInt_neg, pq_NuO, pq_NuI, pq_NuJ, pq_NuR, pq_shr6, pq_shr7, pq_shr8, lqm1, lq0, lq1] at *; (try simp (disch := omega) only [pq_bm] at *); all_goals omega)), Or.inr ⟨rfl, hx1⟩⟩) dL_count_15)
  obtain ⟨hF5, y5, rfl, p5⟩ := w5
  have ha_5 := (hF5.1 _ _ ha (by decide)).1
  have hou_5 := (hF5.1 _ _ hou (by decide)).1
  have hol2 : hN S5 ou = 1 := ((hF5.1 ou 186 hou (by decide)).2).trans hol
  refine pq_last F hou_5 (by decide) (by decide) rfl (fun n1_8 n2_8 => (by focus ((try clear hY); (try clear p5); simp only [vp_in_iff, Int32.lt_iff_toInt_lt, Int32.le_iff_toInt_le, ← Int32.toInt_inj, Int32.toInt_add, Int32.toInt_sub, Int32.toInt_mul, Int32.toInt_neg, pq_NuO, pq_NuI, pq_NuJ, pq_NuR, pq_shr6, pq_shr7, pq_shr8, lqm1, lq0, lq1] at *; (try simp (disch := omega) only [pq_bm] at *); all_goals omega))) dL_count_8 ?_
  refine pq_goto (tgt := 16) F dL_count_9 (by decide) ?_
  refine pq_iconst (v := 0) F dL_count_16 (by decide) ?_
  exact pq_lift (pq_iret F hr hlk hA (Nat.le_of_ble_eq_true rfl) (Nat.le_of_ble_eq_true rfl) (⟨((pq_Fr.rf.cm hF5 (by decide)).uJ hou_5 (by first | decide | exact List.mem_cons_self)), 0, rfl, (by focus ((try clear hY); (try clear p5); simp only [vp_in_iff, Int32.lt_iff_toInt_lt, Int32.le_iff_toInt_le, ← Int32.toInt_inj, Int32.toInt_add, Int32.toInt_sub, Int32.toInt_mul, Int32.toInt_neg, pq_NuO, pq_NuI, pq_NuJ, pq_NuR, pq_shr6, pq_shr7, pq_shr8, lqm1, lq0, lq1] at *; (try simp (disch := omega) only [pq_bm] at *); all_goals omega)), (by focus ((try clear hY); (try clear p5); simp only [vp_in_iff, Int32.lt_iff_toInt_lt, Int32.le_iff_toInt_le, ← Int32.toInt_inj, Int32.toInt_add, Int32.toInt_sub, Int32.toInt_mul, Int32.toInt_neg, pq_NuO, pq_NuI, pq_NuJ, pq_NuR, pq_shr6, pq_shr7, pq_shr8, lqm1, lq0, lq1] at *; (try simp (disch := omega) only [pq_bm] at *); all_goals omega)), Or.inl ⟨rfl, p5.1, (by simp only [pq_IuO, pq_IuJ, pq_Iu, pq_JuO, pq_JuI, pq_Ju, pq_RuO, pq_RuJ, pq_RuI, if_true, if_false]; exact pf_ulS.trans (by rw [p5.2]))⟩⟩) dL_count_17)

