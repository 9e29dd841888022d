/-- one handler, for the exception's own class -/
theorem pq_Hd1 {s : State} {args : Array Value} {own E : String} {c : Code} {pc hpc st en ct : Nat} (htb : c.exceptionTable.toList = tableOf [(st, en, hpc, ct)]) (h1 : covers ⟨st, en, hpc, ct⟩ pc = true) (hct : ct ≠ 0) (hl : (Cond.classLink own ct E).before args s = true) (hc : (Cond.castable E E).before args s = true) : pq_Hd s args own c.exceptionTable.toList pc E hpc := ⟨[], ⟨st, en, hpc, ct⟩, [], E, htb, fun z hz => absurd hz List.not_mem_nil, h1, hct, hl, hc, rfl⟩
theorem pq_cw13 : Cond.castable "java/lang/IndexOutOfBoundsException" "java/lang/IndexOutOfBoundsException" ∈ ntb := (pq_nt2 (i := 140) rfl rfl)
theorem pq_cw19 : Cond.castable "java/lang/IllegalArgumentException" "java/lang/IllegalArgumentException" ∈ ntb := (pq_nt2 (i := 221) rfl rfl)
theorem pq_cw24 : Cond.castable "java/lang/UnsupportedOperationException" "java/lang/UnsupportedOperationException" ∈ ntb := (pq_nt4 (i := 223) rfl rfl)
def pq_Ixl : List (Nat × Nat) := [(13, 0), (13, 1), (13, 2), (13, 3), (13, 4), (13, 5), (13, 6), (13, 7), (9, 0), (9, 1), (11, 0), (7, 0), (220, 0), (12, 1), (3, 0), (3, 3), (3, 4), (3, 5), (3, 6), (150, 0), (152, 0), (33, 0), (33, 3), (33, 4), (33, 5), (33, 6), (153, 0), (155, 0), (10, 2), (10, 3), (10, 4), (10, 6), (10, 7)]
theorem pq_Ix.fr {S S1 : HS} {x : Nat} {t : Int32} {np nq : Nat} {M : List (Nat × Nat)} (h : pq_Ix S x t np nq) (hF : pq_Fr M S S1) (hM : ∀ q ∈ M, q ∉ pq_Ixl) : pq_Ix S1 x t np nq := by
  obtain ⟨tp, pl, rd, wk, mg, pt, ct, sr, A, B, hf, et, ht, ia, ib, is⟩ := h
  have hf2 := hf
  obtain ⟨-, ⟨b0, b1, b2, b3, b4, b5, b6, b7, b8⟩, -, ⟨d0, d1, d2, d3⟩⟩ := hf2
  exact ⟨tp, pl, rd, wk, mg, pt, ct, sr, A, B, hf.fr hF (fun q hq h => hM q hq ((by decide : ∀ q ∈ pq_Ifl, q ∈ pq_Ixl) q h)), hF.O b1 (by decide) (fun h => hM _ h (by decide)) et, ht,
    ia.fr d2 (by decide) (by decide) (by decide) hF (fun q hq h => hM q hq ((by decide : ∀ q ∈ ([(3, 0), (3, 3), (3, 4), (3, 5), (3, 6), (150, 0), (152, 0)] : List (Nat × Nat)), q ∈ pq_Ixl) q h)),
    ib.fr d3 (by decide) (by decide) (by decide) hF (fun q hq h => hM q hq ((by decide : ∀ q ∈ ([(33, 0), (33, 3), (33, 4), (33, 5), (33, 6), (153, 0), (155, 0)] : List (Nat × Nat)), q ∈ pq_Ixl) q h)),
    is.fr b8 hF (fun q hq h => hM q hq ((by decide : ∀ q ∈ ([(10, 2), (10, 3), (10, 4), (10, 6), (10, 7)] : List (Nat × Nat)), q ∈ pq_Ixl) q h))⟩
theorem pq_ul {f : Nat → Int64} {i : Nat} {x : Int64} : vp_updL f i x i = x := by simp [vp_updL]
set_option maxHeartbeats 4000000 in
set_option maxRecDepth 100000 in
theorem k_L_end (l : Launch) (D : va_G) (cy : Nat → ClassId) (hl0 : l.stackTraces = false) (S : HS) (a : Nat) (ha : pq_R S a 13) (pn : Int32) (ou : Nat) (hou : pq_R S ou 186) (t : Int32) (np nq : Nat) (hIx : pq_Ix S a t np nq) (hol : hN S ou = 1) : pq_CH l D cy yL_end cL_end 4 (some .int) [(0, 9, 12, 19)] 7 1 6 S [.ref a, .int pn, .ref ou] (fun v S2 => pq_Fr [(12, 1), (186, 0)] S S2 ∧ ∃ x : Int32, v = some (.int x) ∧ 0 ≤ x.toInt ∧ x.toInt ≤ 1 ∧ ((x = 0 ∧ (0 ≤ pn.toInt ∧ pn.toInt ≤ t.toInt) ∧ pq_Ix S2 a pn np nq) ∨ (x = 1 ∧ ¬ (0 ≤ pn.toInt ∧ pn.toInt ≤ t.toInt) ∧ pq_Ix S2 a t np nq))) pq_Dn := by
  refine pq_startH (by decide) (Nat.le_of_ble_eq_true rfl) ?_
  intro p e s m args below meth c A F hr hlk hA htb hEx
  have lqm1 : (-1 : Int32).toInt = -1 := rfl
  have lq0 : (0 : Int32).toInt = 0 := rfl
  have lq1 : (1 : Int32).toInt = 1 := rfl
  refine pq_aload_n F dL_end_0 rfl rfl ?_
  refine pq_iconst (v := 0) F dL_end_1 (by decide) ?_
  refine pq_aload_n F dL_end_2 rfl rfl ?_
  refine pq_iload_n F dL_end_3 rfl rfl ?_
  refine pq_callVX (As := [_]) F hEx (k_X10_end l D cy hl0 _ _ ?_ _ t np nq hIx) ml_L_15 (pq_gt2 (i := 215) rfl rfl) ha (by decide) rfl (Nat.le_of_ble_eq_true rfl) ⟨Nat.le_of_ble_eq_true rfl, Nat.le_of_ble_eq_true rfl⟩ ⟨Nat.le_of_ble_eq_true rfl, Nat.le_of_ble_eq_true rfl⟩ dL_end_4 (fun E4 T4 q4 xw4 => ?_) (fun v4 S4 w4 => ?_)
  · exact ha
  · skip
    obtain ⟨rfl, hx1, hFx, hIz⟩ := xw4
    refine ⟨12, (pq_Hd1 (st := 0) (en := 9) (ct := 19) htb (by decide) (by decide) (F.2.2.2.2.1 _ cl_L_19) (pq_wN' F.2.2.2.2.2.2.2.1 pq_cw19)), ?_⟩
    refine pq_astore_n F dL_end_12 rfl (by decide) ?_
    refine pq_iconst (v := 1) F dL_end_13 (by decide) ?_
    exact pq_lift (pq_iret F hr hlk hA (Nat.le_of_ble_eq_true rfl) (Nat.le_of_ble_eq_true rfl) (⟨(hFx.mono (by decide)), 1, rfl, (by focus ((try clear hIx); (try clear hIz); (try clear p4); simp only [vp_in_iff, Int32.lt_iff_toInt_lt, Int32.le_iff_toInt_le, ← Int32.toInt_inj, Int32.toInt_add, Int32.toInt_sub, Int32.toInt_mul, Int32.toInt_neg, pq_NuO, pq_NuI, pq_NuJ, pq_NuR, pq_shr6, pq_shr7, pq_shr8, lqm1, lq0, lq1] at *; (try simp (disch := omega) only [pq_bm] at *); all_goals omega)), (by focus ((try clear hIx); (try clear hIz); (try clear p4); simp only [vp_in_iff, Int32.lt_iff_toInt_lt, Int32.le_iff_toInt_le, ← Int32.toInt_inj, Int32.toInt_add, Int32.toInt_sub, Int32.toInt_mul, Int32.toInt_neg, pq_NuO, pq_NuI, pq_NuJ, pq_NuR, pq_shr6, pq_shr7, pq_shr8, lqm1, lq0, lq1] at *; (try simp (disch := omega) only [pq_bm] at *); all_goals omega)), Or.inr ⟨rfl, hx1, hIz⟩⟩) dL_end_14)
  obtain ⟨hF4, y4, rfl, p4⟩ := w4
  have ha_4 := (hF4.1 _ _ ha (by decide)).1
  have hou_4 := (hF4.1 _ _ hou (by decide)).1
  have hol2 : hN S4 ou = 1 := ((hF4.1 ou 186 hou (by decide)).2).trans hol
  refine pq_i2l F dL_end_7 ?_
  refine pq_last F hou_4 (by decide) (by decide) rfl (fun n1_8 n2_8 => (by focus ((try clear hIx); (try clear hIz); (try clear p4); simp only [vp_in_iff, Int32.lt_iff_toInt_lt, Int32.le_iff_toInt_le, ← Int32.toInt_inj, Int32.toInt_add, Int32.toInt_sub, Int32.toInt_mul, Int32.toInt_neg, pq_NuO, pq_NuI, pq_NuJ, pq_NuR, pq_shr6, pq_shr7, pq_shr8, lqm1, lq0, lq1] at *; (try simp (disch := omega) only [pq_bm] at *); all_goals omega))) dL_end_8 ?_
  refine pq_goto (tgt := 15) F dL_end_9 (by decide) ?_
  refine pq_iconst (v := 0) F dL_end_15 (by decide) ?_
  exact pq_lift (pq_iret F hr hlk hA (Nat.le_of_ble_eq_true rfl) (Nat.le_of_ble_eq_true rfl) (⟨((pq_Fr.rf.cm hF4 (by decide)).uJ hou_4 (by first | decide | exact List.mem_cons_self)), 0, rfl, (by focus ((try clear hIx); (try clear hIz); (try clear p4); simp only [vp_in_iff, Int32.lt_iff_toInt_lt, Int32.le_iff_toInt_le, ← Int32.toInt_inj, Int32.toInt_add, Int32.toInt_sub, Int32.toInt_mul, Int32.toInt_neg, pq_NuO, pq_NuI, pq_NuJ, pq_NuR, pq_shr6, pq_shr7, pq_shr8, lqm1, lq0, lq1] at *; (try simp (disch := omega) only [pq_bm] at *); all_goals omega)), (by focus ((try clear hIx); (try clear hIz); (try clear p4); simp only [vp_in_iff, Int32.lt_iff_toInt_lt, Int32.le_iff_toInt_le, ← Int32.toInt_inj, Int32.toInt_add, Int32.toInt_sub, Int32.toInt_mul, Int32.toInt_neg, pq_NuO, pq_NuI, pq_NuJ, pq_NuR, pq_shr6, pq_shr7, pq_shr8, lqm1, lq0, lq1] at *; (try simp (disch := omega) only [pq_bm] at *); all_goals omega)), Or.inl ⟨rfl, p4.1, (p4.2.2.fr ((pq_Fr.rf (M := [(186, 0)]) (S := S4)).uJ hou_4 (by decide)) (by decide))⟩⟩) dL_end_16)

set_option maxHeartbeats 4000000 in
set_option maxRecDepth 100000 in
theorem k_L_empty (l : Launch) (D : va_G) (cy : Nat → ClassId) (hl0 : l.stackTraces = false) (S : HS) (a : Nat) (ha : pq_R S a 13) (pw : Int32) (ou : Nat) (hou : pq_R S ou 186) (t : Int32) (np nq : Nat) (hIx : pq_Ix S a t np nq) (hol : hN S ou = 1) : pq_CH l D cy yL_empty cL_empty 4 (some .int) [(0, 16, 19, 19)] 7 1 6 S [.ref a, .int pw, .ref ou] (fun v S2 => pq_Fr [(186, 0)] S S2 ∧ ∃ x : Int32, v = some (.int x) ∧ 0 ≤ x.toInt ∧ x.toInt ≤ 1 ∧ (pq_Ix S2 a t np nq)) pq_Dn := by
  refine pq_startH (by decide) (Nat.le_of_ble_eq_true rfl) ?_
  intro p e s m args below meth c A F hr hlk hA htb hEx
  have lqm1 : (-1 : Int32).toInt = -1 := rfl
  have lq0 : (0 : Int32).toInt = 0 := rfl
  have lq1 : (1 : Int32).toInt = 1 := rfl
  refine pq_aload_n F dL_empty_0 rfl rfl ?_
  refine pq_iconst (v := 0) F dL_empty_1 (by decide) ?_
  refine pq_aload_n F dL_empty_2 rfl rfl ?_
  refine pq_iload_n F dL_empty_3 rfl rfl ?_
  refine pq_callVX (As := [_]) F hEx (k_X10_empty l D cy hl0 _ _ ?_ _ t np nq hIx) ml_L_26 (pq_gt5 (i := 107) rfl rfl) ha (by decide) rfl (Nat.le_of_ble_eq_true rfl) ⟨Nat.le_of_ble_eq_true rfl, Nat.le_of_ble_eq_true rfl⟩ ⟨Nat.le_of_ble_eq_true rfl, Nat.le_of_ble_eq_true rfl⟩ dL_empty_4 (fun E4 T4 q4 xw4 => ?_) (fun v4 S4 w4 => ?_)
  · exact ha
  · skip
    obtain ⟨rfl, hFx, hIz⟩ := xw4
    refine ⟨19, (pq_Hd1 (st := 0) (en := 16) (ct := 19) htb (by decide) (by decide) (F.2.2.2.2.1 _ cl_L_19) (pq_wN' F.2.2.2.2.2.2.2.1 pq_cw19)), ?_⟩
    refine pq_astore_n F dL_empty_19 rfl (by decide) ?_
    refine pq_iconst (v := 1) F dL_empty_20 (by decide) ?_
    exact pq_lift (pq_iret F hr hlk hA (Nat.le_of_ble_eq_true rfl) (Nat.le_of_ble_eq_true rfl) (⟨(hFx.mono (by decide)), 1, rfl, (by focus ((try clear hIx); (try clear hIz); (try clear p4); simp only [vp_in_iff, Int32.lt_iff_toInt_lt, Int32.le_iff_toInt_le, ← Int32.toInt_inj, Int32.toInt_add, Int32.toInt_sub, Int32.toInt_mul, Int32.toInt_neg, pq_NuO, pq_NuI, pq_NuJ, pq_NuR, pq_shr6, pq_shr7, pq_shr8, lqm1, lq0, lq1] at *; (try simp (disch := omega) only [pq_bm] at *); all_goals omega)), (by focus ((try clear hIx); (try clear hIz); (try clear p4); simp only [vp_in_iff, Int32.lt_iff_toInt_lt, Int32.le_iff_toInt_le, ← Int32.toInt_inj, Int32.toInt_add, Int32.toInt_sub, Int32.toInt_mul, Int32.toInt_neg, pq_NuO, pq_NuI, pq_NuJ, pq_NuR, pq_shr6, pq_shr7, pq_shr8, lqm1, lq0, lq1] at *; (try simp (disch := omega) only [pq_bm] at *); all_goals omega)), hIz⟩) dL_empty_21)
  obtain ⟨hF4, y4, rfl, yl4_0, yl4_1, p4⟩ := w4
  have ha_4 := (hF4.1 _ _ ha (by decide)).1
  have hou_4 := (hF4.1 _ _ hou (by decide)).1
  have hol2 : hN S4 ou = 1 := ((hF4.1 ou 186 hou (by decide)).2).trans hol
  refine pq_if_eq (tgt := 14) F dL_empty_7 (by decide) (fun c7 => ?_) (fun c7 => ?_)
  · skip
    refine pq_lconst (v := 0) F dL_empty_14 (by decide) ?_
    refine pq_last F hou_4 (by decide) (by decide) rfl (fun n1_15 n2_15 => (by focus ((try clear hIx); (try clear hIz); (try clear p4); simp only [vp_in_iff, Int32.lt_iff_toInt_lt, Int32.le_iff_toInt_le, ← Int32.toInt_inj, Int32.toInt_add, Int32.toInt_sub, Int32.toInt_mul, Int32.toInt_neg, pq_NuO, pq_NuI, pq_NuJ, pq_NuR, pq_shr6, pq_shr7, pq_shr8, lqm1, lq0, lq1] at *; (try simp (disch := omega) only [pq_bm] at *); all_goals omega))) dL_empty_15 ?_
    refine pq_goto (tgt := 22) F dL_empty_16 (by decide) ?_
    refine pq_iconst (v := 0) F dL_empty_22 (by decide) ?_
    exact pq_lift (pq_iret F hr hlk hA (Nat.le_of_ble_eq_true rfl) (Nat.le_of_ble_eq_true rfl) (⟨((pq_Fr.rf.cm hF4 (by decide)).uJ hou_4 (by first | decide | exact List.mem_cons_self)), 0, rfl, (by focus ((try clear hIx); (try clear hIz); (try clear p4); simp only [vp_in_iff, Int32.lt_iff_toInt_lt, Int32.le_iff_toInt_le, ← Int32.toInt_inj, Int32.toInt_add, Int32.toInt_sub, Int32.toInt_mul, Int32.toInt_neg, pq_NuO, pq_NuI, pq_NuJ, pq_NuR, pq_shr6, pq_shr7, pq_shr8, lqm1, lq0, lq1] at *; (try simp (disch := omega) only [pq_bm] at *); all_goals omega)), (by focus ((try clear hIx); (try clear hIz); (try clear p4); simp only [vp_in_iff, Int32.lt_iff_toInt_lt, Int32.le_iff_toInt_le, ← Int32.toInt_inj, Int32.toInt_add, Int32.toInt_sub, Int32.toInt_mul, Int32.toInt_neg, pq_NuO, pq_NuI, pq_NuJ, pq_NuR, pq_shr6, pq_shr7, pq_shr8, lqm1, lq0, lq1] at *; (try simp (disch := omega) only [pq_bm] at *); all_goals omega)), (p4.fr ((pq_Fr.rf (M := [(186, 0)]) (S := S4)).uJ hou_4 (by decide)) (by decide))⟩) dL_empty_23)
  · skip
    refine pq_lconst (v := 1) F dL_empty_10 (by decide) ?_
    refine pq_goto (tgt := 15) F dL_empty_11 (by decide) ?_
    refine pq_last F hou_4 (by decide) (by decide) rfl (fun n1_15 n2_15 => (by focus ((try clear hIx); (try clear hIz); (try clear p4); simp only [vp_in_iff, Int32.lt_iff_toInt_lt, Int32.le_iff_toInt_le, ← Int32.toInt_inj, Int32.toInt_add, Int32.toInt_sub, Int32.toInt_mul, Int32.toInt_neg, pq_NuO, pq_NuI, pq_NuJ, pq_NuR, pq_shr6, pq_shr7, pq_shr8, lqm1, lq0, lq1] at *; (try simp (disch := omega) only [pq_bm] at *); all_goals omega))) dL_empty_15 ?_
    refine pq_goto (tgt := 22) F dL_empty_16 (by decide) ?_
    refine pq_iconst (v := 0) F dL_empty_22 (by decide) ?_
    exact pq_lift (pq_iret F hr hlk hA (Nat.le_of_ble_eq_true rfl) (Nat.le_of_ble_eq_true rfl) (⟨((pq_Fr.rf.cm hF4 (by decide)).uJ hou_4 (by first | decide | exact List.mem_cons_self)), 0, rfl, (by focus ((try clear hIx); (try clear hIz); (try clear p4); simp only [vp_in_iff, Int32.lt_iff_toInt_lt, Int32.le_iff_toInt_le, ← Int32.toInt_inj, Int32.toInt_add, Int32.toInt_sub, Int32.toInt_mul, Int32.toInt_neg, pq_NuO, pq_NuI, pq_NuJ, pq_NuR, pq_shr6, pq_shr7, pq_shr8, lqm1, lq0, lq1] at *; (try simp (disch := omega) only [pq_bm] at *); all_goals omega)), (by focus ((try clear hIx); (try clear hIz); (try clear p4); simp only [vp_in_iff, Int32.lt_iff_toInt_lt, Int32.le_iff_toInt_le, ← Int32.toInt_inj, Int32.toInt_add, Int32.toInt_sub, Int32.toInt_mul, Int32.toInt_neg, pq_NuO, pq_NuI, pq_NuJ, pq_NuR, pq_shr6, pq_shr7, pq_shr8, lqm1, lq0, lq1] at *; (try simp (disch := omega) only [pq_bm] at *); all_goals omega)), (p4.fr ((pq_Fr.rf (M := [(186, 0)]) (S := S4)).uJ hou_4 (by decide)) (by decide))⟩) dL_empty_23)

set_option maxHeartbeats 4000000 in
set_option maxRecDepth 100000 in
theorem k_L_fits (l : Launch) (D : va_G) (cy : Nat → ClassId) (hl0 : l.stackTraces = false) (S : HS) (a : Nat) (ha : pq_R S a 13) (pw : Int32) (ou : Nat) (hou : pq_R S ou 186) (t : Int32) (np nq : Nat) (hIx : pq_Ix S a t np nq) (hol : hN S ou = 1) : pq_CH l D cy yL_fits cL_fits 4 (some .int) [(0, 16, 19, 19)] 7 1 6 S [.ref a, .int pw, .ref ou] (fun v S2 => pq_Fr [(12, 1), (186, 0)] S S2 ∧ ∃ x : Int32, v = some (.int x) ∧ 0 ≤ x.toInt ∧ x.toInt ≤ 1 ∧ (pq_Ix S2 a 0 np nq)) pq_Dn := by
  refine pq_startH (by decide) (Nat.le_of_ble_eq_true rfl) ?_
  intro p e s m args below meth c A F hr hlk hA htb hEx
  have lqm1 : (-1 : Int32).toInt = -1 := rfl
  have lq0 : (0 : Int32).toInt = 0 := rfl
  have lq1 : (1 : Int32).toInt = 1 := rfl
  refine pq_aload_n F dL_fits_0 rfl rfl ?_
  refine pq_iconst (v := 0) F dL_fits_1 (by decide) ?_
  refine pq_aload_n F dL_fits_2 rfl rfl ?_
  refine pq_iload_n F dL_fits_3 rfl rfl ?_
  refine pq_callVX (As := [_]) F hEx (k_X10_fits l D cy hl0 _ _ ?_ _ t np nq hIx) ml_L_30 (pq_gt5 (i := 114) rfl rfl) ha (by decide) rfl (Nat.le_of_ble_eq_true rfl) ⟨Nat.le_of_ble_eq_true rfl, Nat.le_of_ble_eq_true rfl⟩ ⟨Nat.le_of_ble_eq_true rfl, Nat.le_of_ble_eq_true rfl⟩ dL_fits_4 (fun E4 T4 q4 xw4 => ?_) (fun v4 S4 w4 => ?_)
  · exact ha
  · skip
    obtain ⟨rfl, hFx, hIz⟩ := xw4
    refine ⟨19, (pq_Hd1 (st := 0) (en := 16) (ct := 19) htb (by decide) (by decide) (F.2.2.2.2.1 _ cl_L_19) (pq_wN' F.2.2.2.2.2.2.2.1 pq_cw19)), ?_⟩
    refine pq_astore_n F dL_fits_19 rfl (by decide) ?_
    refine pq_iconst (v := 1) F dL_fits_20 (by decide) ?_
    exact pq_lift (pq_iret F hr hlk hA (Nat.le_of_ble_eq_true rfl) (Nat.le_of_ble_eq_true rfl) (⟨(hFx.mono (by decide)), 1, rfl, (by focus ((try clear hIx); (try clear hIz); (try clear p4); simp only [vp_in_iff, Int32.lt_iff_toInt_lt, Int32.le_iff_toInt_le, ← Int32.toInt_inj, Int32.toInt_add, Int32.toInt_sub, Int32.toInt_mul, Int32.toInt_neg, pq_NuO, pq_NuI, pq_NuJ, pq_NuR, pq_shr6, pq_shr7, pq_shr8, lqm1, lq0, lq1] at *; (try simp (disch := omega) only [pq_bm] at *); all_goals omega)), (by focus ((try clear hIx); (try clear hIz); (try clear p4); simp only [vp_in_iff, Int32.lt_iff_toInt_lt, Int32.le_iff_toInt_le, ← Int32.toInt_inj, Int32.toInt_add, Int32.toInt_sub, Int32.toInt_mul, Int32.toInt_neg, pq_NuO, pq_NuI, pq_NuJ, pq_NuR, pq_shr6, pq_shr7, pq_shr8, lqm1, lq0, lq1] at *; (try simp (disch := omega) only [pq_bm] at *); all_goals omega)), hIz⟩) dL_fits_21)
  obtain ⟨hF4, y4, rfl, yl4_0, yl4_1, p4⟩ := w4
  have ha_4 := (hF4.1 _ _ ha (by decide)).1
  have hou_4 := (hF4.1 _ _ hou (by decide)).1
  have hol2 : hN S4 ou = 1 := ((hF4.1 ou 186 hou (by decide)).2).trans hol
  refine pq_if_eq (tgt := 14) F dL_fits_7 (by decide) (fun c7 => ?_) (fun c7 => ?_)
  · skip
    refine pq_lconst (v := 0) F dL_fits_14 (by decide) ?_
    refine pq_last F hou_4 (by decide) (by decide) rfl (fun n1_15 n2_15 => (by focus ((try clear hIx); (try clear hIz); (try clear p4); simp only [vp_in_iff, Int32.lt_iff_toInt_lt, Int32.le_iff_toInt_le, ← Int32.toInt_inj, Int32.toInt_add, Int32.toInt_sub, Int32.toInt_mul, Int32.toInt_neg, pq_NuO, pq_NuI, pq_NuJ, pq_NuR, pq_shr6, pq_shr7, pq_shr8, lqm1, lq0, lq1] at *; (try simp (disch := omega) only [pq_bm] at *); all_goals omega))) dL_fits_15 ?_
    refine pq_goto (tgt := 22) F dL_fits_16 (by decide) ?_
    refine pq_iconst (v := 0) F dL_fits_22 (by decide) ?_
    exact pq_lift (pq_iret F hr hlk hA (Nat.le_of_ble_eq_true rfl) (Nat.le_of_ble_eq_true rfl) (⟨((pq_Fr.rf.cm hF4 (by decide)).uJ hou_4 (by first | decide | exact List.mem_cons_self)), 0, rfl, (by focus ((try clear hIx); (try clear hIz); (try clear p4); simp only [vp_in_iff, Int32.lt_iff_toInt_lt, Int32.le_iff_toInt_le, ← Int32.toInt_inj, Int32.toInt_add, Int32.toInt_sub, Int32.toInt_mul, Int32.toInt_neg, pq_NuO, pq_NuI, pq_NuJ, pq_NuR, pq_shr6, pq_shr7, pq_shr8, lqm1, lq0, lq1] at *; (try simp (disch := omega) only [pq_bm] at *); all_goals omega)), (by focus ((try clear hIx); (try clear hIz); (try clear p4); simp only [vp_in_iff, Int32.lt_iff_toInt_lt, Int32.le_iff_toInt_le, ← Int32.toInt_inj, Int32.toInt_add, Int32.toInt_sub, Int32.toInt_mul, Int32.toInt_neg, pq_NuO, pq_NuI, pq_NuJ, pq_NuR, pq_shr6, pq_shr7, pq_shr8, lqm1, lq0, lq1] at *; (try simp (disch := omega) only [pq_bm] at *); all_goals omega)), (p4.fr ((pq_Fr.rf (M := [(186, 0)]) (S := S4)).uJ hou_4 (by decide)) (by decide))⟩) dL_fits_23)
  · skip
    refine pq_lconst (v := 1) F dL_fits_10 (by decide) ?_
    refine pq_goto (tgt := 15) F dL_fits_11 (by decide) ?_
    refine pq_last F hou_4 (by decide) (by decide) rfl (fun n1_15 n2_15 => (by focus ((try clear hIx); (try clear hIz); (try clear p4); simp only [vp_in_iff, Int32.lt_iff_toInt_lt, Int32.le_iff_toInt_le, ← Int32.toInt_inj, Int32.toInt_add, Int32.toInt_sub, Int32.toInt_mul, Int32.toInt_neg, pq_NuO, pq_NuI, pq_NuJ, pq_NuR, pq_shr6, pq_shr7, pq_shr8, lqm1, lq0, lq1] at *; (try simp (disch := omega) only [pq_bm] at *); all_goals omega))) dL_fits_15 ?_
    refine pq_goto (tgt := 22) F dL_fits_16 (by decide) ?_
    refine pq_iconst (v := 0) F dL_fits_22 (by decide) ?_
    exact pq_lift (pq_iret F hr hlk hA (Nat.le_of_ble_eq_true rfl) (Nat.le_of_ble_eq_true rfl) (⟨((pq_Fr.rf.cm hF4 (by decide)).uJ hou_4 (by first | decide | exact List.mem_cons_self)), 0, rfl, (by focus ((try clear hIx); (try clear hIz); (try clear p4); simp only [vp_in_iff, Int32.lt_iff_toInt_lt, Int32.le_iff_toInt_le, ← Int32.toInt_inj, Int32.toInt_add, Int32.toInt_sub, Int32.toInt_mul, Int32.toInt_neg, pq_NuO, pq_NuI, pq_NuJ, pq_NuR, pq_shr6, pq_shr7, pq_shr8, lqm1, lq0, lq1] at *; (try simp (disch := omega) only [pq_bm] at *); all_goals omega)), (by focus ((try clear hIx); (try clear hIz); (try clear p4); simp only [vp_in_iff, Int32.lt_iff_toInt_lt, Int32.le_iff_toInt_le, ← Int32.toInt_inj, Int32.toInt_add, Int32.toInt_sub, Int32.toInt_mul, Int32.toInt_neg, pq_NuO, pq_NuI, pq_NuJ, pq_NuR, pq_shr6, pq_shr7, pq_shr8, lqm1, lq0, lq1] at *; (try simp (disch := omega) only [pq_bm] at *); all_goals omega)), (p4.fr ((pq_Fr.rf (M := [(186, 0)]) (S := S4)).uJ hou_4 (by decide)) (by decide))⟩) dL_fits_23)

set_option maxHeartbeats 4000000 in
set_option maxRecDepth 100000 in
theorem k_L_count (l : Launch) (D : va_G) (cy : Nat → ClassId) (hl0 : l.stackTraces = false) (S : HS) (a : Nat) (ha : pq_R S a 13) (pw : Int32) (pn : Int32) (ou : Nat) (hou : pq_R S ou 186) (t : Int32) (np nq : Nat) (hIx : pq_Ix S a t np nq) (hol : hN S ou = 1) : pq_CH l D cy yL_count cL_count 5 (some .int) [(0, 9, 12, 19)] 7 1 6 S [.ref a, .int pw, .int pn, .ref ou] (fun v S2 => pq_Fr [(189, 0), (4, 0), (4, 1), (186, 0)] S S2 ∧ ∃ x : Int32, v = some (.int x) ∧ 0 ≤ x.toInt ∧ x.toInt ≤ 1 ∧ (pq_Ix S2 a t np nq)) pq_Dn := by
  refine pq_startH (by decide) (Nat.le_of_ble_eq_true rfl) ?_
  intro p e s m args below meth c A F hr hlk hA htb hEx
  have lqm1 : (-1 : Int32).toInt = -1 := rfl
  have lq0 : (0 : Int32).toInt = 0 := rfl
  have lq1 : (1 : Int32).toInt = 1 := rfl
  refine pq_aload_n F dL_count_0 rfl rfl ?_
  refine pq_iconst (v := 0) F dL_count_1 (by decide) ?_
  refine pq_aload_n F dL_count_2 rfl rfl ?_
  refine pq_iload_n F dL_count_3 rfl rfl ?_
  refine pq_iload_n F dL_count_4 rfl rfl ?_
  refine pq_callVX (As := [_, _]) F hEx (k_X10_count l D cy hl0 _ _ ?_ _ _ t np nq hIx) ml_L_41 (pq_gt5 (i := 191) rfl rfl) ha (by decide) rfl (Nat.le_of_ble_eq_true rfl) ⟨Nat.le_of_ble_eq_true rfl, Nat.le_of_ble_eq_true rfl⟩ ⟨Nat.le_of_ble_eq_true rfl, Nat.le_of_ble_eq_true rfl⟩ dL_count_5 (fun E5 T5 q5 xw5 => ?_) (fun v5 S5 w5 => ?_)
  · exact ha
  · skip
    obtain ⟨rfl, hFx, hIz⟩ := xw5
    refine ⟨12, (pq_Hd1 (st := 0) (en := 9) (ct := 19) htb (by decide) (by decide) (F.2.2.2.2.1 _ cl_L_19) (pq_wN' F.2.2.2.2.2.2.2.1 pq_cw19)), ?_⟩
    refine pq_astore F dL_count_12 (by decide) ?_
    refine pq_iconst (v := 1) F dL_count_14 (by decide) ?_
    exact pq_lift (pq_iret F hr hlk hA (Nat.le_of_ble_eq_true rfl) (Nat.le_of_ble_eq_true rfl) (⟨(hFx.mono (by decide)), 1, rfl, (by focus ((try clear hIx); (try clear hIz); (try clear p5); simp only [vp_in_iff, Int32.lt_iff_toInt_lt, Int32.le_iff_toInt_le, ← Int32.toInt_inj, Int32.toInt_add, Int32.toInt_sub, Int32.toInt_mul, Int32.toInt_neg, pq_NuO, pq_NuI, pq_NuJ, pq_NuR, pq_shr6, pq_shr7, pq_shr8, lqm1, lq0, lq1] at *; (try simp (disch := omega) only [pq_bm] at *); all_goals omega)), (by focus ((try clear hIx); (try clear hIz); (try clear p5); simp only [vp_in_iff, Int32.lt_iff_toInt_lt, Int32.le_iff_toInt_le, ← Int32.toInt_inj, Int32.toInt_add, Int32.toInt_sub, Int32.toInt_mul, Int32.toInt_neg, pq_NuO, pq_NuI, pq_NuJ, pq_NuR, pq_shr6, pq_shr7, pq_shr8, lqm1, lq0, lq1] at *; (try simp (disch := omega) only [pq_bm] at *); all_goals omega)), hIz⟩) dL_count_15)
  obtain ⟨hF5, y5, rfl, p5⟩ := w5
  have ha_5 := (hF5.1 _ _ ha (by decide)).1
  have hou_5 := (hF5.1 _ _ hou (by decide)).1
  have hol2 : hN S5 ou = 1 := ((hF5.1 ou 186 hou (by decide)).2).trans hol
  refine pq_last F hou_5 (by decide) (by decide) rfl (fun n1_8 n2_8 => (by focus ((try clear hIx); (try clear hIz); (try clear p5); simp only [vp_in_iff, Int32.lt_iff_toInt_lt, Int32.le_iff_toInt_le, ← Int32.toInt_inj, Int32.toInt_add, Int32.toInt_sub, Int32.toInt_mul, Int32.toInt_neg, pq_NuO, pq_NuI, pq_NuJ, pq_NuR, pq_shr6, pq_shr7, pq_shr8, lqm1, lq0, lq1] at *; (try simp (disch := omega) only [pq_bm] at *); all_goals omega))) dL_count_8 ?_
  refine pq_goto (tgt := 16) F dL_count_9 (by decide) ?_
  refine pq_iconst (v := 0) F dL_count_16 (by decide) ?_
  exact pq_lift (pq_iret F hr hlk hA (Nat.le_of_ble_eq_true rfl) (Nat.le_of_ble_eq_true rfl) (⟨((pq_Fr.rf.cm hF5 (by decide)).uJ hou_5 (by first | decide | exact List.mem_cons_self)), 0, rfl, (by focus ((try clear hIx); (try clear hIz); (try clear p5); simp only [vp_in_iff, Int32.lt_iff_toInt_lt, Int32.le_iff_toInt_le, ← Int32.toInt_inj, Int32.toInt_add, Int32.toInt_sub, Int32.toInt_mul, Int32.toInt_neg, pq_NuO, pq_NuI, pq_NuJ, pq_NuR, pq_shr6, pq_shr7, pq_shr8, lqm1, lq0, lq1] at *; (try simp (disch := omega) only [pq_bm] at *); all_goals omega)), (by focus ((try clear hIx); (try clear hIz); (try clear p5); simp only [vp_in_iff, Int32.lt_iff_toInt_lt, Int32.le_iff_toInt_le, ← Int32.toInt_inj, Int32.toInt_add, Int32.toInt_sub, Int32.toInt_mul, Int32.toInt_neg, pq_NuO, pq_NuI, pq_NuJ, pq_NuR, pq_shr6, pq_shr7, pq_shr8, lqm1, lq0, lq1] at *; (try simp (disch := omega) only [pq_bm] at *); all_goals omega)), (p5.fr ((pq_Fr.rf (M := [(186, 0)]) (S := S5)).uJ hou_5 (by decide)) (by decide))⟩) dL_count_17)

