/-- one handler, for the exception's own class -/
theorem pq_Hd1 {s : State} {args : Array Value} {own E : String} {c : Code} {pc hpc st en ct : Nat} (htb : c.exceptionTable.toList = tableOf [(st, en, hpc, ct)]) (h1 : covers ⟨st, en, hpc, ct⟩ pc = true) (hct : ct ≠ 0) (hl : (Cond.classLink own ct E).before args s = true) (hc : (Cond.castable E E).before args s = true) : pq_Hd s args own c.exceptionTable.toList pc E hpc := ⟨[], ⟨st, en, hpc, ct⟩, [], E, htb, fun z hz => absurd hz List.not_mem_nil, h1, hct, hl, hc, rfl⟩
theorem pq_cw13 : Cond.castable "java/lang/IndexOutOfBoundsException" "java/lang/IndexOutOfBoundsException" ∈ ntb := (pq_nt2 (i := 140) rfl rfl)
theorem pq_cw19 : Cond.castable "java/lang/IllegalArgumentException" "java/lang/IllegalArgumentException" ∈ ntb := (pq_nt2 (i := 221) rfl rfl)
theorem pq_cw24 : Cond.castable "java/lang/UnsupportedOperationException" "java/lang/UnsupportedOperationException" ∈ ntb := (pq_nt4 (i := 223) rfl rfl)
def pq_Ixl : List (Nat × Nat) := [(13, 0), (13, 1), (13, 2), (13, 3), (13, 4), (13, 5), (13, 6), (13, 7), (9, 0), (9, 1), (11, 0), (7, 0), (220, 0), (12, 1), (3, 0), (3, 3), (3, 4), (3, 5), (3, 6), (150, 0), (152, 0), (33, 0), (33, 3), (33, 4), (33, 5), (33, 6), (153, 0), (155, 0), (10, 2), (10, 3), (10, 4), (10, 6), (10, 7)]
theorem pq_Ix.fr {S S1 : HS} {x : Nat} {t : Int32} {np nq : Nat} {M : List (Nat × Nat)} (h : pq_Ix S x t np nq) (hF : pq_Fr M S S1) (hM : ∀ q ∈ M, q ∉ pq_Ixl) : pq_Ix S1 x t np nq := by
  obtain ⟨tp, pl, rd, wk, mg, pt, ct, sr, A, B, hf, et, ht, ia, ib, is⟩ := h
  have hf2 := hf
  obtain ⟨-, ⟨b0, b1, b2, b3, b4, b5, b6, b7, b8⟩, -, ⟨d0, d1, d2, d3⟩⟩ := hf2
  exact ⟨tp, pl, rd, wk, mg, pt, ct, sr, A, B, hf.fr hF (fun q hq h => hM q hq ((by decide : ∀ q ∈ pq_Ifl, q ∈ pq_Ixl) q h)), hF.O b1 (by decide) (fun h => hM _ h (by decide)) et, ht,
    ia.fr d2 (by decide) (by decide) (by decide) hF (fun q hq h => hM q hq ((by decide : ∀ q ∈ ([(3, 0), (3, 3), (3, 4), (3, 5), (3, 6), (150, 0), (152, 0)] : List (Nat × Nat)), q ∈ pq_Ixl) q h)),
    ib.fr d3 (by decide) (by decide) (by decide) hF (fun q hq h => hM q hq ((by decide : ∀ q ∈ ([(33, 0), (33, 3), (33, 4), (33, 5), (33, 6), (153, 0), (155, 0)] : List (Nat × Nat)), q ∈ pq_Ixl) q h)),
    is.fr b8 hF (fun q hq h => hM q hq ((by decide : ∀ q ∈ ([(10, 2), (10, 3), (10, 4), (10, 6), (10, 7)] : List (Nat × Nat)), q ∈ pq_Ixl) q h))⟩
theorem pq_ul {f : Nat → Int64} {i : Nat} {x : Int64} : vp_updL f i x i = x := by simp [vp_updL]
set_option maxHeartbeats 4000000 in
set_option maxRecDepth 100000 in
theorem k_L_feed (l : Launch) (D : va_G) (cy : Nat → ClassId) (hl0 : l.stackTraces = false) (S : HS) (a : Nat) (ha : pq_R S a 13) (pa : Int32) (pb : Int32) (pc : Int32) (pd : Int32) (pe : Int32) (ou : Nat) (hou : pq_R S ou 186) (t : Int32) (np nq : Nat) (hIx : pq_Ix S a t np nq) (hol : hN S ou = 1) : pq_CH l D cy yL_feed cL_feed 8 (some .int) [(0, 16, 19, 13)] 7 1 6 S [.ref a, .int pa, .int pb, .int pc, .int pd, .int pe, .ref ou] (fun v S2 => pq_Fr [(12, 1), (104, 0), (186, 0)] S S2 ∧ ∃ x : Int32, v = some (.int x) ∧ 0 ≤ x.toInt ∧ x.toInt ≤ 1 ∧ ((x = 0 ∧ t.toInt ≤ 2028 ∧ ∃ y : Int32, hJ S2 ou 0 = y.toInt64 ∧ y.toInt = t.toInt + 20 ∧ pq_Ix S2 a y np nq) ∨ (x = 1 ∧ 2028 < t.toInt ∧ pq_Ix S2 a t np nq))) pq_Dn := by
  refine pq_startH (by decide) (Nat.le_of_ble_eq_true rfl) ?_
  intro p e s m args below meth c A F hr hlk hA htb hEx
  have lqm1 : (-1 : Int32).toInt = -1 := rfl
  have lq0 : (0 : Int32).toInt = 0 := rfl
  have lq1 : (1 : Int32).toInt = 1 := rfl
  refine pq_aload F dL_feed_0 rfl ?_
  refine pq_iconst (v := 0) F dL_feed_2 (by decide) ?_
  refine pq_aload_n F dL_feed_3 rfl rfl ?_
  refine pq_iload_n F dL_feed_4 rfl rfl ?_
  refine pq_iload_n F dL_feed_5 rfl rfl ?_
  refine pq_iload_n F dL_feed_6 rfl rfl ?_
  refine pq_iload F dL_feed_7 rfl ?_
  refine pq_iload F dL_feed_9 rfl ?_
  refine pq_callVX (As := [_, _, _, _, _]) F hEx (k_X10_feed l D cy hl0 _ _ ?_ _ _ _ _ _ t np nq hIx) ml_L_7 (pq_gt2 (i := 134) rfl rfl) ha (by decide) rfl (Nat.le_of_ble_eq_true rfl) ⟨Nat.le_of_ble_eq_true rfl, Nat.le_of_ble_eq_true rfl⟩ ⟨Nat.le_of_ble_eq_true rfl, Nat.le_of_ble_eq_true rfl⟩ dL_feed_11 (fun E11 T11 q11 xw11 => ?_) (fun v11 S11 w11 => ?_)
  · exact ha
  · skip
    obtain ⟨rfl, hx1, hFx, hIz⟩ := xw11
    refine ⟨19, (pq_Hd1 (st := 0) (en := 16) (ct := 13) htb (by decide) (by decide) (F.2.2.2.2.1 _ cl_L_13) (pq_wN' F.2.2.2.2.2.2.2.1 pq_cw13)), ?_⟩
    refine pq_astore F dL_feed_19 (by decide) ?_
    refine pq_iconst (v := 1) F dL_feed_21 (by decide) ?_
    exact pq_lift (pq_iret F hr hlk hA (Nat.le_of_ble_eq_true rfl) (Nat.le_of_ble_eq_true rfl) (⟨(hFx.mono (by decide)), 1, rfl, (by focus ((try clear hIx); (try clear hIz); (try clear p11); simp only [vp_in_iff, Int32.lt_iff_toInt_lt, Int32.le_iff_toInt_le, ← Int32.toInt_inj, Int32.toInt_add, Int32.toInt_sub, Int32.toInt_mul, Int32.toInt_neg, pq_NuO, pq_NuI, pq_NuJ, pq_NuR, pq_shr6, pq_shr7, pq_shr8, lqm1, lq0, lq1] at *; (try simp (disch := omega) only [pq_bm] at *); all_goals omega)), (by focus ((try clear hIx); (try clear hIz); (try clear p11); simp only [vp_in_iff, Int32.lt_iff_toInt_lt, Int32.le_iff_toInt_le, ← Int32.toInt_inj, Int32.toInt_add, Int32.toInt_sub, Int32.toInt_mul, Int32.toInt_neg, pq_NuO, pq_NuI, pq_NuJ, pq_NuR, pq_shr6, pq_shr7, pq_shr8, lqm1, lq0, lq1] at *; (try simp (disch := omega) only [pq_bm] at *); all_goals omega)), Or.inr ⟨rfl, hx1, hIz⟩⟩) dL_feed_22)
  obtain ⟨hF11, y11, rfl, p11⟩ := w11
  have ha_11 := (hF11.1 _ _ ha (by decide)).1
  have hou_11 := (hF11.1 _ _ hou (by decide)).1
  have hol2 : hN S11 ou = 1 := ((hF11.1 ou 186 hou (by decide)).2).trans hol
  refine pq_i2l F dL_feed_14 ?_
  refine pq_last F hou_11 (by decide) (by decide) rfl (fun n1_15 n2_15 => (by focus ((try clear hIx); (try clear hIz); (try clear p11); simp only [vp_in_iff, Int32.lt_iff_toInt_lt, Int32.le_iff_toInt_le, ← Int32.toInt_inj, Int32.toInt_add, Int32.toInt_sub, Int32.toInt_mul, Int32.toInt_neg, pq_NuO, pq_NuI, pq_NuJ, pq_NuR, pq_shr6, pq_shr7, pq_shr8, lqm1, lq0, lq1] at *; (try simp (disch := omega) only [pq_bm] at *); all_goals omega))) dL_feed_15 ?_
  refine pq_goto (tgt := 23) F dL_feed_16 (by decide) ?_
  refine pq_iconst (v := 0) F dL_feed_23 (by decide) ?_
  exact pq_lift (pq_iret F hr hlk hA (Nat.le_of_ble_eq_true rfl) (Nat.le_of_ble_eq_true rfl) (⟨((pq_Fr.rf.cm hF11 (by decide)).uJ hou_11 (by first | decide | exact List.mem_cons_self)), 0, rfl, (by focus ((try clear hIx); (try clear hIz); (try clear p11); simp only [vp_in_iff, Int32.lt_iff_toInt_lt, Int32.le_iff_toInt_le, ← Int32.toInt_inj, Int32.toInt_add, Int32.toInt_sub, Int32.toInt_mul, Int32.toInt_neg, pq_NuO, pq_NuI, pq_NuJ, pq_NuR, pq_shr6, pq_shr7, pq_shr8, lqm1, lq0, lq1] at *; (try simp (disch := omega) only [pq_bm] at *); all_goals omega)), (by focus ((try clear hIx); (try clear hIz); (try clear p11); simp only [vp_in_iff, Int32.lt_iff_toInt_lt, Int32.le_iff_toInt_le, ← Int32.toInt_inj, Int32.toInt_add, Int32.toInt_sub, Int32.toInt_mul, Int32.toInt_neg, pq_NuO, pq_NuI, pq_NuJ, pq_NuR, pq_shr6, pq_shr7, pq_shr8, lqm1, lq0, lq1] at *; (try simp (disch := omega) only [pq_bm] at *); all_goals omega)), Or.inl ⟨rfl, p11.1, y11, (by show hJ (pq_uJ S11 ou _) ou 0 = _; rw [pq_Ju, if_pos rfl]; exact pq_ul), p11.2.1, (p11.2.2.fr ((pq_Fr.rf (M := [(186, 0)]) (S := S11)).uJ hou_11 (by decide)) (by decide))⟩⟩) dL_feed_24)

set_option maxHeartbeats 4000000 in
set_option maxRecDepth 100000 in
theorem k_L_end (l : Launch) (D : va_G) (cy : Nat → ClassId) (hl0 : l.stackTraces = false) (S : HS) (a : Nat) (ha : pq_R S a 13) (pn : Int32) (ou : Nat) (hou : pq_R S ou 186) (t : Int32) (np nq : Nat) (hIx : pq_Ix S a t np nq) (hol : hN S ou = 1) : pq_CH l D cy yL_end cL_end 4 (some .int) [(0, 9, 12, 19)] 7 1 6 S [.ref a, .int pn, .ref ou] (fun v S2 => pq_Fr [(12, 1), (186, 0)] S S2 ∧ ∃ x : Int32, v = some (.int x) ∧ 0 ≤ x.toInt ∧ x.toInt ≤ 1 ∧ ((x = 0 ∧ (0 ≤ pn.toInt ∧ pn.toInt ≤ t.toInt) ∧ pq_Ix S2 a pn np nq) ∨ (x = 1 ∧ ¬ (0 ≤ pn.toInt ∧ pn.toInt ≤ t.toInt) ∧ pq_Ix S2 a t np nq))) pq_Dn := by
  refine pq_startH (by decide) (Nat.le_of_ble_eq_true rfl) ?_
  intro p e s m args below meth c A F hr hlk hA htb hEx
  have lqm1 : (-1 : Int32).toInt = -1 := rfl
  have lq0 : (0 : Int32).toInt = 0 := rfl
  have lq1 : (1 : Int32).toInt = 1 := rfl
  refine pq_aload_n F dL_end_0 rfl rfl ?_
  refine pq_iconst (v := 0) F dL_end_1 (by decide) ?_
  refine pq_aload_n F dL_end_2 rfl rfl ?_
  refine pq_iload_n F dL_end_3 rfl rfl ?_
  refine pq_callVX (As := [_]) F hEx (k_X10_end l D cy hl0 _ _ ?_ _ t np nq hIx) ml_L_15 (pq_gt2 (i := 215) rfl rfl) ha (by decide) rfl (Nat.le_of_ble_eq_true rfl) ⟨Nat.le_of_ble_eq_true rfl, Nat.le_of_ble_eq_true rfl⟩ ⟨Nat.le_of_ble_eq_true rfl, Nat.le_of_ble_eq_true rfl⟩ dL_end_4 (fun E4 T4 q4 xw4 => ?_) (fun v4 S4 w4 => ?_)
  · exact ha
  · skip
    obtain ⟨rfl, hx1, hFx, hIz⟩ := xw4
    refine ⟨12, (pq_Hd1 (st := 0) (en := 9) (ct := 19) htb (by decide) (by decide) (F.2.2.2.2.1 _ cl_L_19) (pq_wN' F.2.2.2.2.2.2.2.1 pq_cw19)), ?_⟩
    refine pq_astore_n F dL_end_12 rfl (by decide) ?_
    refine pq_iconst (v := 1) F dL_end_13 (by decide) ?_
    exact pq_lift (pq_iret F hr hlk hA (Nat.le_of_ble_eq_true rfl) (Nat.le_of_ble_eq_true rfl) (⟨(hFx.mono (by decide)), 1, rfl, (by focus ((try clear hIx); (try clear hIz); (try clear p4); simp only [vp_in_iff, Int32.lt_iff_toInt_lt, Int32.le_iff_toInt_le, ← Int32.toInt_inj, Int32.toInt_add, Int32.toInt_sub, Int32.toInt_mul, Int32.toInt_neg, pq_NuO, pq_NuI, pq_NuJ, pq_NuR, pq_shr6, pq_shr7, pq_shr8, lqm1, lq0, lq1] at *; (try simp (disch := omega) only [pq_bm] at *); all_goals omega)), (by focus ((try clear hIx); (try clear hIz); (try clear p4); simp only [vp_in_iff, Int32.lt_iff_toInt_lt, Int32.le_iff_toInt_le, ← Int32.toInt_inj, Int32.toInt_add, Int32.toInt_sub, Int32.toInt_mul, Int32.toInt_neg, pq_NuO, pq_NuI, pq_NuJ, pq_NuR, pq_shr6, pq_shr7, pq_shr8, lqm1, lq0, lq1] at *; (try simp (disch := omega) only [pq_bm] at *); all_goals omega)), Or.inr ⟨rfl, hx1, hIz⟩⟩) dL_end_14)
  obtain ⟨hF4, y4, rfl, p4⟩ := w4
  have ha_4 := (hF4.1 _ _ ha (by decide)).1
  have hou_4 := (hF4.1 _ _ hou (by decide)).1
  have hol2 : hN S4 ou = 1 := ((hF4.1 ou 186 hou (by decide)).2).trans hol
  refine pq_i2l F dL_end_7 ?_
  refine pq_last F hou_4 (by decide) (by decide) rfl (fun n1_8 n2_8 => (by focus ((try clear hIx); (try clear hIz); (try clear p4); simp only [vp_in_iff, Int32.lt_iff_toInt_lt, Int32.le_iff_toInt_le, ← Int32.toInt_inj, Int32.toInt_add, Int32.toInt_sub, Int32.toInt_mul, Int32.toInt_neg, pq_NuO, pq_NuI, pq_NuJ, pq_NuR, pq_shr6, pq_shr7, pq_shr8, lqm1, lq0, lq1] at *; (try simp (disch := omega) only [pq_bm] at *); all_goals omega))) dL_end_8 ?_
  refine pq_goto (tgt := 15) F dL_end_9 (by decide) ?_
  refine pq_iconst (v := 0) F dL_end_15 (by decide) ?_
  exact pq_lift (pq_iret F hr hlk hA (Nat.le_of_ble_eq_true rfl) (Nat.le_of_ble_eq_true rfl) (⟨((pq_Fr.rf.cm hF4 (by decide)).uJ hou_4 (by first | decide | exact List.mem_cons_self)), 0, rfl, (by focus ((try clear hIx); (try clear hIz); (try clear p4); simp only [vp_in_iff, Int32.lt_iff_toInt_lt, Int32.le_iff_toInt_le, ← Int32.toInt_inj, Int32.toInt_add, Int32.toInt_sub, Int32.toInt_mul, Int32.toInt_neg, pq_NuO, pq_NuI, pq_NuJ, pq_NuR, pq_shr6, pq_shr7, pq_shr8, lqm1, lq0, lq1] at *; (try simp (disch := omega) only [pq_bm] at *); all_goals omega)), (by focus ((try clear hIx); (try clear hIz); (try clear p4); simp only [vp_in_iff, Int32.lt_iff_toInt_lt, Int32.le_iff_toInt_le, ← Int32.toInt_inj, Int32.toInt_add, Int32.toInt_sub, Int32.toInt_mul, Int32.toInt_neg, pq_NuO, pq_NuI, pq_NuJ, pq_NuR, pq_shr6, pq_shr7, pq_shr8, lqm1, lq0, lq1] at *; (try simp (disch := omega) only [pq_bm] at *); all_goals omega)), Or.inl ⟨rfl, p4.1, (p4.2.2.fr ((pq_Fr.rf (M := [(186, 0)]) (S := S4)).uJ hou_4 (by decide)) (by decide))⟩⟩) dL_end_16)

set_option maxHeartbeats 4000000 in
set_option maxRecDepth 100000 in
theorem k_L_empty (l : Launch) (D : va_G) (cy : Nat → ClassId) (hl0 : l.stackTraces = false) (S : HS) (a : Nat) (ha : pq_R S a 13) (pw : Int32) (ou : Nat) (hou : pq_R S ou 186) (t : Int32) (np nq : Nat) (hIx : pq_Ix S a t np nq) (hol : hN S ou = 1) : pq_CH l D cy yL_empty cL_empty 4 (some .int) [(0, 16, 19, 19)] 7 1 6 S [.ref a, .int pw, .ref ou] (fun v S2 => pq_Fr [(186, 0)] S S2 ∧ ∃ x : Int32, v = some (.int x) ∧ 0 ≤ x.toInt ∧ x.toInt ≤ 1 ∧ (pq_Ix S2 a t np nq)) pq_Dn := by
  refine pq_startH (by decide) (Nat.le_of_ble_eq_true rfl) ?_
  intro p e s m args below meth c A F hr hlk hA htb hEx
  have lqm1 : (-1 : Int32).toInt = -1 := rfl
  have lq0 : (0 : Int32).toInt = 0 := rfl
  have lq1 : (1 : Int32).toInt = 1 := rfl
  refine pq_aload_n F dL_empty_0 rfl rfl ?_
  refine pq_iconst (v := 0) F dL_empty_1 (by decide) ?_
  refine pq_aload_n F dL_empty_2 rfl rfl ?_
  refine pq_iload_n F dL_empty_3 rfl rfl ?_
  refine pq_callVX (As := [_]) F hEx (k_X10_empty l D cy hl0 _ _ ?_ _ t np nq hIx) ml_L_26 (pq_gt5 (i := 107) rfl rfl) ha (by decide) rfl (Nat.le_of_ble_eq_true rfl) ⟨Nat.le_of_ble_eq_true rfl, Nat.le_of_ble_eq_true rfl⟩ ⟨Nat.le_of_ble_eq_true rfl, Nat.le_of_ble_eq_true rfl⟩ dL_empty_4 (fun E4 T4 q4 xw4 => ?_) (fun v4 S4 w4 => ?_)
  · exact ha
  · skip
    obtain ⟨rfl, hFx, hIz⟩ := xw4
    refine ⟨19, (pq_Hd1 (st := 0) (en := 16) (ct := 19) htb (by decide) (by decide) (F.2.2.2.2.1 _ cl_L_19) (pq_wN' F.2.2.2.2.2.2.2.1 pq_cw19)), ?_⟩
    refine pq_astore_n F dL_empty_19 rfl (by decide) ?_
    refine pq_iconst (v := 1) F dL_empty_20 (by decide) ?_
    exact pq_lift (pq_iret F hr hlk hA (Nat.le_of_ble_eq_true rfl) (Nat.le_of_ble_eq_true rfl) (⟨(hFx.mono (by decide)), 1, rfl, (by focus ((try clear hIx); (try clear hIz); (try clear p4); simp only [vp_in_iff, Int32.lt_iff_toInt_lt, Int32.le_iff_toInt_le, ← Int32.toInt_inj, Int32.toInt_add, Int32.toInt_sub, Int32.toInt_mul, Int32.toInt_neg, pq_NuO, pq_NuI, pq_NuJ, pq_NuR, pq_shr6, pq_shr7, pq_shr8, lqm1, lq0, lq1] at *; (try simp (disch := omega) only [pq_bm] at *); all_goals omega)), (by focus ((try clear hIx); (try clear hIz); (try clear p4); simp only [vp_in_iff, Int32.lt_iff_toInt_lt, Int32.le_iff_toInt_le, ← Int32.toInt_inj, Int32.toInt_add, Int32.toInt_sub, Int32.toInt_mul, Int32.toInt_neg, pq_NuO, pq_NuI, pq_NuJ, pq_NuR, pq_shr6, pq_shr7, pq_shr8, lqm1, lq0, lq1] at *; (try simp (disch := omega) only [pq_bm] at *); all_goals omega)), hIz⟩) dL_empty_21)
  obtain ⟨hF4, y4, rfl, yl4_0, yl4_1, p4⟩ := w4
  have ha_4 := (hF4.1 _ _ ha (by decide)).1
  have hou_4 := (hF4.1 _ _ hou (by decide)).1
  have hol2 : hN S4 ou = 1 := ((hF4.1 ou 186 hou (by decide)).2).trans hol
  refine pq_if_eq (tgt := 14) F dL_empty_7 (by decide) (fun c7 => ?_) (fun c7 => ?_)
  · skip
    refine pq_lconst (v := 0) F dL_empty_14 (by decide) ?_
    refine pq_last F hou_4 (by decide) (by decide) rfl (fun n1_15 n2_15 => (by focus ((try clear hIx); (try clear hIz); (try clear p4); simp only [vp_in_iff, Int32.lt_iff_toInt_lt, Int32.le_iff_toInt_le, ← Int32.toInt_inj, Int32.toInt_add, Int32.toInt_sub, Int32.toInt_mul, Int32.toInt_neg, pq_NuO, pq_NuI, pq_NuJ, pq_NuR, pq_shr6, pq_shr7, pq_shr8, lqm1, lq0, lq1] at *; (try simp (disch := omega) only [pq_bm] at *); all_goals omega))) dL_empty_15 ?_
    refine pq_goto (tgt := 22) F dL_empty_16 (by decide) ?_
    refine pq_iconst (v := 0) F dL_empty_22 (by decide) ?_
    exact pq_lift (pq_iret F hr hlk hA (Nat.le_of_ble_eq_true rfl) (Nat.le_of_ble_eq_true rfl) (⟨((pq_Fr.rf.cm hF4 (by decide)).uJ hou_4 (by first | decide | exact List.mem_cons_self)), 0, rfl, (by focus ((try clear hIx); (try clear hIz); (try clear p4); simp only [vp_in_iff, Int32.lt_iff_toInt_lt, Int32.le_iff_toInt_le, ← Int32.toInt_inj, Int32.toInt_add, Int32.toInt_sub, Int32.toInt_mul, Int32.toInt_neg, pq_NuO, pq_NuI, pq_NuJ, pq_NuR, pq_shr6, pq_shr7, pq_shr8, lqm1, lq0, lq1] at *; (try simp (disch := omega) only [pq_bm] at *); all_goals omega)), (by focus ((try clear hIx); (try clear hIz); (try clear p4); simp only [vp_in_iff, Int32.lt_iff_toInt_lt, Int32.le_iff_toInt_le, ← Int32.toInt_inj, Int32.toInt_add, Int32.toInt_sub, Int32.toInt_mul, Int32.toInt_neg, pq_NuO, pq_NuI, pq_NuJ, pq_NuR, pq_shr6, pq_shr7, pq_shr8, lqm1, lq0, lq1] at *; (try simp (disch := omega) only [pq_bm] at *); all_goals omega)), (p4.fr ((pq_Fr.rf (M := [(186, 0)]) (S := S4)).uJ hou_4 (by decide)) (by decide))⟩) dL_empty_23)
  · skip
    refine pq_lconst (v := 1) F dL_empty_10 (by decide) ?_
    refine pq_goto (tgt := 15) F dL_empty_11 (by decide) ?_
    refine pq_last F hou_4 (by decide) (by decide) rfl (fun n1_15 n2_15 => (by focus ((try clear hIx); (try clear hIz); (try clear p4); simp only [vp_in_iff, Int32.lt_iff_toInt_lt, Int32.le_iff_toInt_le, ← Int32.toInt_inj, Int32.toInt_add, Int32.toInt_sub, Int32.toInt_mul, Int32.toInt_neg, pq_NuO, pq_NuI, pq_NuJ, pq_NuR, pq_shr6, pq_shr7, pq_shr8, lqm1, lq0, lq1] at *; (try simp (disch := omega) only [pq_bm] at *); all_goals omega))) dL_empty_15 ?_
    refine pq_goto (tgt := 22) F dL_empty_16 (by decide) ?_
    refine pq_iconst (v := 0) F dL_empty_22 (by decide) ?_
    exact pq_lift (pq_iret F hr hlk hA (Nat.le_of_ble_eq_true rfl) (Nat.le_of_ble_eq_true rfl) (⟨((pq_Fr.rf.cm hF4 (by decide)).uJ hou_4 (by first | decide | exact List.mem_cons_self)), 0, rfl, (by focus ((try clear hIx); (try clear hIz); (try clear p4); simp only [vp_in_iff, Int32.lt_iff_toInt_lt, Int32.le_iff_toInt_le, ← Int32.toInt_inj, Int32.toInt_add, Int32.toInt_sub, Int32.toInt_mul, Int32.toInt_neg, pq_NuO, pq_NuI, pq_NuJ, pq_NuR, pq_shr6, pq_shr7, pq_shr8, lqm1, lq0, lq1] at *; (try simp (disch := omega) only [pq_bm] at *); all_goals omega)), (by focus ((try clear hIx); (try clear hIz); (try clear p4); simp only [vp_in_iff, Int32.lt_iff_toInt_lt, Int32.le_iff_toInt_le, ← Int32.toInt_inj, Int32.toInt_add, Int32.toInt_sub, Int32.toInt_mul, Int32.toInt_neg, pq_NuO, pq_NuI, pq_NuJ, pq_NuR, pq_shr6, pq_shr7, pq_shr8, lqm1, lq0, lq1] at *; (try simp (disch := omega) only [pq_bm] at *); all_goals omega)), (p4.fr ((pq_Fr.rf (M := [(186, 0)]) (S := S4)).uJ hou_4 (by decide)) (by decide))⟩) dL_empty_23)

set_option maxHeartbeats 4000000 in
set_option maxRecDepth 100000 in
theorem k_L_fits (l : Launch) (D : va_G) (cy : Nat → ClassId) (hl0 : l.stackTraces = false) (S : HS) (a : Nat) (ha : pq_R S a 13) (pw : Int32) (ou : Nat) (hou : pq_R S ou 186) (t : Int32) (np nq : Nat) (hIx : pq_Ix S a t np nq) (hol : hN S ou = 1) : pq_CH l D cy yL_fits cL_fits 4 (some .int) [(0, 16, 19, 19)] 7 1 6 S [.ref a, .int pw, .ref ou] (fun v S2 => pq_Fr [(12, 1), (186, 0)] S S2 ∧ ∃ x : Int32, v = some (.int x) ∧ 0 ≤ x.toInt ∧ x.toInt ≤ 1 ∧ (pq_Ix S2 a 0 np nq)) pq_Dn := by
  refine pq_startH (by decide) (Nat.le_of_ble_eq_true rfl) ?_
  intro p e s m args below meth c A F hr hlk hA htb hEx
  have lqm1 : (-1 : Int32).toInt = -1 := rfl
  have lq0 : (0 : Int32).toInt = 0 := rfl
  have lq1 : (1 : Int32).toInt = 1 := rfl
  refine pq_aload_n F dL_fits_0 rfl rfl ?_
  refine pq_iconst (v := 0) F dL_fits_1 (by decide) ?_
  refine pq_aload_n F dL_fits_2 rfl rfl ?_
  refine pq_iload_n F dL_fits_3 rfl rfl ?_
  refine pq_callVX (As := [_]) F hEx (k_X10_fits l D cy hl0 _ _ ?_ _ t np nq hIx) ml_L_30 (pq_gt5 (i := 114) rfl rfl) ha (by decide) rfl (Nat.le_of_ble_eq_true rfl) ⟨Nat.le_of_ble_eq_true rfl, Nat.le_of_ble_eq_true rfl⟩ ⟨Nat.le_of_ble_eq_true rfl, Nat.le_of_ble_eq_true rfl⟩ dL_fits_4 (fun E4 T4 q4 xw4 => ?_) (fun v4 S4 w4 => ?_)
  · exact ha
  · skip
    obtain ⟨rfl, hFx, hIz⟩ := xw4
    refine ⟨19, (pq_Hd1 (st := 0) (en := 16) (ct := 19) htb (by decide) (by decide) (F.2.2.2.2.1 _ cl_L_19) (pq_wN' F.2.2.2.2.2.2.2.1 pq_cw19)), ?_⟩
    refine pq_astore_n F dL_fits_19 rfl (by decide) ?_
    refine pq_iconst (v := 1) F dL_fits_20 (by decide) ?_
    exact pq_lift (pq_iret F hr hlk hA (Nat.le_of_ble_eq_true rfl) (Nat.le_of_ble_eq_true rfl) (⟨(hFx.mono (by decide)), 1, rfl, (by focus ((try clear hIx); (try clear hIz); (try clear p4); simp only [vp_in_iff, Int32.lt_iff_toInt_lt, Int32.le_iff_toInt_le, ← Int32.toInt_inj, Int32.toInt_add, Int32.toInt_sub, Int32.toInt_mul, Int32.toInt_neg, pq_NuO, pq_NuI, pq_NuJ, pq_NuR, pq_shr6, pq_shr7, pq_shr8, lqm1, lq0, lq1] at *; (try simp (disch := omega) only [pq_bm] at *); all_goals omega)), (by focus ((try clear hIx); (try clear hIz); (try clear p4); simp only [vp_in_iff, Int32.lt_iff_toInt_lt, Int32.le_iff_toInt_le, ← Int32.toInt_inj, Int32.toInt_add, Int32.toInt_sub, Int32.toInt_mul, Int32.toInt_neg, pq_NuO, pq_NuI, pq_NuJ, pq_NuR, pq_shr6, pq_shr7, pq_shr8, lqm1, lq0, lq1] at *; (try simp (disch := omega) only [pq_bm] at *); all_goals omega)), hIz⟩) dL_fits_21)
  obtain ⟨hF4, y4, rfl, yl4_0, yl4_1, p4⟩ := w4
  have ha_4 := (hF4.1 _ _ ha (by decide)).1
  have hou_4 := (hF4.1 _ _ hou (by decide)).1
  have hol2 : hN S4 ou = 1 := ((hF4.1 ou 186 hou (by decide)).2).trans hol
  refine pq_if_eq (tgt := 14) F dL_fits_7 (by decide) (fun c7 => ?_) (fun c7 => ?_)
  · skip
    refine pq_lconst (v := 0) F dL_fits_14 (by decide) ?_
    refine pq_last F hou_4 (by decide) (by decide) rfl (fun n1_15 n2_15 => (by focus ((try clear hIx); (try clear hIz); (try clear p4); simp only [vp_in_iff, Int32.lt_iff_toInt_lt, Int32.le_iff_toInt_le, ← Int32.toInt_inj, Int32.toInt_add, Int32.toInt_sub, Int32.toInt_mul, Int32.toInt_neg, pq_NuO, pq_NuI, pq_NuJ, pq_NuR, pq_shr6, pq_shr7, pq_shr8, lqm1, lq0, lq1] at *; (try simp (disch := omega) only [pq_bm] at *); all_goals omega))) dL_fits_15 ?_
    refine pq_goto (tgt := 22) F dL_fits_16 (by decide) ?_
    refine pq_iconst (v := 0) F dL_fits_22 (by decide) ?_
    exact pq_lift (pq_iret F hr hlk hA (Nat.le_of_ble_eq_true rfl) (Nat.le_of_ble_eq_true rfl) (⟨((pq_Fr.rf.cm hF4 (by decide)).uJ hou_4 (by first | decide | exact List.mem_cons_self)), 0, rfl, (by focus ((try clear hIx); (try clear hIz); (try clear p4); simp only [vp_in_iff, Int32.lt_iff_toInt_lt, Int32.le_iff_toInt_le, ← Int32.toInt_inj, Int32.toInt_add, Int32.toInt_sub, Int32.toInt_mul, Int32.toInt_neg, pq_NuO, pq_NuI, pq_NuJ, pq_NuR, pq_shr6, pq_shr7, pq_shr8, lqm1, lq0, lq1] at *; (try simp (disch := omega) only [pq_bm] at *); all_goals omega)), (by focus ((try clear hIx); (try clear hIz); (try clear p4); simp only [vp_in_iff, Int32.lt_iff_toInt_lt, Int32.le_iff_toInt_le, ← Int32.toInt_inj, Int32.toInt_add, Int32.toInt_sub, Int32.toInt_mul, Int32.toInt_neg, pq_NuO, pq_NuI, pq_NuJ, pq_NuR, pq_shr6, pq_shr7, pq_shr8, lqm1, lq0, lq1] at *; (try simp (disch := omega) only [pq_bm] at *); all_goals omega)), (p4.fr ((pq_Fr.rf (M := [(186, 0)]) (S := S4)).uJ hou_4 (by decide)) (by decide))⟩) dL_fits_23)
  · skip
    refine pq_lconst (v := 1) F dL_fits_10 (by decide) ?_
    refine pq_goto (tgt := 15) F dL_fits_11 (by decide) ?_
    refine pq_last F hou_4 (by decide) (by decide) rfl (fun n1_15 n2_15 => (by focus ((try clear hIx); (try clear hIz); (try clear p4); simp only [vp_in_iff, Int32.lt_iff_toInt_lt, Int32.le_iff_toInt_le, ← Int32.toInt_inj, Int32.toInt_add, Int32.toInt_sub, Int32.toInt_mul, Int32.toInt_neg, pq_NuO, pq_NuI, pq_NuJ, pq_NuR, pq_shr6, pq_shr7, pq_shr8, lqm1, lq0, lq1] at *; (try simp (disch := omega) only [pq_bm] at *); all_goals omega))) dL_fits_15 ?_
    refine pq_goto (tgt := 22) F dL_fits_16 (by decide) ?_
    refine pq_iconst (v := 0) F dL_fits_22 (by decide) ?_
    exact pq_lift (pq_iret F hr hlk hA (Nat.le_of_ble_eq_true rfl) (Nat.le_of_ble_eq_true rfl) (⟨((pq_Fr.rf.cm hF4 (by decide)).uJ hou_4 (by first | decide | exact List.mem_cons_self)), 0, rfl, (by focus ((try clear hIx); (try clear hIz); (try clear p4); simp only [vp_in_iff, Int32.lt_iff_toInt_lt, Int32.le_iff_toInt_le, ← Int32.toInt_inj, Int32.toInt_add, Int32.toInt_sub, Int32.toInt_mul, Int32.toInt_neg, pq_NuO, pq_NuI, pq_NuJ, pq_NuR, pq_shr6, pq_shr7, pq_shr8, lqm1, lq0, lq1] at *; (try simp (disch := omega) only [pq_bm] at *); all_goals omega)), (by focus ((try clear hIx); (try clear hIz); (try clear p4); simp only [vp_in_iff, Int32.lt_iff_toInt_lt, Int32.le_iff_toInt_le, ← Int32.toInt_inj, Int32.toInt_add, Int32.toInt_sub, Int32.toInt_mul, Int32.toInt_neg, pq_NuO, pq_NuI, pq_NuJ, pq_NuR, pq_shr6, pq_shr7, pq_shr8, lqm1, lq0, lq1] at *; (try simp (disch := omega) only [pq_bm] at *); all_goals omega)), (p4.fr ((pq_Fr.rf (M := [(186, 0)]) (S := S4)).uJ hou_4 (by decide)) (by decide))⟩) dL_fits_23)

set_option maxHeartbeats 4000000 in
set_option maxRecDepth 100000 in
theorem k_L_first (l : Launch) (D : va_G) (cy : Nat → ClassId) (hl0 : l.stackTraces = false) (S : HS) (a : Nat) (ha : pq_R S a 13) (kd : Int32) (ou : Nat) (hou : pq_R S ou 186) (t : Int32) (np nq : Nat) (hIx : pq_Ix S a t np nq) (hol : hN S ou = 1) (wp wo wq : Nat) (hE : pq_Fe S a kd np nq wp wo wq) : pq_CH l D cy yL_first cL_first 4 (some .int) [(0, 9, 12, 19)] 7 4 (wp + wo + wq + 80804) S [.ref a, .int kd, .ref ou] (fun v S2 => pq_Fr [(10, 7), (10, 1), (163, 0), (10, 2), (10, 3), (10, 4), (10, 5), (10, 6), (103, 0), (164, 0), (165, 0), (196, 0), (186, 0)] S S2 ∧ ∃ x : Int32, v = some (.int x) ∧ 0 ≤ x.toInt ∧ x.toInt ≤ 1 ∧ ((x = 0 ∧ ∃ np2 nq2 : Nat, pq_Ix S2 a t np2 nq2 ∧ (2 * np + wp ≤ 2 * np2 ∧ 2 * np + wo ≤ 2 * np2 ∧ 2 * nq + wq ≤ 2 * nq2) ∧ np2 ≤ 80804 ∧ nq2 ≤ 1608) ∨ (x = 1 ∧ pq_Ix S2 a t np nq))) pq_Dn := by
  refine pq_startH (by decide) (Nat.le_of_ble_eq_true rfl) ?_
  intro p e s m args below meth c A F hr hlk hA htb hEx
  have lqm1 : (-1 : Int32).toInt = -1 := rfl
  have lq0 : (0 : Int32).toInt = 0 := rfl
  have lq1 : (1 : Int32).toInt = 1 := rfl
  refine pq_aload_n F dL_first_0 rfl rfl ?_
  refine pq_iconst (v := 0) F dL_first_1 (by decide) ?_
  refine pq_aload_n F dL_first_2 rfl rfl ?_
  refine pq_iload_n F dL_first_3 rfl rfl ?_
  refine pq_callVX (As := [_]) F hEx (k_X10_first l D cy hl0 _ _ ?_ _ t np nq hIx wp wo wq hE) ml_L_33 (pq_gt5 (i := 130) rfl rfl) ha (by decide) rfl (Nat.le_of_ble_eq_true rfl) ⟨Nat.le_of_ble_eq_true rfl, Nat.le_of_ble_eq_true rfl⟩ ⟨(by show 0 + 4 ≤ 4; omega), (by show 0 + (wp + wo + wq + 80804) ≤ (wp + wo + wq + 80804); omega)⟩ dL_first_4 (fun E4 T4 q4 xw4 => ?_) (fun v4 S4 w4 => ?_)
  · exact ha
  · skip
    obtain ⟨rfl, hFx, hIz⟩ := xw4
    refine ⟨12, (pq_Hd1 (st := 0) (en := 9) (ct := 19) htb (by decide) (by decide) (F.2.2.2.2.1 _ cl_L_19) (pq_wN' F.2.2.2.2.2.2.2.1 pq_cw19)), ?_⟩
    refine pq_astore_n F dL_first_12 rfl (by decide) ?_
    refine pq_iconst (v := 1) F dL_first_13 (by decide) ?_
    exact pq_lift (pq_iret F hr hlk hA (by show 0 + 4 ≤ 4; omega) (by show 0 + (wp + wo + wq + 80804) ≤ (wp + wo + wq + 80804); omega) (⟨(hFx.mono (by decide)), 1, rfl, (by focus ((try clear hIx); (try clear hIz); (try clear p4); (try clear hE); (try clear hI8); (try clear hq8); simp only [vp_in_iff, Int32.lt_iff_toInt_lt, Int32.le_iff_toInt_le, ← Int32.toInt_inj, Int32.toInt_add, Int32.toInt_sub, Int32.toInt_mul, Int32.toInt_neg, pq_NuO, pq_NuI, pq_NuJ, pq_NuR, pq_shr6, pq_shr7, pq_shr8, lqm1, lq0, lq1] at *; (try simp (disch := omega) only [pq_bm] at *); all_goals omega)), (by focus ((try clear hIx); (try clear hIz); (try clear p4); (try clear hE); (try clear hI8); (try clear hq8); simp only [vp_in_iff, Int32.lt_iff_toInt_lt, Int32.le_iff_toInt_le, ← Int32.toInt_inj, Int32.toInt_add, Int32.toInt_sub, Int32.toInt_mul, Int32.toInt_neg, pq_NuO, pq_NuI, pq_NuJ, pq_NuR, pq_shr6, pq_shr7, pq_shr8, lqm1, lq0, lq1] at *; (try simp (disch := omega) only [pq_bm] at *); all_goals omega)), Or.inr ⟨rfl, hIz⟩⟩) dL_first_14)
  obtain ⟨hF4, y4, rfl, p4⟩ := w4
  have ha_4 := (hF4.1 _ _ ha (by decide)).1
  have hou_4 := (hF4.1 _ _ hou (by decide)).1
  have hol2 : hN S4 ou = 1 := ((hF4.1 ou 186 hou (by decide)).2).trans hol
  obtain ⟨n8, n9, hI8, hq8⟩ := p4
  refine pq_i2l F dL_first_7 ?_
  refine pq_last F hou_4 (by decide) (by decide) rfl (fun n1_8 n2_8 => (by focus ((try clear hIx); (try clear hIz); (try clear p4); (try clear hE); (try clear hI8); (try clear hq8); simp only [vp_in_iff, Int32.lt_iff_toInt_lt, Int32.le_iff_toInt_le, ← Int32.toInt_inj, Int32.toInt_add, Int32.toInt_sub, Int32.toInt_mul, Int32.toInt_neg, pq_NuO, pq_NuI, pq_NuJ, pq_NuR, pq_shr6, pq_shr7, pq_shr8, lqm1, lq0, lq1] at *; (try simp (disch := omega) only [pq_bm] at *); all_goals omega))) dL_first_8 ?_
  refine pq_goto (tgt := 15) F dL_first_9 (by decide) ?_
  refine pq_iconst (v := 0) F dL_first_15 (by decide) ?_
  exact pq_lift (pq_iret F hr hlk hA (by show 0 + 4 ≤ 4; omega) (by show 0 + (wp + wo + wq + 80804) ≤ (wp + wo + wq + 80804); omega) (⟨((pq_Fr.rf.cm hF4 (by decide)).uJ hou_4 (by first | decide | exact List.mem_cons_self)), 0, rfl, (by focus ((try clear hIx); (try clear hIz); (try clear p4); (try clear hE); (try clear hI8); (try clear hq8); simp only [vp_in_iff, Int32.lt_iff_toInt_lt, Int32.le_iff_toInt_le, ← Int32.toInt_inj, Int32.toInt_add, Int32.toInt_sub, Int32.toInt_mul, Int32.toInt_neg, pq_NuO, pq_NuI, pq_NuJ, pq_NuR, pq_shr6, pq_shr7, pq_shr8, lqm1, lq0, lq1] at *; (try simp (disch := omega) only [pq_bm] at *); all_goals omega)), (by focus ((try clear hIx); (try clear hIz); (try clear p4); (try clear hE); (try clear hI8); (try clear hq8); simp only [vp_in_iff, Int32.lt_iff_toInt_lt, Int32.le_iff_toInt_le, ← Int32.toInt_inj, Int32.toInt_add, Int32.toInt_sub, Int32.toInt_mul, Int32.toInt_neg, pq_NuO, pq_NuI, pq_NuJ, pq_NuR, pq_shr6, pq_shr7, pq_shr8, lqm1, lq0, lq1] at *; (try simp (disch := omega) only [pq_bm] at *); all_goals omega)), Or.inl ⟨rfl, n8, n9, (hI8.fr ((pq_Fr.rf (M := [(186, 0)]) (S := S4)).uJ hou_4 (by decide)) (by decide)), hq8⟩⟩) dL_first_16)

set_option maxHeartbeats 4000000 in
set_option maxRecDepth 100000 in
theorem k_L_count (l : Launch) (D : va_G) (cy : Nat → ClassId) (hl0 : l.stackTraces = false) (S : HS) (a : Nat) (ha : pq_R S a 13) (pw : Int32) (pn : Int32) (ou : Nat) (hou : pq_R S ou 186) (t : Int32) (np nq : Nat) (hIx : pq_Ix S a t np nq) (hol : hN S ou = 1) : pq_CH l D cy yL_count cL_count 5 (some .int) [(0, 9, 12, 19)] 7 1 6 S [.ref a, .int pw, .int pn, .ref ou] (fun v S2 => pq_Fr [(189, 0), (4, 0), (4, 1), (186, 0)] S S2 ∧ ∃ x : Int32, v = some (.int x) ∧ 0 ≤ x.toInt ∧ x.toInt ≤ 1 ∧ (pq_Ix S2 a t np nq)) pq_Dn := by
  refine pq_startH (by decide) (Nat.le_of_ble_eq_true rfl) ?_
  intro p e s m args below meth c A F hr hlk hA htb hEx
  have lqm1 : (-1 : Int32).toInt = -1 := rfl
  have lq0 : (0 : Int32).toInt = 0 := rfl
  have lq1 : (1 : Int32).toInt = 1 := rfl
  refine pq_aload_n F dL_count_0 rfl rfl ?_
  refine pq_iconst (v := 0) F dL_count_1 (by decide) ?_
  refine pq_aload_n F dL_count_2 rfl rfl ?_
  refine pq_iload_n F dL_count_3 rfl rfl ?_
  refine pq_iload_n F dL_count_4 rfl rfl ?_
  refine pq_callVX (As := [_, _]) F hEx (k_X10_count l D cy hl0 _ _ ?_ _ _ t np nq hIx) ml_L_41 (pq_gt5 (i := 191) rfl rfl) ha (by decide) rfl (Nat.le_of_ble_eq_true rfl) ⟨Nat.le_of_ble_eq_true rfl, Nat.le_of_ble_eq_true rfl⟩ ⟨Nat.le_of_ble_eq_true rfl, Nat.le_of_ble_eq_true rfl⟩ dL_count_5 (fun E5 T5 q5 xw5 => ?_) (fun v5 S5 w5 => ?_)
  · exact ha
  · skip
    obtain ⟨rfl, hFx, hIz⟩ := xw5
    refine ⟨12, (pq_Hd1 (st := 0) (en := 9) (ct := 19) htb (by decide) (by decide) (F.2.2.2.2.1 _ cl_L_19) (pq_wN' F.2.2.2.2.2.2.2.1 pq_cw19)), ?_⟩
    refine pq_astore F dL_count_12 (by decide) ?_
    refine pq_iconst (v := 1) F dL_count_14 (by decide) ?_
    exact pq_lift (pq_iret F hr hlk hA (Nat.le_of_ble_eq_true rfl) (Nat.le_of_ble_eq_true rfl) (⟨(hFx.mono (by decide)), 1, rfl, (by focus ((try clear hIx); (try clear hIz); (try clear p5); simp only [vp_in_iff, Int32.lt_iff_toInt_lt, Int32.le_iff_toInt_le, ← Int32.toInt_inj, Int32.toInt_add, Int32.toInt_sub, Int32.toInt_mul, Int32.toInt_neg, pq_NuO, pq_NuI, pq_NuJ, pq_NuR, pq_shr6, pq_shr7, pq_shr8, lqm1, lq0, lq1] at *; (try simp (disch := omega) only [pq_bm] at *); all_goals omega)), (by focus ((try clear hIx); (try clear hIz); (try clear p5); simp only [vp_in_iff, Int32.lt_iff_toInt_lt, Int32.le_iff_toInt_le, ← Int32.toInt_inj, Int32.toInt_add, Int32.toInt_sub, Int32.toInt_mul, Int32.toInt_neg, pq_NuO, pq_NuI, pq_NuJ, pq_NuR, pq_shr6, pq_shr7, pq_shr8, lqm1, lq0, lq1] at *; (try simp (disch := omega) only [pq_bm] at *); all_goals omega)), hIz⟩) dL_count_15)
  obtain ⟨hF5, y5, rfl, p5⟩ := w5
  have ha_5 := (hF5.1 _ _ ha (by decide)).1
  have hou_5 := (hF5.1 _ _ hou (by decide)).1
  have hol2 : hN S5 ou = 1 := ((hF5.1 ou 186 hou (by decide)).2).trans hol
  refine pq_last F hou_5 (by decide) (by decide) rfl (fun n1_8 n2_8 => (by focus ((try clear hIx); (try clear hIz); (try clear p5); simp only [vp_in_iff, Int32.lt_iff_toInt_lt, Int32.le_iff_toInt_le, ← Int32.toInt_inj, Int32.toInt_add, Int32.toInt_sub, Int32.toInt_mul, Int32.toInt_neg, pq_NuO, pq_NuI, pq_NuJ, pq_NuR, pq_shr6, pq_shr7, pq_shr8, lqm1, lq0, lq1] at *; (try simp (disch := omega) only [pq_bm] at *); all_goals omega))) dL_count_8 ?_
  refine pq_goto (tgt := 16) F dL_count_9 (by decide) ?_
  refine pq_iconst (v := 0) F dL_count_16 (by decide) ?_
  exact pq_lift (pq_iret F hr hlk hA (Nat.le_of_ble_eq_true rfl) (Nat.le_of_ble_eq_true rfl) (⟨((pq_Fr.rf.cm hF5 (by decide)).uJ hou_5 (by first | decide | exact List.mem_cons_self)), 0, rfl, (by focus ((try clear hIx); (try clear hIz); (try clear p5); simp only [vp_in_iff, Int32.lt_iff_toInt_lt, Int32.le_iff_toInt_le, ← Int32.toInt_inj, Int32.toInt_add, Int32.toInt_sub, Int32.toInt_mul, Int32.toInt_neg, pq_NuO, pq_NuI, pq_NuJ, pq_NuR, pq_shr6, pq_shr7, pq_shr8, lqm1, lq0, lq1] at *; (try simp (disch := omega) only [pq_bm] at *); all_goals omega)), (by focus ((try clear hIx); (try clear hIz); (try clear p5); simp only [vp_in_iff, Int32.lt_iff_toInt_lt, Int32.le_iff_toInt_le, ← Int32.toInt_inj, Int32.toInt_add, Int32.toInt_sub, Int32.toInt_mul, Int32.toInt_neg, pq_NuO, pq_NuI, pq_NuJ, pq_NuR, pq_shr6, pq_shr7, pq_shr8, lqm1, lq0, lq1] at *; (try simp (disch := omega) only [pq_bm] at *); all_goals omega)), (p5.fr ((pq_Fr.rf (M := [(186, 0)]) (S := S5)).uJ hou_5 (by decide)) (by decide))⟩) dL_count_17)

set_option maxHeartbeats 4000000 in
set_option maxRecDepth 100000 in
theorem k_L_set (l : Launch) (D : va_G) (cy : Nat → ClassId) (hl0 : l.stackTraces = false) (S : HS) (a : Nat) (ha : pq_R S a 13) (pw : Int32) (ou : Nat) (hou : pq_R S ou 186) (t : Int32) (np nq : Nat) (hIx : pq_Ix S a t np nq) (hol : hN S ou = 1) (tn w1 w2 : Nat) (htn : t.toInt = (tn : Int)) (hw1 : (tn = 0 ∧ 804 ≤ w1) ∨ 102912 ≤ w1) (hw2 : (tn = 0 ∧ 402 ≤ w2) ∨ 51456 ≤ w2) : pq_CH l D cy yL_set cL_set 4 (some .int) [(0, 9, 12, 19), (0, 9, 15, 24), (0, 9, 18, 13)] 12 (6 * (tn + 1) + 3) (34 * (tn + 1) + w1 + w2 + 6) S [.ref a, .int pw, .ref ou] (fun v S2 => pq_Fr [(9, 5), (9, 6), (9, 7), (9, 8), (9, 9), (5, 2), (190, 0), (191, 0), (195, 0), (194, 0), (8, 3), (230, 0), (231, 0), (13, 8), (12, 1), (6, 3), (156, 0), (157, 0), (158, 0), (11, 6), (198, 0), (199, 0), (167, 0), (11, 7), (11, 8), (11, 9), (166, 0), (197, 0), (7, 7), (159, 0), (192, 0), (193, 0), (161, 0), (162, 0), (160, 0), (150, 0), (151, 0), (3, 4), (3, 5), (3, 3), (3, 6), (3, 7), (206, 0), (152, 0), (153, 0), (154, 0), (33, 4), (33, 5), (33, 3), (33, 6), (33, 7), (207, 0), (155, 0), (186, 0)] S S2 ∧ ∃ x : Int32, v = some (.int x) ∧ 0 ≤ x.toInt ∧ x.toInt ≤ 3 ∧ (pq_Ix S2 a 0 np nq)) (fun U => pq_Dn U ∧ va_Nc "java/lang/UnsupportedOperationException" "java/lang/IllegalArgumentException" U ∧ va_Nc "java/lang/IndexOutOfBoundsException" "java/lang/IllegalArgumentException" U ∧ va_Nc "java/lang/IndexOutOfBoundsException" "java/lang/UnsupportedOperationException" U) := by
  refine pq_startH (by decide) (Nat.le_of_ble_eq_true rfl) ?_
  intro p e s m args below meth c A F hr hlk hA htb hEx
  have lqm1 : (-1 : Int32).toInt = -1 := rfl
  have lq0 : (0 : Int32).toInt = 0 := rfl
  have lq1 : (1 : Int32).toInt = 1 := rfl
  have lq2 : (2 : Int32).toInt = 2 := rfl
  have lq3 : (3 : Int32).toInt = 3 := rfl
  refine pq_aload_n F dL_set_0 rfl rfl ?_
  refine pq_iconst (v := 0) F dL_set_1 (by decide) ?_
  refine pq_aload_n F dL_set_2 rfl rfl ?_
  refine pq_iload_n F dL_set_3 rfl rfl ?_
  refine pq_callVX (As := [_]) F hEx.1 (k_X10_set l D cy hl0 _ _ ?_ _ t np nq hIx tn w1 w2 htn hw1 hw2) ml_L_21 (pq_gt2 (i := 239) rfl rfl) ha (by decide) rfl (Nat.le_of_ble_eq_true rfl) ⟨Nat.le_of_ble_eq_true rfl, Nat.le_of_ble_eq_true rfl⟩ ⟨(by show 0 + (6 * (tn + 1) + 3) ≤ (6 * (tn + 1) + 3); omega), (by show 0 + (34 * (tn + 1) + w1 + w2 + 6) ≤ (34 * (tn + 1) + w1 + w2 + 6); omega)⟩ dL_set_4 (fun E4 T4 q4 xw4 => ?_) (fun v4 S4 w4 => ?_)
  · exact ha
  · skip
    obtain ⟨hcs, hFx, hIz⟩ := xw4
    rcases hcs with rfl | rfl | rfl
    · skip
      refine ⟨12, ⟨[], ⟨0, 9, 12, 19⟩, [⟨0, 9, 15, 24⟩, ⟨0, 9, 18, 13⟩], "java/lang/IllegalArgumentException", htb, fun z hz => absurd hz List.not_mem_nil, (by decide), (by decide), (F.2.2.2.2.1 _ cl_L_19), (pq_wN' F.2.2.2.2.2.2.2.1 pq_cw19), rfl⟩, ?_⟩
      refine pq_astore_n F dL_set_12 rfl (by decide) ?_
      refine pq_iconst (v := 1) F dL_set_13 (by decide) ?_
      exact pq_lift (pq_iret F hr hlk hA (by show 0 + (6 * (tn + 1) + 3) ≤ (6 * (tn + 1) + 3); omega) (by show 0 + (34 * (tn + 1) + w1 + w2 + 6) ≤ (34 * (tn + 1) + w1 + w2 + 6); omega) (⟨(hFx.mono (by decide)), 1, rfl, (by focus ((try clear hIx); (try clear hIz); (try clear p4); (try clear hw1); (try clear hw2); simp only [vp_in_iff, Int32.lt_iff_toInt_lt, Int32.le_iff_toInt_le, ← Int32.toInt_inj, Int32.toInt_add, Int32.toInt_sub, Int32.toInt_mul, Int32.toInt_neg, pq_NuO, pq_NuI, pq_NuJ, pq_NuR, pq_shr6, pq_shr7, pq_shr8, lqm1, lq0, lq1, lq2, lq3] at *; (try simp (disch := omega) only [pq_bm] at *); all_goals omega)), (by focus ((try clear hIx); (try clear hIz); (try clear p4); (try clear hw1); (try clear hw2); simp only [vp_in_iff, Int32.lt_iff_toInt_lt, Int32.le_iff_toInt_le, ← Int32.toInt_inj, Int32.toInt_add, Int32.toInt_sub, Int32.toInt_mul, Int32.toInt_neg, pq_NuO, pq_NuI, pq_NuJ, pq_NuR, pq_shr6, pq_shr7, pq_shr8, lqm1, lq0, lq1, lq2, lq3] at *; (try simp (disch := omega) only [pq_bm] at *); all_goals omega)), hIz⟩) dL_set_14)
    · skip
      refine ⟨15, ⟨[⟨0, 9, 12, 19⟩], ⟨0, 9, 15, 24⟩, [⟨0, 9, 18, 13⟩], "java/lang/UnsupportedOperationException", htb, (fun z hz => by rcases List.mem_singleton.mp hz with rfl; exact Or.inr ⟨by decide, "java/lang/IllegalArgumentException", F.2.2.2.2.1 _ cl_L_19, hEx.2.1⟩), (by decide), (by decide), (F.2.2.2.2.1 _ cl_L_24), (pq_wN' F.2.2.2.2.2.2.2.1 pq_cw24), rfl⟩, ?_⟩
      refine pq_astore_n F dL_set_15 rfl (by decide) ?_
      refine pq_iconst (v := 2) F dL_set_16 (by decide) ?_
      exact pq_lift (pq_iret F hr hlk hA (by show 0 + (6 * (tn + 1) + 3) ≤ (6 * (tn + 1) + 3); omega) (by show 0 + (34 * (tn + 1) + w1 + w2 + 6) ≤ (34 * (tn + 1) + w1 + w2 + 6); omega) (⟨(hFx.mono (by decide)), 2, rfl, (by focus ((try clear hIx); (try clear hIz); (try clear p4); (try clear hw1); (try clear hw2); simp only [vp_in_iff, Int32.lt_iff_toInt_lt, Int32.le_iff_toInt_le, ← Int32.toInt_inj, Int32.toInt_add, Int32.toInt_sub, Int32.toInt_mul, Int32.toInt_neg, pq_NuO, pq_NuI, pq_NuJ, pq_NuR, pq_shr6, pq_shr7, pq_shr8, lqm1, lq0, lq1, lq2, lq3] at *; (try simp (disch := omega) only [pq_bm] at *); all_goals omega)), (by focus ((try clear hIx); (try clear hIz); (try clear p4); (try clear hw1); (try clear hw2); simp only [vp_in_iff, Int32.lt_iff_toInt_lt, Int32.le_iff_toInt_le, ← Int32.toInt_inj, Int32.toInt_add, Int32.toInt_sub, Int32.toInt_mul, Int32.toInt_neg, pq_NuO, pq_NuI, pq_NuJ, pq_NuR, pq_shr6, pq_shr7, pq_shr8, lqm1, lq0, lq1, lq2, lq3] at *; (try simp (disch := omega) only [pq_bm] at *); all_goals omega)), hIz⟩) dL_set_17)
    · skip
      refine ⟨18, ⟨[⟨0, 9, 12, 19⟩, ⟨0, 9, 15, 24⟩], ⟨0, 9, 18, 13⟩, [], "java/lang/IndexOutOfBoundsException", htb, (fun z hz => by rcases List.mem_cons.mp hz with rfl | hz; exact Or.inr ⟨by decide, "java/lang/IllegalArgumentException", F.2.2.2.2.1 _ cl_L_19, hEx.2.2.1⟩; rcases List.mem_singleton.mp hz with rfl; exact Or.inr ⟨by decide, "java/lang/UnsupportedOperationException", F.2.2.2.2.1 _ cl_L_24, hEx.2.2.2⟩), (by decide), (by decide), (F.2.2.2.2.1 _ cl_L_13), (pq_wN' F.2.2.2.2.2.2.2.1 pq_cw13), rfl⟩, ?_⟩
      refine pq_astore_n F dL_set_18 rfl (by decide) ?_
      refine pq_iconst (v := 3) F dL_set_19 (by decide) ?_
      exact pq_lift (pq_iret F hr hlk hA (by show 0 + (6 * (tn + 1) + 3) ≤ (6 * (tn + 1) + 3); omega) (by show 0 + (34 * (tn + 1) + w1 + w2 + 6) ≤ (34 * (tn + 1) + w1 + w2 + 6); omega) (⟨(hFx.mono (by decide)), 3, rfl, (by focus ((try clear hIx); (try clear hIz); (try clear p4); (try clear hw1); (try clear hw2); simp only [vp_in_iff, Int32.lt_iff_toInt_lt, Int32.le_iff_toInt_le, ← Int32.toInt_inj, Int32.toInt_add, Int32.toInt_sub, Int32.toInt_mul, Int32.toInt_neg, pq_NuO, pq_NuI, pq_NuJ, pq_NuR, pq_shr6, pq_shr7, pq_shr8, lqm1, lq0, lq1, lq2, lq3] at *; (try simp (disch := omega) only [pq_bm] at *); all_goals omega)), (by focus ((try clear hIx); (try clear hIz); (try clear p4); (try clear hw1); (try clear hw2); simp only [vp_in_iff, Int32.lt_iff_toInt_lt, Int32.le_iff_toInt_le, ← Int32.toInt_inj, Int32.toInt_add, Int32.toInt_sub, Int32.toInt_mul, Int32.toInt_neg, pq_NuO, pq_NuI, pq_NuJ, pq_NuR, pq_shr6, pq_shr7, pq_shr8, lqm1, lq0, lq1, lq2, lq3] at *; (try simp (disch := omega) only [pq_bm] at *); all_goals omega)), hIz⟩) dL_set_20)
  obtain ⟨hF4, y4, rfl, p4⟩ := w4
  have ha_4 := (hF4.1 _ _ ha (by decide)).1
  have hou_4 := (hF4.1 _ _ hou (by decide)).1
  have hol2 : hN S4 ou = 1 := ((hF4.1 ou 186 hou (by decide)).2).trans hol
  refine pq_i2l F dL_set_7 ?_
  refine pq_last F hou_4 (by decide) (by decide) rfl (fun n1_8 n2_8 => (by focus ((try clear hIx); (try clear hIz); (try clear p4); (try clear hw1); (try clear hw2); simp only [vp_in_iff, Int32.lt_iff_toInt_lt, Int32.le_iff_toInt_le, ← Int32.toInt_inj, Int32.toInt_add, Int32.toInt_sub, Int32.toInt_mul, Int32.toInt_neg, pq_NuO, pq_NuI, pq_NuJ, pq_NuR, pq_shr6, pq_shr7, pq_shr8, lqm1, lq0, lq1, lq2, lq3] at *; (try simp (disch := omega) only [pq_bm] at *); all_goals omega))) dL_set_8 ?_
  refine pq_goto (tgt := 21) F dL_set_9 (by decide) ?_
  refine pq_iconst (v := 0) F dL_set_21 (by decide) ?_
  exact pq_lift (pq_iret F hr hlk hA (by show 0 + (6 * (tn + 1) + 3) ≤ (6 * (tn + 1) + 3); omega) (by show 0 + (34 * (tn + 1) + w1 + w2 + 6) ≤ (34 * (tn + 1) + w1 + w2 + 6); omega) (⟨((pq_Fr.rf.cm hF4 (by decide)).uJ hou_4 (by first | decide | exact List.mem_cons_self)), 0, rfl, (by focus ((try clear hIx); (try clear hIz); (try clear p4); (try clear hw1); (try clear hw2); simp only [vp_in_iff, Int32.lt_iff_toInt_lt, Int32.le_iff_toInt_le, ← Int32.toInt_inj, Int32.toInt_add, Int32.toInt_sub, Int32.toInt_mul, Int32.toInt_neg, pq_NuO, pq_NuI, pq_NuJ, pq_NuR, pq_shr6, pq_shr7, pq_shr8, lqm1, lq0, lq1, lq2, lq3] at *; (try simp (disch := omega) only [pq_bm] at *); all_goals omega)), (by focus ((try clear hIx); (try clear hIz); (try clear p4); (try clear hw1); (try clear hw2); simp only [vp_in_iff, Int32.lt_iff_toInt_lt, Int32.le_iff_toInt_le, ← Int32.toInt_inj, Int32.toInt_add, Int32.toInt_sub, Int32.toInt_mul, Int32.toInt_neg, pq_NuO, pq_NuI, pq_NuJ, pq_NuR, pq_shr6, pq_shr7, pq_shr8, lqm1, lq0, lq1, lq2, lq3] at *; (try simp (disch := omega) only [pq_bm] at *); all_goals omega)), (p4.fr ((pq_Fr.rf (M := [(186, 0)]) (S := S4)).uJ hou_4 (by decide)) (by decide))⟩) dL_set_22)

