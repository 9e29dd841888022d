set_option maxHeartbeats 4000000 in
set_option maxRecDepth 100000 in
theorem k_L_octetY (l : Launch) (D : va_G) (cy : Nat → ClassId) (hl0 : l.stackTraces = false) (S : HS) (a : Nat) (ha : pq_R S a 13) (pi : Int32) (ou : Nat) (hou : pq_R S ou 186) (hY : pf_Y S a) (hol : hN S ou = 1) : pq_CH l D cy yL_octet cL_octet 4 (some .int) [(0, 9, 12, 39)] 7 1 6 S [.ref a, .int pi, .ref ou] (fun v S2 => pq_Fr [(186, 0)] S S2 ∧ ∃ x : Int32, v = some (.int x) ∧ 0 ≤ x.toInt ∧ x.toInt ≤ 1 ∧ (x = 1)) pq_Dn := by
  refine pq_startH (by decide) (Nat.le_of_ble_eq_true rfl) ?_
  intro p e s m args below meth c A F hr hlk hA htb hEx
  have lqm1 : (-1 : Int32).toInt = -1 := rfl
  have lq0 : (0 : Int32).toInt = 0 := rfl
  have lq1 : (1 : Int32).toInt = 1 := rfl
  refine pq_aload_n F dL_octet_0 rfl rfl ?_
  refine pq_iconst (v := 0) F dL_octet_1 (by decide) ?_
  refine pq_aload_n F dL_octet_2 rfl rfl ?_
  refine pq_iload_n F dL_octet_3 rfl rfl ?_
  refine pq_callVX (As := [_]) F hEx (k_X10_octetY l D cy hl0 _ _ ?_ _ hY) ml_L_36 (pq_gt5 (i := 168) rfl rfl) ha (by decide) rfl (Nat.le_of_ble_eq_true rfl) ⟨Nat.le_of_ble_eq_true rfl, Nat.le_of_ble_eq_true rfl⟩ ⟨Nat.le_of_ble_eq_true rfl, Nat.le_of_ble_eq_true rfl⟩ dL_octet_4 (fun E4 T4 q4 xw4 => ?_) (fun v4 S4 w4 => ?_)
  · exact ha
  · skip
    obtain ⟨rfl, hFx⟩ := xw4
    refine ⟨12, (pq_Hd1 (st := 0) (en := 9) (ct := 39) htb (by decide) (by decide) (F.2.2.2.2.1 _ cl_L_39) (pq_wN' F.2.2.2.2.2.2.2.1 pq_cw39)), ?_⟩
    refine pq_astore_n F dL_octet_12 rfl (by decide) ?_
    refine pq_iconst (v := 1) F dL_octet_13 (by decide) ?_
    exact pq_lift (pq_iret F hr hlk hA (Nat.le_of_ble_eq_true rfl) (Nat.le_of_ble_eq_true rfl) (⟨(hFx.mono (by decide)), 1, rfl, (by focus ((try clear hY); (try clear p4); simp only [vp_in_iff, Int32.lt_iff_toInt_lt, Int32.le_iff_toInt_le, ← Int32.toInt_inj, Int32.toInt_add, Int32.toInt_sub, Int32.toInt_mul, Int32.toInt_neg, pq_NuO, pq_NuI, pq_NuJ, pq_NuR, pq_shr6, pq_shr7, pq_shr8, lqm1, lq0, lq1] at *; (try simp (disch := omega) only [pq_bm] at *); all_goals omega)), (by focus ((try clear hY); (try clear p4); simp only [vp_in_iff, Int32.lt_iff_toInt_lt, Int32.le_iff_toInt_le, ← Int32.toInt_inj, Int32.toInt_add, Int32.toInt_sub, Int32.toInt_mul, Int32.toInt_neg, pq_NuO, pq_NuI, pq_NuJ, pq_NuR, pq_shr6, pq_shr7, pq_shr8, lqm1, lq0, lq1] at *; (try simp (disch := omega) only [pq_bm] at *); all_goals omega)), rfl⟩) dL_octet_14)
  obtain ⟨hF4, y4, rfl, p4⟩ := w4
  have ha_4 := (hF4.1 _ _ ha (by decide)).1
  have hou_4 := (hF4.1 _ _ hou (by decide)).1
  have hol2 : hN S4 ou = 1 := ((hF4.1 ou 186 hou (by decide)).2).trans hol
  exact p4.elim

set_option maxHeartbeats 4000000 in
set_option maxRecDepth 100000 in
theorem k_L_setY (l : Launch) (D : va_G) (cy : Nat → ClassId) (hl0 : l.stackTraces = false) (S : HS) (a : Nat) (ha : pq_R S a 13) (pw : Int32) (ou : Nat) (hou : pq_R S ou 186) (hY : pf_Y S a) (hol : hN S ou = 1) : pq_CH l D cy yL_set cL_set 4 (some .int) [(0, 9, 12, 19), (0, 9, 15, 24), (0, 9, 18, 13)] 7 9 1246 S [.ref a, .int pw, .ref ou] (fun v S2 => pq_Fr [(9, 5), (9, 6), (9, 7), (9, 8), (9, 9), (5, 2), (190, 0), (191, 0), (195, 0), (194, 0), (8, 3), (230, 0), (231, 0), (13, 8), (12, 1), (6, 3), (156, 0), (157, 0), (158, 0), (11, 6), (198, 0), (199, 0), (167, 0), (11, 7), (11, 8), (11, 9), (166, 0), (197, 0), (7, 7), (159, 0), (192, 0), (193, 0), (161, 0), (162, 0), (160, 0), (150, 0), (151, 0), (3, 4), (3, 5), (3, 3), (3, 6), (3, 7), (206, 0), (152, 0), (153, 0), (154, 0), (33, 4), (33, 5), (33, 3), (33, 6), (33, 7), (207, 0), (155, 0), (186, 0)] S S2 ∧ ∃ x : Int32, v = some (.int x) ∧ 0 ≤ x.toInt ∧ x.toInt ≤ 1 ∧ ((x = 0 ∧ (pw = 0 ∨ pw = 1) ∧ hJ S2 ou 0 = (0 : Int32).toInt64) ∨ (x = 1 ∧ ¬ (pw = 0 ∨ pw = 1)))) (fun U => pq_Dn U ∧ va_Nc "java/lang/UnsupportedOperationException" "java/lang/IllegalArgumentException" U ∧ va_Nc "java/lang/IndexOutOfBoundsException" "java/lang/IllegalArgumentException" U ∧ va_Nc "java/lang/IndexOutOfBoundsException" "java/lang/UnsupportedOperationException" U) := by
  refine pq_startH (by decide) (Nat.le_of_ble_eq_true rfl) ?_
  intro p e s m args below meth c A F hr hlk hA htb hEx
  have lqm1 : (-1 : Int32).toInt = -1 := rfl
  have lq0 : (0 : Int32).toInt = 0 := rfl
  have lq1 : (1 : Int32).toInt = 1 := rfl
  have lq2 : (2 : Int32).toInt = 2 := rfl
  have lq3 : (3 : Int32).toInt = 3 := rfl
  refine pq_aload_n F dL_set_0 rfl rfl ?_
  refine pq_iconst (v := 0) F dL_set_1 (by decide) ?_
  refine pq_aload_n F dL_set_2 rfl rfl ?_
  refine pq_iload_n F dL_set_3 rfl rfl ?_
  refine pq_callVX (As := [_]) F hEx.1 (k_X10_setY l D cy hl0 _ _ ?_ _ hY) ml_L_21 (pq_gt2 (i := 239) rfl rfl) ha (by decide) rfl (Nat.le_of_ble_eq_true rfl) ⟨Nat.le_of_ble_eq_true rfl, Nat.le_of_ble_eq_true rfl⟩ ⟨Nat.le_of_ble_eq_true rfl, Nat.le_of_ble_eq_true rfl⟩ dL_set_4 (fun E4 T4 q4 xw4 => ?_) (fun v4 S4 w4 => ?_)
  · exact ha
  · skip
    obtain ⟨rfl, hx1, hFx⟩ := xw4
    refine ⟨12, ⟨[], ⟨0, 9, 12, 19⟩, [⟨0, 9, 15, 24⟩, ⟨0, 9, 18, 13⟩], "java/lang/IllegalArgumentException", htb, fun z hz => absurd hz List.not_mem_nil, (by decide), (by decide), (F.2.2.2.2.1 _ cl_L_19), (pq_wN' F.2.2.2.2.2.2.2.1 pq_cw19), rfl⟩, ?_⟩
    refine pq_astore_n F dL_set_12 rfl (by decide) ?_
    refine pq_iconst (v := 1) F dL_set_13 (by decide) ?_
    exact pq_lift (pq_iret F hr hlk hA (Nat.le_of_ble_eq_true rfl) (Nat.le_of_ble_eq_true rfl) (⟨(hFx.mono (by decide)), 1, rfl, (by focus ((try clear hY); (try clear p4); simp only [vp_in_iff, Int32.lt_iff_toInt_lt, Int32.le_iff_toInt_le, ← Int32.toInt_inj, Int32.toInt_add, Int32.toInt_sub, Int32.toInt_mul, Int32.toInt_neg, pq_NuO, pq_NuI, pq_NuJ, pq_NuR, pq_shr6, pq_shr7, pq_shr8, lqm1, lq0, lq1, lq2, lq3] at *; (try simp (disch := omega) only [pq_bm] at *); all_goals omega)), (by focus ((try clear hY); (try clear p4); simp only [vp_in_iff, Int32.lt_iff_toInt_lt, Int32.le_iff_toInt_le, ← Int32.toInt_inj, Int32.toInt_add, Int32.toInt_sub, Int32.toInt_mul, Int32.toInt_neg, pq_NuO, pq_NuI, pq_NuJ, pq_NuR, pq_shr6, pq_shr7, pq_shr8, lqm1, lq0, lq1, lq2, lq3] at *; (try simp (disch := omega) only [pq_bm] at *); all_goals omega)), Or.inr ⟨rfl, hx1⟩⟩) dL_set_14)
  obtain ⟨hF4, y4, rfl, p4⟩ := w4
  have ha_4 := (hF4.1 _ _ ha (by decide)).1
  have hou_4 := (hF4.1 _ _ hou (by decide)).1
  have hol2 : hN S4 ou = 1 := ((hF4.1 ou 186 hou (by decide)).2).trans hol
  refine pq_i2l F dL_set_7 ?_
  refine pq_last F hou_4 (by decide) (by decide) rfl (fun n1_8 n2_8 => (by focus ((try clear hY); (try clear p4); simp only [vp_in_iff, Int32.lt_iff_toInt_lt, Int32.le_iff_toInt_le, ← Int32.toInt_inj, Int32.toInt_add, Int32.toInt_sub, Int32.toInt_mul, Int32.toInt_neg, pq_NuO, pq_NuI, pq_NuJ, pq_NuR, pq_shr6, pq_shr7, pq_shr8, lqm1, lq0, lq1, lq2, lq3] at *; (try simp (disch := omega) only [pq_bm] at *); all_goals omega))) dL_set_8 ?_
  refine pq_goto (tgt := 21) F dL_set_9 (by decide) ?_
  refine pq_iconst (v := 0) F dL_set_21 (by decide) ?_
  exact pq_lift (pq_iret F hr hlk hA (Nat.le_of_ble_eq_true rfl) (Nat.le_of_ble_eq_true rfl) (⟨((pq_Fr.rf.cm hF4 (by decide)).uJ hou_4 (by first | decide | exact List.mem_cons_self)), 0, rfl, (by focus ((try clear hY); (try clear p4); simp only [vp_in_iff, Int32.lt_iff_toInt_lt, Int32.le_iff_toInt_le, ← Int32.toInt_inj, Int32.toInt_add, Int32.toInt_sub, Int32.toInt_mul, Int32.toInt_neg, pq_NuO, pq_NuI, pq_NuJ, pq_NuR, pq_shr6, pq_shr7, pq_shr8, lqm1, lq0, lq1, lq2, lq3] at *; (try simp (disch := omega) only [pq_bm] at *); all_goals omega)), (by focus ((try clear hY); (try clear p4); simp only [vp_in_iff, Int32.lt_iff_toInt_lt, Int32.le_iff_toInt_le, ← Int32.toInt_inj, Int32.toInt_add, Int32.toInt_sub, Int32.toInt_mul, Int32.toInt_neg, pq_NuO, pq_NuI, pq_NuJ, pq_NuR, pq_shr6, pq_shr7, pq_shr8, lqm1, lq0, lq1, lq2, lq3] at *; (try simp (disch := omega) only [pq_bm] at *); all_goals omega)), Or.inl ⟨rfl, p4.1, (by simp only [pq_IuO, pq_IuJ, pq_Iu, pq_JuO, pq_JuI, pq_Ju, pq_RuO, pq_RuJ, pq_RuI, if_true, if_false]; exact pf_ulS.trans (by rw [p4.2]))⟩⟩) dL_set_22)

/-- what a new object of the class reads -/
def pf_Yl : List (Nat × Nat) := pq_Ifl ++ [(12, 1), (13, 8), (3, 0), (3, 2), (3, 3), (3, 4), (3, 5), (3, 6), (3, 7), (150, 0), (152, 0), (206, 0), (33, 0), (33, 2), (33, 3), (33, 4), (33, 5), (33, 6), (33, 7), (153, 0), (155, 0), (207, 0), (10, 2), (10, 3), (10, 4), (10, 6), (10, 7)]
theorem pf_Y.fr {S S1 : HS} {x : Nat} {M : List (Nat × Nat)} (h : pf_Y S x) (hF : pq_Fr M S S1) (hM : ∀ q ∈ M, q ∉ pf_Yl) : pf_Y S1 x := by
  obtain ⟨tp, pl, rd, wk, mg, pt, ct, sr, A, B, h1, h2, h3, h4, h5, h6, h7⟩ := h
  have h1b := h1
  obtain ⟨-, ⟨b0, b1, b2, b3, b4, b5, b6, b7, b8⟩, -, ⟨d0, d1, d2, d3⟩⟩ := h1b
  have nm : ∀ q, q ∈ pf_Yl → q ∉ M := fun q hq hm => hM q hm hq
  have sb : ∀ L : List (Nat × Nat), (∀ q ∈ L, q ∈ pf_Yl) → ∀ q ∈ M, q ∉ L := fun L hL q hq hl => hM q hq (hL q hl)
  exact ⟨tp, pl, rd, wk, mg, pt, ct, sr, A, B, h1.fr hF (sb _ (by decide)), hF.O b1 (by decide) (nm _ (by decide)) h2, hF.O b0 (by decide) (nm _ (by decide)) h3,
    h4.fr d2 (by decide) (by decide) (by decide) (by decide) hF (sb _ (by decide)), h5.fr d3 (by decide) (by decide) (by decide) (by decide) hF (sb _ (by decide)), h6.fr b8 hF (sb _ (by decide)), hF.O b8 (by decide) (nm _ (by decide)) h7⟩
/-- what a new reference reads -/
def pf_Zl : List (Nat × Nat) := [(14, 39), (14, 37), (14, 38), (14, 21), (14, 4), (14, 5), (14, 1), (14, 2), (14, 41), (14, 23), (127, 0), (202, 0), (136, 0), (137, 0)]
theorem pf_Z.fr {S S1 : HS} {a en le si st ao aa : Nat} {xs : Int32} {M : List (Nat × Nat)} (h : pf_Z S a en le si st ao aa xs) (ha : pq_R S a 14) (hF : pq_Fr M S S1) (hM : ∀ q ∈ M, q ∉ pf_Zl) : pf_Z S1 a en le si st ao aa xs := by
  obtain ⟨⟨⟨f39, hen⟩, ⟨f37, hle⟩, ⟨f38, hsi⟩, ⟨f21, hst⟩, ⟨f4, hao⟩, f5, haa⟩, ⟨f1, f2, f41⟩, ⟨f23, hx, hs0, hsm⟩, he, le2, hs⟩ := h
  have nm : ∀ q, q ∈ pf_Zl → q ∉ M := fun q hq hm => hM q hm hq
  refine ⟨⟨⟨hF.O ha (by decide) (nm _ (by decide)) f39, hF.R hen (by decide)⟩, ⟨hF.O ha (by decide) (nm _ (by decide)) f37, hF.R hle (by decide)⟩, ⟨hF.O ha (by decide) (nm _ (by decide)) f38, hF.R hsi (by decide)⟩, ⟨hF.O ha (by decide) (nm _ (by decide)) f21, hF.R hst (by decide)⟩, ⟨hF.O ha (by decide) (nm _ (by decide)) f4, hF.R hao (by decide)⟩, hF.O ha (by decide) (nm _ (by decide)) f5, hF.R haa (by decide)⟩, ⟨hF.O ha (by decide) (nm _ (by decide)) f1, hF.O ha (by decide) (nm _ (by decide)) f2, hF.O ha (by decide) (nm _ (by decide)) f41⟩, ⟨hF.O ha (by decide) (nm _ (by decide)) f23, hx, ?_, ?_⟩, ?_, ?_, ?_⟩
  · rw [hF.I hst (by decide) (nm _ (by decide))]; exact hs0
  · rw [(hF.1 aa 121 haa (by decide)).2, (hF.1 ao 120 hao (by decide)).2]; exact hsm
  · rw [hF.I hen (by decide) (nm _ (by decide))]; exact he
  · rw [hF.I hle (by decide) (nm _ (by decide))]; exact le2
  · rw [hF.I hsi (by decide) (nm _ (by decide))]; exact hs
theorem pf_ixF {p : Program} {l : Launch} {e : Env} {R : Room} {s : State} {m : MethodId} {args : Array Value} {below : List Frame} {meth : Method} {c : Code} {Q : State → Prop} {D : va_G} {cy : Nat → ClassId} {A : Nat → Prop} {nL cells slots pc : Nat} {S : HS} {lc : List (Option Value)} {st : List Value} {a : Nat} (hY : pf_Y S a) (kk : pq_Ix S a 0 0 0 → pq_At p l e R s m args below meth c Q D cy A nL cells slots pc S lc st) : pq_At p l e R s m args below meth c Q D cy A nL cells slots pc S lc st := fun H locs ls hT hP hD hS hl => by
  refine kk (hY.ix (fun b r hb hr => ?_)) H locs ls hT hP hD hS hl
  rcases hr with rfl | rfl
  · exact (hT.2 b 152 hb (by decide)).1.1
  · exact (hT.2 b 155 hb (by decide)).1.1
