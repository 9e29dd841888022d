set_option maxHeartbeats 4000000 in
set_option maxRecDepth 100000 in
theorem k_L_feedG (l : Launch) (D : va_G) (cy : Nat → ClassId) (hl0 : l.stackTraces = false) (S : HS) (a : Nat) (ha : pq_R S a 13) (pa : Int32) (pb : Int32) (pc : Int32) (pd : Int32) (pe : Int32) (ou : Nat) (hou : pq_R S ou 186) (t : Int32) (np nq : Nat) (hIx : pq_Ix S a t np nq) (hol : hN S ou = 1) (tn tb : Nat) (htn : t.toInt = (tn : Int)) (hCw : tk_Cw S a tb) : pq_CH l D cy yL_feed cL_feed 8 (some .int) [(0, 16, 19, 13)] 7 1 6 S [.ref a, .int pa, .int pb, .int pc, .int pd, .int pe, .ref ou] (fun v S2 => pq_Fr [(12, 1), (104, 0), (186, 0)] S S2 ∧ ∃ x : Int32, v = some (.int x) ∧ 0 ≤ x.toInt ∧ x.toInt ≤ 1 ∧ ((x = 0 ∧ t.toInt ≤ 2028 ∧ ∃ y : Int32, y.toInt = t.toInt + 20 ∧ pq_Ix S2 a y np nq ∧ hI S2 tb = tk_fe (hI S tb) tn pa pb pc pd pe) ∨ (x = 1 ∧ 2028 < t.toInt ∧ pq_Ix S2 a t np nq ∧ hI S2 tb = hI S tb))) pq_Dn := by
  refine pq_startH (by decide) (Nat.le_of_ble_eq_true rfl) ?_
  intro p e s m args below meth c A F hr hlk hA htb hEx
  have lqm1 : (-1 : Int32).toInt = -1 := rfl
  have lq0 : (0 : Int32).toInt = 0 := rfl
  have lq1 : (1 : Int32).toInt = 1 := rfl
  refine pq_aload F dL_feed_0 rfl ?_
  refine pq_iconst (v := 0) F dL_feed_2 (by decide) ?_
  refine pq_aload_n F dL_feed_3 rfl rfl ?_
  refine pq_iload_n F dL_feed_4 rfl rfl ?_
  refine pq_iload_n F dL_feed_5 rfl rfl ?_
  refine pq_iload_n F dL_feed_6 rfl rfl ?_
  refine pq_iload F dL_feed_7 rfl ?_
  refine pq_iload F dL_feed_9 rfl ?_
  refine pq_callVX (As := [_, _, _, _, _]) F hEx (k_X10_feedG l D cy hl0 _ _ ?_ _ _ _ _ _ t np nq hIx tn tb htn hCw) ml_L_7 (pq_gt2 (i := 134) rfl rfl) ha (by decide) rfl (Nat.le_of_ble_eq_true rfl) ⟨Nat.le_of_ble_eq_true rfl, Nat.le_of_ble_eq_true rfl⟩ ⟨Nat.le_of_ble_eq_true rfl, Nat.le_of_ble_eq_true rfl⟩ dL_feed_11 (fun E11 T11 q11 xw11 => ?_) (fun v11 S11 w11 => ?_)
  · exact ha
  · skip
    obtain ⟨rfl, hx1, hFx, hIz, hbz⟩ := xw11
    refine ⟨19, (pq_Hd1 (st := 0) (en := 16) (ct := 13) htb (by decide) (by decide) (F.2.2.2.2.1 _ cl_L_13) (pq_wN' F.2.2.2.2.2.2.2.1 pq_cw13)), ?_⟩
    refine pq_astore F dL_feed_19 (by decide) ?_
    refine pq_iconst (v := 1) F dL_feed_21 (by decide) ?_
    exact pq_lift (pq_iret F hr hlk hA (Nat.le_of_ble_eq_true rfl) (Nat.le_of_ble_eq_true rfl) (⟨(hFx.mono (by decide)), 1, rfl, (by focus ((try clear hIx); (try clear hIz); (try clear p11); (try clear hCw); (try clear hbz); simp only [vp_in_iff, Int32.lt_iff_toInt_lt, Int32.le_iff_toInt_le, ← Int32.toInt_inj, Int32.toInt_add, Int32.toInt_sub, Int32.toInt_mul, Int32.toInt_neg, pq_NuO, pq_NuI, pq_NuJ, pq_NuR, pq_shr6, pq_shr7, pq_shr8, lqm1, lq0, lq1] at *; (try simp (disch := omega) only [pq_bm] at *); all_goals omega)), (by focus ((try clear hIx); (try clear hIz); (try clear p11); (try clear hCw); (try clear hbz); simp only [vp_in_iff, Int32.lt_iff_toInt_lt, Int32.le_iff_toInt_le, ← Int32.toInt_inj, Int32.toInt_add, Int32.toInt_sub, Int32.toInt_mul, Int32.toInt_neg, pq_NuO, pq_NuI, pq_NuJ, pq_NuR, pq_shr6, pq_shr7, pq_shr8, lqm1, lq0, lq1] at *; (try simp (disch := omega) only [pq_bm] at *); all_goals omega)), Or.inr ⟨rfl, hx1, hIz, hbz⟩⟩) dL_feed_22)
  obtain ⟨hF11, y11, rfl, p11⟩ := w11
  have ha_11 := (hF11.1 _ _ ha (by decide)).1
  have hou_11 := (hF11.1 _ _ hou (by decide)).1
  have hol2 : hN S11 ou = 1 := ((hF11.1 ou 186 hou (by decide)).2).trans hol
  refine pq_i2l F dL_feed_14 ?_
  refine pq_last F hou_11 (by decide) (by decide) rfl (fun n1_15 n2_15 => (by focus ((try clear hIx); (try clear hIz); (try clear p11); (try clear hCw); (try clear hbz); simp only [vp_in_iff, Int32.lt_iff_toInt_lt, Int32.le_iff_toInt_le, ← Int32.toInt_inj, Int32.toInt_add, Int32.toInt_sub, Int32.toInt_mul, Int32.toInt_neg, pq_NuO, pq_NuI, pq_NuJ, pq_NuR, pq_shr6, pq_shr7, pq_shr8, lqm1, lq0, lq1] at *; (try simp (disch := omega) only [pq_bm] at *); all_goals omega))) dL_feed_15 ?_
  refine pq_goto (tgt := 23) F dL_feed_16 (by decide) ?_
  refine pq_iconst (v := 0) F dL_feed_23 (by decide) ?_
  exact pq_lift (pq_iret F hr hlk hA (Nat.le_of_ble_eq_true rfl) (Nat.le_of_ble_eq_true rfl) (⟨((pq_Fr.rf.cm hF11 (by decide)).uJ hou_11 (by first | decide | exact List.mem_cons_self)), 0, rfl, (by focus ((try clear hIx); (try clear hIz); (try clear p11); (try clear hCw); (try clear hbz); simp only [vp_in_iff, Int32.lt_iff_toInt_lt, Int32.le_iff_toInt_le, ← Int32.toInt_inj, Int32.toInt_add, Int32.toInt_sub, Int32.toInt_mul, Int32.toInt_neg, pq_NuO, pq_NuI, pq_NuJ, pq_NuR, pq_shr6, pq_shr7, pq_shr8, lqm1, lq0, lq1] at *; (try simp (disch := omega) only [pq_bm] at *); all_goals omega)), (by focus ((try clear hIx); (try clear hIz); (try clear p11); (try clear hCw); (try clear hbz); simp only [vp_in_iff, Int32.lt_iff_toInt_lt, Int32.le_iff_toInt_le, ← Int32.toInt_inj, Int32.toInt_add, Int32.toInt_sub, Int32.toInt_mul, Int32.toInt_neg, pq_NuO, pq_NuI, pq_NuJ, pq_NuR, pq_shr6, pq_shr7, pq_shr8, lqm1, lq0, lq1] at *; (try simp (disch := omega) only [pq_bm] at *); all_goals omega)), Or.inl ⟨rfl, p11.1, y11, p11.2.1, (p11.2.2.1.fr ((pq_Fr.rf (M := [(186, 0)]) (S := S11)).uJ hou_11 (by decide)) (by decide)), p11.2.2.2⟩⟩) dL_feed_24)

