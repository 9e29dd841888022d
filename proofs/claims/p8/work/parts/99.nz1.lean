theorem pq_cw39 : Cond.castable "java/util/NoSuchElementException" "java/util/NoSuchElementException" ∈ ntb := (pq_nt5 (i := 174) rfl rfl)
set_option maxHeartbeats 4000000 in
set_option maxRecDepth 100000 in
theorem k_L_octet (l : Launch) (D : va_G) (cy : Nat → ClassId) (hl0 : l.stackTraces = false) (S : HS) (a : Nat) (ha : pq_R S a 13) (pi : Int32) (ou : Nat) (hou : pq_R S ou 186) (t : Int32) (np nq : Nat) (hIx : pq_Ix S a t np nq) (hol : hN S ou = 1) : pq_CH l D cy yL_octet cL_octet 4 (some .int) [(0, 9, 12, 39)] 7 1 6 S [.ref a, .int pi, .ref ou] (fun v S2 => pq_Fr [(186, 0)] S S2 ∧ ∃ x : Int32, v = some (.int x) ∧ 0 ≤ x.toInt ∧ x.toInt ≤ 1 ∧ (pq_Ix S2 a t np nq)) pq_Dn := by
  refine pq_startH (by decide) (Nat.le_of_ble_eq_true rfl) ?_
  intro p e s m args below meth c A F hr hlk hA htb hEx
  have lqm1 : (-1 : Int32).toInt = -1 := rfl
  have lq0 : (0 : Int32).toInt = 0 := rfl
  have lq1 : (1 : Int32).toInt = 1 := rfl
  refine pq_aload_n F dL_octet_0 rfl rfl ?_
  refine pq_iconst (v := 0) F dL_octet_1 (by decide) ?_
  refine pq_aload_n F dL_octet_2 rfl rfl ?_
  refine pq_iload_n F dL_octet_3 rfl rfl ?_
  refine pq_callVX (As := [_]) F hEx (k_X10_octet l D cy hl0 _ _ ?_ _ t np nq hIx) ml_L_36 (pq_gt5 (i := 168) rfl rfl) ha (by decide) rfl (Nat.le_of_ble_eq_true rfl) ⟨Nat.le_of_ble_eq_true rfl, Nat.le_of_ble_eq_true rfl⟩ ⟨Nat.le_of_ble_eq_true rfl, Nat.le_of_ble_eq_true rfl⟩ dL_octet_4 (fun E4 T4 q4 xw4 => ?_) (fun v4 S4 w4 => ?_)
  · exact ha
  · skip
    obtain ⟨rfl, hFx, hIz⟩ := xw4
    refine ⟨12, (pq_Hd1 (st := 0) (en := 9) (ct := 39) htb (by decide) (by decide) (F.2.2.2.2.1 _ cl_L_39) (pq_wN' F.2.2.2.2.2.2.2.1 pq_cw39)), ?_⟩
    refine pq_astore_n F dL_octet_12 rfl (by decide) ?_
    refine pq_iconst (v := 1) F dL_octet_13 (by decide) ?_
    exact pq_lift (pq_iret F hr hlk hA (Nat.le_of_ble_eq_true rfl) (Nat.le_of_ble_eq_true rfl) (⟨(hFx.mono (by decide)), 1, rfl, (by focus ((try clear hIx); (try clear hIz); (try clear p4); simp only [vp_in_iff, Int32.lt_iff_toInt_lt, Int32.le_iff_toInt_le, ← Int32.toInt_inj, Int32.toInt_add, Int32.toInt_sub, Int32.toInt_mul, Int32.toInt_neg, pq_NuO, pq_NuI, pq_NuJ, pq_NuR, pq_shr6, pq_shr7, pq_shr8, lqm1, lq0, lq1] at *; (try simp (disch := omega) only [pq_bm] at *); all_goals omega)), (by focus ((try clear hIx); (try clear hIz); (try clear p4); simp only [vp_in_iff, Int32.lt_iff_toInt_lt, Int32.le_iff_toInt_le, ← Int32.toInt_inj, Int32.toInt_add, Int32.toInt_sub, Int32.toInt_mul, Int32.toInt_neg, pq_NuO, pq_NuI, pq_NuJ, pq_NuR, pq_shr6, pq_shr7, pq_shr8, lqm1, lq0, lq1] at *; (try simp (disch := omega) only [pq_bm] at *); all_goals omega)), hIz⟩) dL_octet_14)
  obtain ⟨hF4, y4, rfl, p4⟩ := w4
  have ha_4 := (hF4.1 _ _ ha (by decide)).1
  have hou_4 := (hF4.1 _ _ hou (by decide)).1
  have hol2 : hN S4 ou = 1 := ((hF4.1 ou 186 hou (by decide)).2).trans hol
  refine pq_i2l F dL_octet_7 ?_
  refine pq_last F hou_4 (by decide) (by decide) rfl (fun n1_8 n2_8 => (by focus ((try clear hIx); (try clear hIz); (try clear p4); simp only [vp_in_iff, Int32.lt_iff_toInt_lt, Int32.le_iff_toInt_le, ← Int32.toInt_inj, Int32.toInt_add, Int32.toInt_sub, Int32.toInt_mul, Int32.toInt_neg, pq_NuO, pq_NuI, pq_NuJ, pq_NuR, pq_shr6, pq_shr7, pq_shr8, lqm1, lq0, lq1] at *; (try simp (disch := omega) only [pq_bm] at *); all_goals omega))) dL_octet_8 ?_
  refine pq_goto (tgt := 15) F dL_octet_9 (by decide) ?_
  refine pq_iconst (v := 0) F dL_octet_15 (by decide) ?_
  exact pq_lift (pq_iret F hr hlk hA (Nat.le_of_ble_eq_true rfl) (Nat.le_of_ble_eq_true rfl) (⟨((pq_Fr.rf.cm hF4 (by decide)).uJ hou_4 (by first | decide | exact List.mem_cons_self)), 0, rfl, (by focus ((try clear hIx); (try clear hIz); (try clear p4); simp only [vp_in_iff, Int32.lt_iff_toInt_lt, Int32.le_iff_toInt_le, ← Int32.toInt_inj, Int32.toInt_add, Int32.toInt_sub, Int32.toInt_mul, Int32.toInt_neg, pq_NuO, pq_NuI, pq_NuJ, pq_NuR, pq_shr6, pq_shr7, pq_shr8, lqm1, lq0, lq1] at *; (try simp (disch := omega) only [pq_bm] at *); all_goals omega)), (by focus ((try clear hIx); (try clear hIz); (try clear p4); simp only [vp_in_iff, Int32.lt_iff_toInt_lt, Int32.le_iff_toInt_le, ← Int32.toInt_inj, Int32.toInt_add, Int32.toInt_sub, Int32.toInt_mul, Int32.toInt_neg, pq_NuO, pq_NuI, pq_NuJ, pq_NuR, pq_shr6, pq_shr7, pq_shr8, lqm1, lq0, lq1] at *; (try simp (disch := omega) only [pq_bm] at *); all_goals omega)), (p4.fr ((pq_Fr.rf (M := [(186, 0)]) (S := S4)).uJ hou_4 (by decide)) (by decide))⟩) dL_octet_16)

