/-- THE TEXT of the class's object -/
def tk_Tq (S : HS) (x : Nat) (w : List Nat) : Prop := ∃ (sr tx : Nat) (le : Int32), hO S x 7 = .ref sr ∧ pq_R S sr 10 ∧ hO S sr 7 = .int le ∧ hO S sr 6 = .ref tx ∧ pq_R S tx 103 ∧ le.toInt = (w.length : Int) ∧ tk_Tx (hI S tx) w
theorem tk_Tq.fr {S S1 : HS} {x : Nat} {w : List Nat} {M : List (Nat × Nat)} (h : tk_Tq S x w) (hx : pq_R S x 13) (hF : pq_Fr M S S1) (hM : ∀ q ∈ [(13, 7), (10, 6), (10, 7), (103, 0)], q ∉ M) : tk_Tq S1 x w := by
  obtain ⟨sr, tx, le, a1, a2, a3, a4, a5, a6, a7⟩ := h
  exact ⟨sr, tx, le, hF.O hx (by decide) (hM _ (by decide)) a1, hF.R a2 (by decide), hF.O a2 (by decide) (hM _ (by decide)) a3, hF.O a2 (by decide) (hM _ (by decide)) a4, hF.R a5 (by decide), a6, by rw [hF.I a5 (by decide) (hM _ (by decide))]; exact a7⟩
/-- first's answer, and the text that it leaves -/
def tk_Aw (Kp : List Nat → Prop) (x : Int32) (w : List Nat) : Prop := (x.toInt = -1 ∧ w = [] ∧ tk_No Kp) ∨ (tk_Ff Kp w ∧ x.toInt = (w.length : Int))
theorem tk_Aw.eq {Kp : List Nat → Prop} {x y : Int32} {v w : List Nat} (h : tk_Aw Kp x v) (g : tk_Aw Kp y w) : x = y ∧ v = w := by
  rcases h with ⟨h1, h2, h3⟩ | ⟨h1, h2⟩ <;> rcases g with ⟨g1, g2, g3⟩ | ⟨g1, g2⟩
  · exact ⟨Int32.toInt_inj.mp (by rw [h1, g1]), by rw [h2, g2]⟩
  · exact absurd g1.2.1 (h3 _ g1.1)
  · exact absurd h1.2.1 (g3 _ h1.1)
  · have e := h1.eq g1
    subst e
    exact ⟨Int32.toInt_inj.mp (by rw [h2, g2]), rfl⟩
theorem tk_An.w {Kp : List Nat → Prop} {x le : Int32} {T : Nat → Int32} (h : tk_An Kp x le T) : ∃ w, tk_Aw Kp x w ∧ le.toInt = (w.length : Int) ∧ tk_Tx T w := by
  rcases h with ⟨h1, h2, h3⟩ | ⟨w, h1, h2, h3, h4⟩
  · exact ⟨[], Or.inl ⟨h1, rfl, h3⟩, h2, tk_Tx.nil⟩
  · exact ⟨w, Or.inr ⟨h1, h2⟩, h3, h4⟩
set_option maxHeartbeats 4000000 in
set_option maxRecDepth 100000 in
theorem k_X10_firstJ (l : Launch) (D : va_G) (cy : Nat → ClassId) (hl0 : l.stackTraces = false) (S : HS) (a : Nat) (ha : pq_R S a 13) (kd : Int32) (t : Int32) (np nq : Nat) (hI : pq_Ix S a t np nq) (wp wo wq : Nat) (hE : pq_Fe S a kd np nq wp wo wq) (hkg : (0 ≤ kd.toInt ∧ kd.toInt ≤ 4)) (LA LB : List Nat → Prop) (hAs : tk_As S a LA LB) : pq_CX l D cy yX10_first cX10_first 2 (some .int) 6 4 (wp + wo + wq + 80804) S [.ref a, .int kd] (fun v S2 => pq_Fr [(10, 7), (10, 1), (163, 0), (10, 2), (10, 3), (10, 4), (10, 5), (10, 6), (103, 0), (164, 0), (165, 0), (196, 0)] S S2 ∧ ∃ x : Int32, v = some (.int x) ∧ (∃ np2 nq2 : Nat, pq_Ix S2 a t np2 nq2 ∧ (2 * np + wp ≤ 2 * np2 ∧ 2 * np + wo ≤ 2 * np2 ∧ 2 * nq + wq ≤ 2 * nq2) ∧ (np2 ≤ 80804 ∧ nq2 ≤ 1608) ∧ ∃ w : List Nat, tk_Aw (tk_Kd kd LA LB) x w ∧ tk_Tq S2 a w)) (fun E S2 => False) := by
  refine pq_startX (by decide) (Nat.le_of_ble_eq_true rfl) ?_
  intro p e s m args below meth c A F hr hlk hnm hA ht
  have lqm1 : (-1 : Int32).toInt = -1 := rfl
  have lq0 : (0 : Int32).toInt = 0 := rfl
  have lq1 : (1 : Int32).toInt = 1 := rfl
  have lq5 : (5 : Int32).toInt = 5 := rfl
  obtain ⟨tp, pl, rd, wk, mg, pt, ct, sr, A9, B9, hIf, fet, ⟨ht0, ht1⟩, hIA, hIB, hIs⟩ := hI
  have hIf2 := hIf
  obtain ⟨⟨fa0, fa1, fa2, fa3, fa4, fa5, fa6, fa7⟩, ⟨fb0, fb1, fb2, fb3, fb4, fb5, fb6, fb7, fb8⟩, ⟨fc0, fc1, fc2, fc3⟩, ⟨fd0, fd1, fd2, fd3⟩⟩ := hIf2
  obtain ⟨pt2, A2, B2, ⟨v1, v2, v3, v4, v5, v6⟩, hAo, hBo⟩ := hAs
  obtain rfl := tk_rj fa5 v1
  obtain rfl := Option.some.inj (fd0.symm.trans v3)
  obtain rfl := Option.some.inj (fd1.symm.trans v4)
  refine pq_iload_n F dX10_first_0 rfl rfl ?_
  refine pq_if_lt (tgt := 9) F dX10_first_1 (by decide) (fun c1 => ?_) (fun c1 => ?_)
  · exact (by exfalso; focus ((try clear hIf); (try clear hIA); (try clear hIB); (try clear hIs); (try clear p1); (try clear p28); (try clear p36); (try clear p44); (try clear p53); (try clear p62); (try clear hwc); (try clear hE); (try clear hEE); (try clear hA9); (try clear hB9); (try clear p36); (try clear hPA); (try clear hPB); (try clear hAo); (try clear hBo); (try clear k15); (try clear hw9); (try clear ht9); simp only [vp_in_iff, Int32.lt_iff_toInt_lt, Int32.le_iff_toInt_le, ← Int32.toInt_inj, Int32.toInt_add, Int32.toInt_sub, Int32.toInt_mul, Int32.toInt_neg, pq_NuO, pq_NuI, pq_NuJ, pq_NuR, pq_shr6, pq_shr7, pq_shr8, lqm1, lq0, lq1, lq5] at *; (try simp (disch := omega) only [pq_bm] at *); all_goals omega))
  · skip
    refine pq_iload_n F dX10_first_4 rfl rfl ?_
    refine pq_iconst (v := 5) F dX10_first_5 (by decide) ?_
    refine pq_icmp_lt (tgt := 19) F dX10_first_6 (by decide) (fun c6 => ?_) (fun c6 => ?_)
    · skip
      obtain ⟨koA, szA, stA, acA, nnA, snA, sz0A, nA, sa, s0A, za, hPA⟩ := hAo
      obtain ⟨koB, szB, stB, acB, nnB, snB, sz0B, nB, sb, s0B, zb, hPB⟩ := hBo
      have hIs2 := hIs
      obtain ⟨pr, og, sn, tx, le, ⟨g1, g2, g3, g4, g5, g6, g7, g8⟩, g9, g10, g11, g12, g13⟩ := hIs2
      refine pq_peekR (k := 0) fb8 (by decide) rfl (fun lb flb hlb => ?_)
      have hEE := hE pt A9 B9 sa sb za zb fa5 fd0 fd1 hPA.e5 hPB.e5 hPA.e7 hPB.e7
      refine pq_aload_n F dX10_first_19 rfl rfl ?_
      refine pq_get F ha (by decide) lk_X10_67 fa7 dX10_first_20 ?_
      refine pq_aload_n F dX10_first_23 rfl rfl ?_
      refine pq_get F ha (by decide) lk_X10_53 fa5 dX10_first_24 ?_
      refine pq_iconst (v := 0) F dX10_first_27 (by decide) ?_
      refine pq_aald F fb6 (by decide) (fun n1_28 n2_28 => (by change _ ≤ _ at n1_28; change _ ≤ 2 at n2_28; change 2 ≤ _ at n1_28; focus ((try clear hIf); (try clear hIA); (try clear hIB); (try clear hIs); (try clear p1); (try clear p28); (try clear p36); (try clear p44); (try clear p53); (try clear p62); (try clear hwc); (try clear hE); (try clear hEE); (try clear hA9); (try clear hB9); (try clear p36); (try clear hPA); (try clear hPB); (try clear hAo); (try clear hBo); (try clear k15); (try clear hw9); (try clear ht9); simp only [vp_in_iff, Int32.lt_iff_toInt_lt, Int32.le_iff_toInt_le, ← Int32.toInt_inj, Int32.toInt_add, Int32.toInt_sub, Int32.toInt_mul, Int32.toInt_neg, pq_NuO, pq_NuI, pq_NuJ, pq_NuR, pq_shr6, pq_shr7, pq_shr8, lqm1, lq0, lq1, lq5] at *; (try simp (disch := omega) only [pq_bm] at *); all_goals omega))) dX10_first_28 (fun o28 e28 k28 => ?_)
      have e28b : o28 = some A9 := e28.trans fd0
      subst e28b
      refine pq_aload_n F dX10_first_29 rfl rfl ?_
      refine pq_get F ha (by decide) lk_X10_53 fa5 dX10_first_30 ?_
      refine pq_iconst (v := 1) F dX10_first_33 (by decide) ?_
      refine pq_aald F fb6 (by decide) (fun n1_34 n2_34 => (by change _ ≤ _ at n1_34; change _ ≤ 2 at n2_34; change 2 ≤ _ at n1_34; focus ((try clear hIf); (try clear hIA); (try clear hIB); (try clear hIs); (try clear p1); (try clear p28); (try clear p36); (try clear p44); (try clear p53); (try clear p62); (try clear hwc); (try clear hE); (try clear hEE); (try clear hA9); (try clear hB9); (try clear p36); (try clear hPA); (try clear hPB); (try clear hAo); (try clear hBo); (try clear k15); (try clear hw9); (try clear ht9); simp only [vp_in_iff, Int32.lt_iff_toInt_lt, Int32.le_iff_toInt_le, ← Int32.toInt_inj, Int32.toInt_add, Int32.toInt_sub, Int32.toInt_mul, Int32.toInt_neg, pq_NuO, pq_NuI, pq_NuJ, pq_NuR, pq_shr6, pq_shr7, pq_shr8, lqm1, lq0, lq1, lq5] at *; (try simp (disch := omega) only [pq_bm] at *); all_goals omega))) dX10_first_34 (fun o34 e34 k34 => ?_)
      have e34b : o34 = some B9 := e34.trans fd1
      subst e34b
      refine pq_iload_n F dX10_first_35 rfl rfl ?_
      refine pq_callV (As := [_, _, _]) F (k_X7_findG l D cy _ _ ?_ _ ?_ _ ?_ _ koA szA stA acA nnA snA sz0A nA sa s0A za LA hPA koB szB stB acB nnB snB sz0B nB sb s0B zb LB hPB pr og sn g1 g2 g3 g4 g5 g6 (g11.trans g12.symm) tx wp wo wq lb flb hlb g7 g8 (by rw [g11, g12, g13]; exact hEE)) ml_X10_144 fb8 (by decide) rfl (Nat.le_of_ble_eq_true rfl) ⟨Nat.le_of_ble_eq_true rfl, Nat.le_of_ble_eq_true rfl⟩ ⟨(by first | exact Nat.le_of_ble_eq_true rfl | (show _ ≤ 4; simp only [Nat.zero_add, Nat.add_zero]; first | exact Nat.le_refl _ | exact Nat.zero_le _)), (by first | exact Nat.le_of_ble_eq_true rfl | (show _ ≤ (wp + wo + wq + 80804); simp only [Nat.zero_add, Nat.add_zero]; first | exact Nat.le_refl _ | exact Nat.zero_le _))⟩ dX10_first_36 (fun v36 S36 w36 => ?_)
      · exact fb8
      · exact fd2
      · exact fd3
      obtain ⟨hF36, y36, rfl, p36⟩ := w36
      have ha_36 := (hF36.1 _ _ ha (by decide)).1
      have fb1_36 := (hF36.1 _ _ fb1 (by decide)).1
      have ec36_0_ha_36 := hF36.O ha (by decide) (by decide) fa0
      have fb2_36 := (hF36.1 _ _ fb2 (by decide)).1
      have ec36_1_ha_36 := hF36.O ha (by decide) (by decide) fa1
      have fb3_36 := (hF36.1 _ _ fb3 (by decide)).1
      have ec36_2_ha_36 := hF36.O ha (by decide) (by decide) fa2
      have fb4_36 := (hF36.1 _ _ fb4 (by decide)).1
      have ec36_3_ha_36 := hF36.O ha (by decide) (by decide) fa3
      have fb5_36 := (hF36.1 _ _ fb5 (by decide)).1
      have ec36_4_ha_36 := hF36.O ha (by decide) (by decide) fa4
      have fb6_36 := (hF36.1 _ _ fb6 (by decide)).1
      have ec36_5_ha_36 := hF36.O ha (by decide) (by decide) fa5
      have fb7_36 := (hF36.1 _ _ fb7 (by decide)).1
      have ec36_6_ha_36 := hF36.O ha (by decide) (by decide) fa6
      have fb8_36 := (hF36.1 _ _ fb8 (by decide)).1
      have ec36_7_ha_36 := hF36.O ha (by decide) (by decide) fa7
      have ec36_1_fb1_36 := hF36.O fb1 (by decide) (by decide) fet
      obtain ⟨le2, tx2, pr2, og2, sn2, k1, k2, k3, k4, ⟨k5, k6, k7, k8, k9, k10⟩, k11, k12, k13, k14, k15⟩ := p36
      refine pq_lenF k6 (by decide) rfl (fun lp1 lp2 => ?_)
      refine pq_lenF k10 (by decide) rfl (fun ls1 ls2 => ?_)
      rw [g11] at k12
      rw [g12, ← k11] at k13
      rw [g13] at k14
      obtain ⟨w9, hw9, hl9, ht9⟩ := k15.w
      exact pq_lift (pq_iret F hr hlk hA (by show _ ≤ 4; exact Nat.le_of_ble_eq_true rfl) (by show _ ≤ wp + wo + wq + 80804; simp only [Nat.zero_add, Nat.add_zero]; first | exact Nat.le_refl _ | exact Nat.zero_le _) (pq_andM (M0 := [(10, 7), (10, 1), (163, 0), (10, 2), (10, 3), (10, 4), (10, 5), (10, 6), (103, 0), (164, 0), (165, 0), (196, 0)]) (by decide) ((pq_Fr.rf.cm hF36 (by decide))) (fun hFF => ⟨_, rfl, hN S36 pr2, hN S36 sn2, ⟨tp, pl, rd, wk, mg, pt, ct, sr, A9, B9, hIf.fr hFF (by decide), (hF36.O fb1 (by decide) (by decide) fet), ⟨(by focus ((try clear hIf); (try clear hIA); (try clear hIB); (try clear hIs); (try clear p1); (try clear p28); (try clear p36); (try clear p44); (try clear p53); (try clear p62); (try clear hwc); (try clear hE); (try clear hEE); (try clear hA9); (try clear hB9); (try clear p36); (try clear hPA); (try clear hPB); (try clear hAo); (try clear hBo); (try clear k15); (try clear hw9); (try clear ht9); simp only [vp_in_iff, Int32.lt_iff_toInt_lt, Int32.le_iff_toInt_le, ← Int32.toInt_inj, Int32.toInt_add, Int32.toInt_sub, Int32.toInt_mul, Int32.toInt_neg, pq_NuO, pq_NuI, pq_NuJ, pq_NuR, pq_shr6, pq_shr7, pq_shr8, lqm1, lq0, lq1, lq5] at *; (try simp (disch := omega) only [pq_bm] at *); all_goals omega)), (by focus ((try clear hIf); (try clear hIA); (try clear hIB); (try clear hIs); (try clear p1); (try clear p28); (try clear p36); (try clear p44); (try clear p53); (try clear p62); (try clear hwc); (try clear hE); (try clear hEE); (try clear hA9); (try clear hB9); (try clear p36); (try clear hPA); (try clear hPB); (try clear hAo); (try clear hBo); (try clear k15); (try clear hw9); (try clear ht9); simp only [vp_in_iff, Int32.lt_iff_toInt_lt, Int32.le_iff_toInt_le, ← Int32.toInt_inj, Int32.toInt_add, Int32.toInt_sub, Int32.toInt_mul, Int32.toInt_neg, pq_NuO, pq_NuI, pq_NuJ, pq_NuR, pq_shr6, pq_shr7, pq_shr8, lqm1, lq0, lq1, lq5] at *; (try simp (disch := omega) only [pq_bm] at *); all_goals omega))⟩, hIA.fr fd2 (by decide) (by decide) (by decide) hFF (by decide), hIB.fr fd3 (by decide) (by decide) (by decide) hFF (by decide), ⟨pr2, og2, sn2, tx2, le2, ⟨k5, k6, k7, k8, k9, k10, k2, k3⟩, k1, k4, rfl, k11.symm, rfl⟩⟩, ⟨k12, k13, k14⟩, ⟨lp2, ls2⟩, w9, hw9, sr, tx2, le2, hFF.O ha (by decide) (by decide) fa7, hFF.R fb8 (by decide), k1, k2, k3, hl9, ht9⟩)) dX10_first_39)
    · exact (by exfalso; focus ((try clear hIf); (try clear hIA); (try clear hIB); (try clear hIs); (try clear p1); (try clear p28); (try clear p36); (try clear p44); (try clear p53); (try clear p62); (try clear hwc); (try clear hE); (try clear hEE); (try clear hA9); (try clear hB9); (try clear p36); (try clear hPA); (try clear hPB); (try clear hAo); (try clear hBo); (try clear k15); (try clear hw9); (try clear ht9); simp only [vp_in_iff, Int32.lt_iff_toInt_lt, Int32.le_iff_toInt_le, ← Int32.toInt_inj, Int32.toInt_add, Int32.toInt_sub, Int32.toInt_mul, Int32.toInt_neg, pq_NuO, pq_NuI, pq_NuJ, pq_NuR, pq_shr6, pq_shr7, pq_shr8, lqm1, lq0, lq1, lq5] at *; (try simp (disch := omega) only [pq_bm] at *); all_goals omega))

set_option maxHeartbeats 4000000 in
set_option maxRecDepth 100000 in
theorem k_L_firstJ (l : Launch) (D : va_G) (cy : Nat → ClassId) (hl0 : l.stackTraces = false) (S : HS) (a : Nat) (ha : pq_R S a 13) (kd : Int32) (ou : Nat) (hou : pq_R S ou 186) (t : Int32) (np nq : Nat) (hIx : pq_Ix S a t np nq) (hol : hN S ou = 1) (wp wo wq : Nat) (hE : pq_Fe S a kd np nq wp wo wq) (hkg : (0 ≤ kd.toInt ∧ kd.toInt ≤ 4)) (LA LB : List Nat → Prop) (hAs : tk_As S a LA LB) : pq_CH l D cy yL_first cL_first 4 (some .int) [(0, 9, 12, 19)] 7 4 (wp + wo + wq + 80804) S [.ref a, .int kd, .ref ou] (fun v S2 => pq_Fr [(10, 7), (10, 1), (163, 0), (10, 2), (10, 3), (10, 4), (10, 5), (10, 6), (103, 0), (164, 0), (165, 0), (196, 0), (186, 0)] S S2 ∧ ∃ x : Int32, v = some (.int x) ∧ 0 ≤ x.toInt ∧ x.toInt ≤ 1 ∧ (x = 0 ∧ ∃ np2 nq2 : Nat, pq_Ix S2 a t np2 nq2 ∧ (2 * np + wp ≤ 2 * np2 ∧ 2 * np + wo ≤ 2 * np2 ∧ 2 * nq + wq ≤ 2 * nq2) ∧ (np2 ≤ 80804 ∧ nq2 ≤ 1608) ∧ ∃ (y : Int32) (w : List Nat), tk_Aw (tk_Kd kd LA LB) y w ∧ hJ S2 ou 0 = y.toInt64 ∧ tk_Tq S2 a w)) pq_Dn := by
  refine pq_startH (by decide) (Nat.le_of_ble_eq_true rfl) ?_
  intro p e s m args below meth c A F hr hlk hA htb hEx
  have lqm1 : (-1 : Int32).toInt = -1 := rfl
  have lq0 : (0 : Int32).toInt = 0 := rfl
  have lq1 : (1 : Int32).toInt = 1 := rfl
  refine pq_aload_n F dL_first_0 rfl rfl ?_
  refine pq_iconst (v := 0) F dL_first_1 (by decide) ?_
  refine pq_aload_n F dL_first_2 rfl rfl ?_
  refine pq_iload_n F dL_first_3 rfl rfl ?_
  refine pq_callVX (As := [_]) F hEx (k_X10_firstJ l D cy hl0 _ _ ?_ _ t np nq hIx wp wo wq hE hkg LA LB hAs) ml_L_33 (pq_gt5 (i := 130) rfl rfl) ha (by decide) rfl (Nat.le_of_ble_eq_true rfl) ⟨Nat.le_of_ble_eq_true rfl, Nat.le_of_ble_eq_true rfl⟩ ⟨(by show 0 + 4 ≤ 4; omega), (by show 0 + (wp + wo + wq + 80804) ≤ (wp + wo + wq + 80804); omega)⟩ dL_first_4 (fun E4 T4 q4 xw4 => ?_) (fun v4 S4 w4 => ?_)
  · exact ha
  · skip
    exact False.elim xw4
  obtain ⟨hF4, y4, rfl, p4⟩ := w4
  have ha_4 := (hF4.1 _ _ ha (by decide)).1
  have hou_4 := (hF4.1 _ _ hou (by decide)).1
  have hol2 : hN S4 ou = 1 := ((hF4.1 ou 186 hou (by decide)).2).trans hol
  obtain ⟨n8, n9, hI8, hq8, hq7, w9, hw9, ht9⟩ := p4
  refine pq_i2l F dL_first_7 ?_
  refine pq_last F hou_4 (by decide) (by decide) rfl (fun n1_8 n2_8 => (by focus ((try clear hIx); (try clear p4); (try clear hE); (try clear hI8); (try clear hq8); (try clear hq7); (try clear hAs); (try clear hw9); (try clear ht9); simp only [vp_in_iff, Int32.lt_iff_toInt_lt, Int32.le_iff_toInt_le, ← Int32.toInt_inj, Int32.toInt_add, Int32.toInt_sub, Int32.toInt_mul, Int32.toInt_neg, pq_NuO, pq_NuI, pq_NuJ, pq_NuR, pq_shr6, pq_shr7, pq_shr8, lqm1, lq0, lq1] at *; (try simp (disch := omega) only [pq_bm] at *); all_goals omega))) dL_first_8 ?_
  refine pq_goto (tgt := 15) F dL_first_9 (by decide) ?_
  refine pq_iconst (v := 0) F dL_first_15 (by decide) ?_
  exact pq_lift (pq_iret F hr hlk hA (by show 0 + 4 ≤ 4; omega) (by show 0 + (wp + wo + wq + 80804) ≤ (wp + wo + wq + 80804); omega) (⟨((pq_Fr.rf.cm hF4 (by decide)).uJ hou_4 (by first | decide | exact List.mem_cons_self)), 0, rfl, (by focus ((try clear hIx); (try clear p4); (try clear hE); (try clear hI8); (try clear hq8); (try clear hq7); (try clear hAs); (try clear hw9); (try clear ht9); simp only [vp_in_iff, Int32.lt_iff_toInt_lt, Int32.le_iff_toInt_le, ← Int32.toInt_inj, Int32.toInt_add, Int32.toInt_sub, Int32.toInt_mul, Int32.toInt_neg, pq_NuO, pq_NuI, pq_NuJ, pq_NuR, pq_shr6, pq_shr7, pq_shr8, lqm1, lq0, lq1] at *; (try simp (disch := omega) only [pq_bm] at *); all_goals omega)), (by focus ((try clear hIx); (try clear p4); (try clear hE); (try clear hI8); (try clear hq8); (try clear hq7); (try clear hAs); (try clear hw9); (try clear ht9); simp only [vp_in_iff, Int32.lt_iff_toInt_lt, Int32.le_iff_toInt_le, ← Int32.toInt_inj, Int32.toInt_add, Int32.toInt_sub, Int32.toInt_mul, Int32.toInt_neg, pq_NuO, pq_NuI, pq_NuJ, pq_NuR, pq_shr6, pq_shr7, pq_shr8, lqm1, lq0, lq1] at *; (try simp (disch := omega) only [pq_bm] at *); all_goals omega)), rfl, n8, n9, (hI8.fr ((pq_Fr.rf (M := [(186, 0)]) (S := S4)).uJ hou_4 (by decide)) (by decide)), hq8, hq7, y4, w9, hw9, (by show hJ (pq_uJ S4 ou _) ou 0 = _; rw [pq_Ju, if_pos rfl]; exact pq_ul), ht9.fr ha_4 ((pq_Fr.rf (M := [(186, 0)]) (S := S4)).uJ hou_4 (by decide)) (by decide)⟩) dL_first_16)

set_option maxHeartbeats 4000000 in
set_option maxRecDepth 100000 in
theorem k_L_firstY (l : Launch) (D : va_G) (cy : Nat → ClassId) (hl0 : l.stackTraces = false) (S : HS) (a : Nat) (ha : pq_R S a 13) (kd : Int32) (ou : Nat) (hou : pq_R S ou 186) (t : Int32) (np nq : Nat) (hIx : pq_Ix S a t np nq) (hol : hN S ou = 1) (hkb : ¬ (0 ≤ kd.toInt ∧ kd.toInt ≤ 4)) : pq_CH l D cy yL_first cL_first 4 (some .int) [(0, 9, 12, 19)] 7 1 6 S [.ref a, .int kd, .ref ou] (fun v S2 => pq_Fr [(186, 0)] S S2 ∧ ∃ x : Int32, v = some (.int x) ∧ 0 ≤ x.toInt ∧ x.toInt ≤ 1 ∧ (x = 1 ∧ pq_Ix S2 a t np nq)) pq_Dn := by
  refine pq_startH (by decide) (Nat.le_of_ble_eq_true rfl) ?_
  intro p e s m args below meth c A F hr hlk hA htb hEx
  have lqm1 : (-1 : Int32).toInt = -1 := rfl
  have lq0 : (0 : Int32).toInt = 0 := rfl
  have lq1 : (1 : Int32).toInt = 1 := rfl
  refine pq_aload_n F dL_first_0 rfl rfl ?_
  refine pq_iconst (v := 0) F dL_first_1 (by decide) ?_
  refine pq_aload_n F dL_first_2 rfl rfl ?_
  refine pq_iload_n F dL_first_3 rfl rfl ?_
  refine pq_callVX (As := [_]) F hEx (k_X10_firstX l D cy hl0 _ _ ?_ _ t np nq hIx hkb) ml_L_33 (pq_gt5 (i := 130) rfl rfl) ha (by decide) rfl (Nat.le_of_ble_eq_true rfl) ⟨Nat.le_of_ble_eq_true rfl, Nat.le_of_ble_eq_true rfl⟩ ⟨Nat.le_of_ble_eq_true rfl, Nat.le_of_ble_eq_true rfl⟩ dL_first_4 (fun E4 T4 q4 xw4 => ?_) (fun v4 S4 w4 => ?_)
  · exact ha
  · skip
    obtain ⟨rfl, hFx, hIz⟩ := xw4
    refine ⟨12, (pq_Hd1 (st := 0) (en := 9) (ct := 19) htb (by decide) (by decide) (F.2.2.2.2.1 _ cl_L_19) (pq_wN' F.2.2.2.2.2.2.2.1 pq_cw19)), ?_⟩
    refine pq_astore_n F dL_first_12 rfl (by decide) ?_
    refine pq_iconst (v := 1) F dL_first_13 (by decide) ?_
    exact pq_lift (pq_iret F hr hlk hA (Nat.le_of_ble_eq_true rfl) (Nat.le_of_ble_eq_true rfl) (⟨(hFx.mono (by decide)), 1, rfl, (by focus ((try clear hIx); (try clear hIz); (try clear p4); simp only [vp_in_iff, Int32.lt_iff_toInt_lt, Int32.le_iff_toInt_le, ← Int32.toInt_inj, Int32.toInt_add, Int32.toInt_sub, Int32.toInt_mul, Int32.toInt_neg, pq_NuO, pq_NuI, pq_NuJ, pq_NuR, pq_shr6, pq_shr7, pq_shr8, lqm1, lq0, lq1] at *; (try simp (disch := omega) only [pq_bm] at *); all_goals omega)), (by focus ((try clear hIx); (try clear hIz); (try clear p4); simp only [vp_in_iff, Int32.lt_iff_toInt_lt, Int32.le_iff_toInt_le, ← Int32.toInt_inj, Int32.toInt_add, Int32.toInt_sub, Int32.toInt_mul, Int32.toInt_neg, pq_NuO, pq_NuI, pq_NuJ, pq_NuR, pq_shr6, pq_shr7, pq_shr8, lqm1, lq0, lq1] at *; (try simp (disch := omega) only [pq_bm] at *); all_goals omega)), rfl, hIz⟩) dL_first_14)
  obtain ⟨hF4, y4, rfl, p4⟩ := w4
  have ha_4 := (hF4.1 _ _ ha (by decide)).1
  have hou_4 := (hF4.1 _ _ hou (by decide)).1
  exact False.elim p4

