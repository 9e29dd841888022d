set_option maxHeartbeats 4000000 in
set_option maxRecDepth 100000 in
theorem k_X10_firstX (l : Launch) (D : va_G) (cy : Nat → ClassId) (hl0 : l.stackTraces = false) (S : HS) (a : Nat) (ha : pq_R S a 13) (kd : Int32) (t : Int32) (np nq : Nat) (hI : pq_Ix S a t np nq) (hkb : ¬ (0 ≤ kd.toInt ∧ kd.toInt ≤ 4)) : pq_CX l D cy yX10_first cX10_first 2 (some .int) 6 1 6 S [.ref a, .int kd] (fun v S2 => pq_Fr [] S S2 ∧ ∃ x : Int32, v = some (.int x) ∧ (False)) (fun E S2 => E = "java/lang/IllegalArgumentException" ∧ pq_Fr [] S S2 ∧ pq_Ix S2 a t np nq) := by
  refine pq_startX (by decide) (Nat.le_of_ble_eq_true rfl) ?_
  intro p e s m args below meth c A F hr hlk hnm hA ht
  have lqm1 : (-1 : Int32).toInt = -1 := rfl
  have lq0 : (0 : Int32).toInt = 0 := rfl
  have lq1 : (1 : Int32).toInt = 1 := rfl
  have lq5 : (5 : Int32).toInt = 5 := rfl
  obtain ⟨tp, pl, rd, wk, mg, pt, ct, sr, A9, B9, hIf, fet, ⟨ht0, ht1⟩, hIA, hIB, hIs⟩ := hI
  have hIf2 := hIf
  obtain ⟨⟨fa0, fa1, fa2, fa3, fa4, fa5, fa6, fa7⟩, ⟨fb0, fb1, fb2, fb3, fb4, fb5, fb6, fb7, fb8⟩, ⟨fc0, fc1, fc2, fc3⟩, ⟨fd0, fd1, fd2, fd3⟩⟩ := hIf2
  refine pq_iload_n F dX10_first_0 rfl rfl ?_
  refine pq_if_lt (tgt := 9) F dX10_first_1 (by decide) (fun c1 => ?_) (fun c1 => ?_)
  · skip
    exact pq_thr F ht hlk hA hl0 (is := 142) (text := "there is no such kind of text") (cls := "java/lang/IllegalArgumentException") (by decide) xw_93 ⟨Nat.le_of_ble_eq_true rfl, Nat.le_of_ble_eq_true rfl⟩ (Nat.le_of_ble_eq_true rfl) (Nat.le_of_ble_eq_true rfl) (Nat.le_of_ble_eq_true rfl) (Nat.le_of_ble_eq_true rfl) (⟨rfl, pq_andM (M0 := []) (by decide) (pq_Fr.rf) (fun hFF => ⟨tp, pl, rd, wk, mg, pt, ct, sr, A9, B9, hIf.fr hFF (by decide), fet, ⟨(by focus ((try clear hIf); (try clear hIA); (try clear hIB); (try clear hIs); (try clear p1); (try clear p28); (try clear p36); (try clear p44); (try clear p53); (try clear p62); (try clear hwc); simp only [vp_in_iff, Int32.lt_iff_toInt_lt, Int32.le_iff_toInt_le, ← Int32.toInt_inj, Int32.toInt_add, Int32.toInt_sub, Int32.toInt_mul, Int32.toInt_neg, pq_NuO, pq_NuI, pq_NuJ, pq_NuR, pq_shr6, pq_shr7, pq_shr8, lqm1, lq0, lq1, lq5] at *; (try simp (disch := omega) only [pq_bm] at *); all_goals omega)), (by focus ((try clear hIf); (try clear hIA); (try clear hIB); (try clear hIs); (try clear p1); (try clear p28); (try clear p36); (try clear p44); (try clear p53); (try clear p62); (try clear hwc); simp only [vp_in_iff, Int32.lt_iff_toInt_lt, Int32.le_iff_toInt_le, ← Int32.toInt_inj, Int32.toInt_add, Int32.toInt_sub, Int32.toInt_mul, Int32.toInt_neg, pq_NuO, pq_NuI, pq_NuJ, pq_NuR, pq_shr6, pq_shr7, pq_shr8, lqm1, lq0, lq1, lq5] at *; (try simp (disch := omega) only [pq_bm] at *); all_goals omega))⟩, hIA.fr fd2 (by decide) (by decide) (by decide) hFF (by decide), hIB.fr fd3 (by decide) (by decide) (by decide) hFF (by decide), hIs.fr fb8 hFF (by decide)⟩)⟩) dX10_first_9 dX10_first_12 dX10_first_13 dX10_first_15 dX10_first_18
  · skip
    refine pq_iload_n F dX10_first_4 rfl rfl ?_
    refine pq_iconst (v := 5) F dX10_first_5 (by decide) ?_
    refine pq_icmp_lt (tgt := 19) F dX10_first_6 (by decide) (fun c6 => ?_) (fun c6 => ?_)
    · exact (by exfalso; focus ((try clear hIf); (try clear hIA); (try clear hIB); (try clear hIs); (try clear p1); (try clear p28); (try clear p36); (try clear p44); (try clear p53); (try clear p62); (try clear hwc); simp only [vp_in_iff, Int32.lt_iff_toInt_lt, Int32.le_iff_toInt_le, ← Int32.toInt_inj, Int32.toInt_add, Int32.toInt_sub, Int32.toInt_mul, Int32.toInt_neg, pq_NuO, pq_NuI, pq_NuJ, pq_NuR, pq_shr6, pq_shr7, pq_shr8, lqm1, lq0, lq1, lq5] at *; (try simp (disch := omega) only [pq_bm] at *); all_goals omega))
    · skip
      exact pq_thr F ht hlk hA hl0 (is := 142) (text := "there is no such kind of text") (cls := "java/lang/IllegalArgumentException") (by decide) xw_93 ⟨Nat.le_of_ble_eq_true rfl, Nat.le_of_ble_eq_true rfl⟩ (Nat.le_of_ble_eq_true rfl) (Nat.le_of_ble_eq_true rfl) (Nat.le_of_ble_eq_true rfl) (Nat.le_of_ble_eq_true rfl) (⟨rfl, pq_andM (M0 := []) (by decide) (pq_Fr.rf) (fun hFF => ⟨tp, pl, rd, wk, mg, pt, ct, sr, A9, B9, hIf.fr hFF (by decide), fet, ⟨(by focus ((try clear hIf); (try clear hIA); (try clear hIB); (try clear hIs); (try clear p1); (try clear p28); (try clear p36); (try clear p44); (try clear p53); (try clear p62); (try clear hwc); simp only [vp_in_iff, Int32.lt_iff_toInt_lt, Int32.le_iff_toInt_le, ← Int32.toInt_inj, Int32.toInt_add, Int32.toInt_sub, Int32.toInt_mul, Int32.toInt_neg, pq_NuO, pq_NuI, pq_NuJ, pq_NuR, pq_shr6, pq_shr7, pq_shr8, lqm1, lq0, lq1, lq5] at *; (try simp (disch := omega) only [pq_bm] at *); all_goals omega)), (by focus ((try clear hIf); (try clear hIA); (try clear hIB); (try clear hIs); (try clear p1); (try clear p28); (try clear p36); (try clear p44); (try clear p53); (try clear p62); (try clear hwc); simp only [vp_in_iff, Int32.lt_iff_toInt_lt, Int32.le_iff_toInt_le, ← Int32.toInt_inj, Int32.toInt_add, Int32.toInt_sub, Int32.toInt_mul, Int32.toInt_neg, pq_NuO, pq_NuI, pq_NuJ, pq_NuR, pq_shr6, pq_shr7, pq_shr8, lqm1, lq0, lq1, lq5] at *; (try simp (disch := omega) only [pq_bm] at *); all_goals omega))⟩, hIA.fr fd2 (by decide) (by decide) (by decide) hFF (by decide), hIB.fr fd3 (by decide) (by decide) (by decide) hFF (by decide), hIs.fr fb8 hFF (by decide)⟩)⟩) dX10_first_9 dX10_first_12 dX10_first_13 dX10_first_15 dX10_first_18

theorem pq_Fg.le {w n X : Nat} {nd : Int} (h : pq_Fg w nd n) (hx : nd ≤ (X : Int)) : w ≤ 2 * X := by
  rcases h with ⟨-, h⟩ | ⟨h1, h2, h3, h4 | h4⟩ <;> omega
theorem pq_feF {p : Program} {l : Launch} {e : Env} {R : Room} {s : State} {m : MethodId} {args : Array Value} {below : List Frame} {meth : Method} {c : Code} {Q : State → Prop} {D : va_G} {cy : Nat → ClassId} {A : Nat → Prop} {nL cells slots pc : Nat} {S : HS} {lc : List (Option Value)} {st : List Value} {a np nq wp wo wq : Nat} {kd t : Int32} (hI : pq_Ix S a t np nq) (hE : pq_Fe S a kd np nq wp wo wq) (kk : wp ≤ 80804 ∧ wo ≤ 80804 ∧ wq ≤ 1608 → pq_At p l e R s m args below meth c Q D cy A nL cells slots pc S lc st) : pq_At p l e R s m args below meth c Q D cy A nL cells slots pc S lc st := fun H locs ls hT hP hD hS hl => by
  obtain ⟨tp, pl, rd, wk, mg, pt, ct, sr, A1, B1, hf, -⟩ := hI
  obtain ⟨⟨a0, a1, a2, a3, a4, a5, a6, a7⟩, -, -, ⟨d0, d1, d2, d3⟩⟩ := hf
  have h5 := hT.1 A1 3 d2 (by decide) 5
  rw [show pq_ft 3 5 = (1, 1, 201) from rfl] at h5
  obtain ⟨sa, e1, (s1 : (1 : Int) ≤ sa.toInt), (s2 : sa.toInt ≤ 201)⟩ := h5
  have h7 := hT.1 A1 3 d2 (by decide) 7
  rw [show pq_ft 3 7 = (1, 0, 1) from rfl] at h7
  obtain ⟨za, e2, -, -⟩ := h7
  have h5' := hT.1 B1 33 d3 (by decide) 5
  rw [show pq_ft 33 5 = (1, 1, 201) from rfl] at h5'
  obtain ⟨sb, e3, (s3 : (1 : Int) ≤ sb.toInt), (s4 : sb.toInt ≤ 201)⟩ := h5'
  have h7' := hT.1 B1 33 d3 (by decide) 7
  rw [show pq_ft 33 7 = (1, 0, 1) from rfl] at h7'
  obtain ⟨zb, e4, -, -⟩ := h7'
  have key : sa.toInt * sb.toInt ≤ 201 * 201 := Int.mul_le_mul s2 s4 (by omega) (by decide)
  refine kk ?_ H locs ls hT hP hD hS hl
  rcases hE pt A1 B1 sa sb za zb a5 d0 d1 e1 e3 e2 e4 with ⟨-, rfl, rfl, rfl⟩ | ⟨-, g1, g2, g3⟩
  · exact ⟨Nat.zero_le _, Nat.zero_le _, Nat.zero_le _⟩
  · exact ⟨g1.le (X := 40402) (by omega), g2.le (X := 40402) (by omega), g3.le (X := 804) (by omega)⟩
