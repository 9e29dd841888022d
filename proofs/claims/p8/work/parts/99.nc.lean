/-! ===== a tape as a text ===== -/
def tk_tb (T : Nat → Int32) (n : Nat) : List Nat := (List.range n).map (fun i => (T i).toInt.toNat)
def tk_ft (L : List Nat → Prop) (T : Nat → Int32) (n : Nat) : Prop := (∀ i, i < n → 0 ≤ (T i).toInt) ∧ L (tk_tb T n)
theorem tk_tb0 {T : Nat → Int32} : tk_tb T 0 = [] := rfl
theorem tk_tbS {T : Nat → Int32} {n : Nat} : tk_tb T (n + 1) = tk_tb T n ++ [(T n).toInt.toNat] := by
  unfold tk_tb
  rw [List.range_succ, List.map_append]
  rfl
theorem tk_tb.t {T : Nat → Int32} {n : Nat} (h : ∀ i, i < n → 0 ≤ (T i).toInt ∧ (T i).toInt < 128) : tp_t (tk_tb T n) := fun b hb => by
  obtain ⟨i, hi, rfl⟩ := List.mem_map.mp hb
  have := h i (List.mem_range.mp hi)
  omega
theorem tk_cr.ap {ko st : Nat → Int32} {n b : Nat} : ∀ (w : List Nat) (s : Nat), tk_cr ko st n (w ++ [b]) s = (st (n * tk_cr ko st n w s + (ko b).toInt.toNat)).toInt.toNat
  | [], s => rfl
  | c :: w, s => by
    rw [List.cons_append, tk_cr1, tk_cr1]
    exact tk_cr.ap w _
theorem tk_rr0 {ld : Nat → Int32} {f s : Nat} : tk_rr ld f [] s = s := rfl
theorem tk_rr1 {ld : Nat → Int32} {f s b : Nat} {w : List Nat} : tk_rr ld f (b :: w) s = tk_rr ld f w (ld (128 * (f + s) + b)).toInt.toNat := rfl
theorem tk_rr.ap {ld : Nat → Int32} {f b : Nat} : ∀ (w : List Nat) (s : Nat), tk_rr ld f (w ++ [b]) s = (ld (128 * (f + tk_rr ld f w s) + b)).toInt.toNat
  | [], s => rfl
  | c :: w, s => by
    rw [List.cons_append, tk_rr1, tk_rr1]
    exact tk_rr.ap w _
theorem tk_Sa.ft {ko st ac : Nat → Int32} {n sn s0 tn : Nat} {he : Int32} {L : List Nat → Prop} {T : Nat → Int32} (h : tk_Sa ko st ac n sn s0 he L) (hn : 1 ≤ tn) (hT : ∀ i, i < tn → 0 ≤ (T i).toInt ∧ (T i).toInt < 128) : ac (tk_cr ko st n (tk_tb T tn) s0) = 1 ↔ tk_ft L T tn := by
  have ht := tk_tb.t hT
  have hl : (tk_tb T tn).length = tn := by unfold tk_tb; rw [List.length_map, List.length_range]
  have key : L (tk_tb T tn) ↔ ac (tk_cr ko st n (tk_tb T tn) s0) = 1 := by
    revert ht hl
    cases tk_tb T tn with
    | nil => intro _ hl; exact absurd hl (by show ¬ (0 = tn); omega)
    | cons b w => intro ht _; exact h.2.2.2.2.2.2 b w ht
  exact ⟨fun w => ⟨fun i hi => (hT i hi).1, key.mpr w⟩, fun w => key.mp w.2⟩
/-- the two automata and their patterns' texts -/
def tk_As (S : HS) (x : Nat) (LA LB : List Nat → Prop) : Prop := ∃ pt A B : Nat, (hO S x 5 = .ref pt ∧ pq_R S pt 220 ∧ hR S pt 0 = some A ∧ hR S pt 1 = some B ∧ pq_R S A 3 ∧ pq_R S B 33) ∧ tk_Ao S A 150 151 152 206 LA ∧ tk_Ao S B 153 154 155 207 LB
theorem tk_As.fr {S S1 : HS} {x : Nat} {LA LB : List Nat → Prop} {M : List (Nat × Nat)} (h : tk_As S x LA LB) (hx : pq_R S x 13) (hF : pq_Fr M S S1) (hM : ∀ q ∈ M, q ∉ [(13, 5), (220, 0), (3, 0), (3, 1), (3, 2), (3, 3), (3, 4), (3, 5), (3, 6), (3, 7), (150, 0), (151, 0), (152, 0), (206, 0), (33, 0), (33, 1), (33, 2), (33, 3), (33, 4), (33, 5), (33, 6), (33, 7), (153, 0), (154, 0), (155, 0), (207, 0)]) : tk_As S1 x LA LB := by
  obtain ⟨pt, A, B, ⟨a1, a2, a3, a4, a5, a6⟩, a7, a8⟩ := h
  have e := (hF.2.2 pt 220 a2 (by decide) (fun w => hM _ w (by decide))).2.2
  exact ⟨pt, A, B, ⟨hF.O hx (by decide) (fun w => hM _ w (by decide)) a1, hF.R a2 (by decide), by rw [e]; exact a3, by rw [e]; exact a4, hF.R a5 (by decide), hF.R a6 (by decide)⟩, a7.fr a5 (by decide) (by decide) hF (fun q hq w => hM q hq ((by decide : ∀ q ∈ [(3, 0), (3, 1), (3, 2), (3, 3), (3, 4), (3, 5), (3, 6), (3, 7), (150, 0), (151, 0), (152, 0), (206, 0)], q ∈ [(13, 5), (220, 0), (3, 0), (3, 1), (3, 2), (3, 3), (3, 4), (3, 5), (3, 6), (3, 7), (150, 0), (151, 0), (152, 0), (206, 0), (33, 0), (33, 1), (33, 2), (33, 3), (33, 4), (33, 5), (33, 6), (33, 7), (153, 0), (154, 0), (155, 0), (207, 0)]) q w)), a8.fr a6 (by decide) (by decide) hF (fun q hq w => hM q hq ((by decide : ∀ q ∈ [(33, 0), (33, 1), (33, 2), (33, 3), (33, 4), (33, 5), (33, 6), (33, 7), (153, 0), (154, 0), (155, 0), (207, 0)], q ∈ [(13, 5), (220, 0), (3, 0), (3, 1), (3, 2), (3, 3), (3, 4), (3, 5), (3, 6), (3, 7), (150, 0), (151, 0), (152, 0), (206, 0), (33, 0), (33, 1), (33, 2), (33, 3), (33, 4), (33, 5), (33, 6), (33, 7), (153, 0), (154, 0), (155, 0), (207, 0)]) q w))⟩

set_option maxHeartbeats 4000000 in
set_option maxRecDepth 100000 in
theorem k_X0_stepOfGA (l : Launch) (D : va_G) (cy : Nat → ClassId) (S : HS) (a : Nat) (ha : pq_R S a 3) (sv : Int32) (bv : Int32) (hbv0 : 0 ≤ bv.toInt) (hbv1 : bv.toInt ≤ 127) (ko sz st ac n sn s0 : Nat) (ni si i0 he : Int32) (L : List Nat → Prop) (hA1 : tk_Ap S a 150 151 152 206 ko sz st ac n sn s0 ni si i0 he L) (sN bN : Nat) (hsv : sv.toInt = (sN : Int)) (hsN : sN < sn) (hbv : bv.toInt = (bN : Int)) : pq_C l D cy yX0_stepOf cX0_stepOf 3 (some .int) 1 0 0 S [.ref a, .int sv, .int bv] (fun v S2 => S2 = S ∧ ∃ x : Int32, v = some (.int x) ∧ 0 ≤ x.toInt ∧ x.toInt ≤ 200 ∧ (∃ u : Nat, u < sn ∧ x.toInt = (u : Int) ∧ (hI S st (n * sN + (hI S ko bN).toInt.toNat)).toInt.toNat = u)) := by
  refine pq_start (by decide) (Nat.le_of_ble_eq_true rfl) ?_
  intro p e s m args below meth c A F hr hlk hnm hA
  have lqm1 : (-1 : Int32).toInt = -1 := rfl
  have lq0 : (0 : Int32).toInt = 0 := rfl
  have lq1 : (1 : Int32).toInt = 1 := rfl
  obtain ⟨hn1, hn2, hn3⟩ := hA1.nn
  obtain ⟨hb1, hb2, hb3, hb4⟩ := hA1.b
  have hbN : bN < 128 := (by omega)
  obtain ⟨kN, hkN, ekN⟩ := hA1.a.1 bN hbN
  have hm9 : n * sN + kN < sn * n := (by have w : n * (sN + 1) ≤ n * sn := Nat.mul_le_mul_left n hsN; rw [Nat.mul_add, Nat.mul_one, Nat.mul_comm n sn] at w; omega)
  have hm8 : sn * n ≤ 201 * 128 := Nat.mul_le_mul hb3 hb2
  have hm7 : sv.toInt * ni.toInt = ((n * sN : Nat) : Int) := (by rw [hsv, hn1, Int.natCast_mul, Int.mul_comm])
  refine pq_aload_n F dX0_stepOf_0 rfl rfl ?_
  refine pq_get F ha (by decide) lk_X0_24 hA1.e3 dX0_stepOf_1 ?_
  refine pq_iload_n F dX0_stepOf_4 rfl rfl ?_
  refine pq_aload_n F dX0_stepOf_5 rfl rfl ?_
  refine pq_get F ha (by decide) lk_X0_27 hA1.e4 dX0_stepOf_6 ?_
  refine pq_imul F dX0_stepOf_9 ?_
  refine pq_aload_n F dX0_stepOf_10 rfl rfl ?_
  refine pq_get F ha (by decide) lk_X0_9 hA1.e0 dX0_stepOf_11 ?_
  refine pq_iload_n F dX0_stepOf_14 rfl rfl ?_
  refine pq_iald F hA1.r0 (by decide) (by decide) rfl (fun n1_15 n2_15 => (by focus ((try clear hA1); simp only [vp_in_iff, Int32.lt_iff_toInt_lt, Int32.le_iff_toInt_le, ← Int32.toInt_inj, Int32.toInt_add, Int32.toInt_sub, Int32.toInt_mul, Int32.toInt_neg, pq_NuO, pq_NuI, pq_NuJ, pq_NuR, pq_shr6, pq_shr7, pq_shr8, lqm1, lq0, lq1] at *; (try simp (disch := omega) only [pq_bm] at *); all_goals omega))) dX0_stepOf_15 (fun x15 e15 l15 u15 => ?_)
  have ex15 : x15.toInt = (kN : Int) := (by rw [e15, tk_ix hbv]; exact ekN)
  refine pq_iadd F dX0_stepOf_16 ?_
  have hix : (sv * ni + x15).toInt = ((n * sN + kN : Nat) : Int) := (by focus ((try clear hA1); simp only [vp_in_iff, Int32.lt_iff_toInt_lt, Int32.le_iff_toInt_le, ← Int32.toInt_inj, Int32.toInt_add, Int32.toInt_sub, Int32.toInt_mul, Int32.toInt_neg, pq_NuO, pq_NuI, pq_NuJ, pq_NuR, pq_shr6, pq_shr7, pq_shr8, lqm1, lq0, lq1] at *; (try simp (disch := omega) only [pq_bm] at *); all_goals omega))
  refine pq_iald F hA1.r3 (by decide) (by decide) rfl (fun n1_17 n2_17 => (by focus ((try clear hA1); simp only [vp_in_iff, Int32.lt_iff_toInt_lt, Int32.le_iff_toInt_le, ← Int32.toInt_inj, Int32.toInt_add, Int32.toInt_sub, Int32.toInt_mul, Int32.toInt_neg, pq_NuO, pq_NuI, pq_NuJ, pq_NuR, pq_shr6, pq_shr7, pq_shr8, lqm1, lq0, lq1] at *; (try simp (disch := omega) only [pq_bm] at *); all_goals omega))) dX0_stepOf_17 (fun x17 e17 l17 u17 => ?_)
  exact pq_iret F hr hlk hA (Nat.le_refl _) (Nat.le_refl _) ((by obtain ⟨u, hu, eu⟩ := hA1.a.2.1 sN kN hsN hkN; have ex17 : x17.toInt = (u : Int) := (by rw [e17, tk_ix hix]; exact eu); exact ⟨rfl, _, rfl, (by focus ((try clear hA1); simp only [vp_in_iff, Int32.lt_iff_toInt_lt, Int32.le_iff_toInt_le, ← Int32.toInt_inj, Int32.toInt_add, Int32.toInt_sub, Int32.toInt_mul, Int32.toInt_neg, pq_NuO, pq_NuI, pq_NuJ, pq_NuR, pq_shr6, pq_shr7, pq_shr8, lqm1, lq0, lq1] at *; (try simp (disch := omega) only [pq_bm] at *); all_goals omega)), (by focus ((try clear hA1); simp only [vp_in_iff, Int32.lt_iff_toInt_lt, Int32.le_iff_toInt_le, ← Int32.toInt_inj, Int32.toInt_add, Int32.toInt_sub, Int32.toInt_mul, Int32.toInt_neg, pq_NuO, pq_NuI, pq_NuJ, pq_NuR, pq_shr6, pq_shr7, pq_shr8, lqm1, lq0, lq1] at *; (try simp (disch := omega) only [pq_bm] at *); all_goals omega)), u, hu, ex17, (by rw [ekN, Int.toNat_natCast, eu, Int.toNat_natCast])⟩)) dX0_stepOf_18

set_option maxHeartbeats 4000000 in
set_option maxRecDepth 100000 in
theorem k_X0_stepOfGB (l : Launch) (D : va_G) (cy : Nat → ClassId) (S : HS) (a : Nat) (ha : pq_R S a 33) (sv : Int32) (bv : Int32) (hbv0 : 0 ≤ bv.toInt) (hbv1 : bv.toInt ≤ 127) (ko sz st ac n sn s0 : Nat) (ni si i0 he : Int32) (L : List Nat → Prop) (hA1 : tk_Ap S a 153 154 155 207 ko sz st ac n sn s0 ni si i0 he L) (sN bN : Nat) (hsv : sv.toInt = (sN : Int)) (hsN : sN < sn) (hbv : bv.toInt = (bN : Int)) : pq_C l D cy yX0_stepOf cX0_stepOf 3 (some .int) 1 0 0 S [.ref a, .int sv, .int bv] (fun v S2 => S2 = S ∧ ∃ x : Int32, v = some (.int x) ∧ 0 ≤ x.toInt ∧ x.toInt ≤ 200 ∧ (∃ u : Nat, u < sn ∧ x.toInt = (u : Int) ∧ (hI S st (n * sN + (hI S ko bN).toInt.toNat)).toInt.toNat = u)) := by
  refine pq_start (by decide) (Nat.le_of_ble_eq_true rfl) ?_
  intro p e s m args below meth c A F hr hlk hnm hA
  have lqm1 : (-1 : Int32).toInt = -1 := rfl
  have lq0 : (0 : Int32).toInt = 0 := rfl
  have lq1 : (1 : Int32).toInt = 1 := rfl
  obtain ⟨hn1, hn2, hn3⟩ := hA1.nn
  obtain ⟨hb1, hb2, hb3, hb4⟩ := hA1.b
  have hbN : bN < 128 := (by omega)
  obtain ⟨kN, hkN, ekN⟩ := hA1.a.1 bN hbN
  have hm9 : n * sN + kN < sn * n := (by have w : n * (sN + 1) ≤ n * sn := Nat.mul_le_mul_left n hsN; rw [Nat.mul_add, Nat.mul_one, Nat.mul_comm n sn] at w; omega)
  have hm8 : sn * n ≤ 201 * 128 := Nat.mul_le_mul hb3 hb2
  have hm7 : sv.toInt * ni.toInt = ((n * sN : Nat) : Int) := (by rw [hsv, hn1, Int.natCast_mul, Int.mul_comm])
  refine pq_aload_n F dX0_stepOf_0 rfl rfl ?_
  refine pq_get F ha (by decide) lk_X0_24 hA1.e3 dX0_stepOf_1 ?_
  refine pq_iload_n F dX0_stepOf_4 rfl rfl ?_
  refine pq_aload_n F dX0_stepOf_5 rfl rfl ?_
  refine pq_get F ha (by decide) lk_X0_27 hA1.e4 dX0_stepOf_6 ?_
  refine pq_imul F dX0_stepOf_9 ?_
  refine pq_aload_n F dX0_stepOf_10 rfl rfl ?_
  refine pq_get F ha (by decide) lk_X0_9 hA1.e0 dX0_stepOf_11 ?_
  refine pq_iload_n F dX0_stepOf_14 rfl rfl ?_
  refine pq_iald F hA1.r0 (by decide) (by decide) rfl (fun n1_15 n2_15 => (by focus ((try clear hA1); simp only [vp_in_iff, Int32.lt_iff_toInt_lt, Int32.le_iff_toInt_le, ← Int32.toInt_inj, Int32.toInt_add, Int32.toInt_sub, Int32.toInt_mul, Int32.toInt_neg, pq_NuO, pq_NuI, pq_NuJ, pq_NuR, pq_shr6, pq_shr7, pq_shr8, lqm1, lq0, lq1] at *; (try simp (disch := omega) only [pq_bm] at *); all_goals omega))) dX0_stepOf_15 (fun x15 e15 l15 u15 => ?_)
  have ex15 : x15.toInt = (kN : Int) := (by rw [e15, tk_ix hbv]; exact ekN)
  refine pq_iadd F dX0_stepOf_16 ?_
  have hix : (sv * ni + x15).toInt = ((n * sN + kN : Nat) : Int) := (by focus ((try clear hA1); simp only [vp_in_iff, Int32.lt_iff_toInt_lt, Int32.le_iff_toInt_le, ← Int32.toInt_inj, Int32.toInt_add, Int32.toInt_sub, Int32.toInt_mul, Int32.toInt_neg, pq_NuO, pq_NuI, pq_NuJ, pq_NuR, pq_shr6, pq_shr7, pq_shr8, lqm1, lq0, lq1] at *; (try simp (disch := omega) only [pq_bm] at *); all_goals omega))
  refine pq_iald F hA1.r3 (by decide) (by decide) rfl (fun n1_17 n2_17 => (by focus ((try clear hA1); simp only [vp_in_iff, Int32.lt_iff_toInt_lt, Int32.le_iff_toInt_le, ← Int32.toInt_inj, Int32.toInt_add, Int32.toInt_sub, Int32.toInt_mul, Int32.toInt_neg, pq_NuO, pq_NuI, pq_NuJ, pq_NuR, pq_shr6, pq_shr7, pq_shr8, lqm1, lq0, lq1] at *; (try simp (disch := omega) only [pq_bm] at *); all_goals omega))) dX0_stepOf_17 (fun x17 e17 l17 u17 => ?_)
  exact pq_iret F hr hlk hA (Nat.le_refl _) (Nat.le_refl _) ((by obtain ⟨u, hu, eu⟩ := hA1.a.2.1 sN kN hsN hkN; have ex17 : x17.toInt = (u : Int) := (by rw [e17, tk_ix hix]; exact eu); exact ⟨rfl, _, rfl, (by focus ((try clear hA1); simp only [vp_in_iff, Int32.lt_iff_toInt_lt, Int32.le_iff_toInt_le, ← Int32.toInt_inj, Int32.toInt_add, Int32.toInt_sub, Int32.toInt_mul, Int32.toInt_neg, pq_NuO, pq_NuI, pq_NuJ, pq_NuR, pq_shr6, pq_shr7, pq_shr8, lqm1, lq0, lq1] at *; (try simp (disch := omega) only [pq_bm] at *); all_goals omega)), (by focus ((try clear hA1); simp only [vp_in_iff, Int32.lt_iff_toInt_lt, Int32.le_iff_toInt_le, ← Int32.toInt_inj, Int32.toInt_add, Int32.toInt_sub, Int32.toInt_mul, Int32.toInt_neg, pq_NuO, pq_NuI, pq_NuJ, pq_NuR, pq_shr6, pq_shr7, pq_shr8, lqm1, lq0, lq1] at *; (try simp (disch := omega) only [pq_bm] at *); all_goals omega)), u, hu, ex17, (by rw [ekN, Int.toNat_natCast, eu, Int.toNat_natCast])⟩)) dX0_stepOf_18

