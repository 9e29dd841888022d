/-! ===== a tape as a text ===== -/
def tk_tb (T : Nat → Int32) (n : Nat) : List Nat := (List.range n).map (fun i => (T i).toInt.toNat)
def tk_ft (L : List Nat → Prop) (T : Nat → Int32) (n : Nat) : Prop := (∀ i, i < n → 0 ≤ (T i).toInt) ∧ L (tk_tb T n)
theorem tk_tb0 {T : Nat → Int32} : tk_tb T 0 = [] := rfl
theorem tk_tbS {T : Nat → Int32} {n : Nat} : tk_tb T (n + 1) = tk_tb T n ++ [(T n).toInt.toNat] := by
  unfold tk_tb
  rw [List.range_succ, List.map_append]
  rfl
theorem tk_tb.t {T : Nat → Int32} {n : Nat} (h : ∀ i, i < n → 0 ≤ (T i).toInt ∧ (T i).toInt < 128) : tp_t (tk_tb T n) := fun b hb => by
  obtain ⟨i, hi, rfl⟩ := List.mem_map.mp hb
  have := h i (List.mem_range.mp hi)
  omega
theorem tk_cr.ap {ko st : Nat → Int32} {n b : Nat} : ∀ (w : List Nat) (s : Nat), tk_cr ko st n (w ++ [b]) s = (st (n * tk_cr ko st n w s + (ko b).toInt.toNat)).toInt.toNat
  | [], s => rfl
  | c :: w, s => by
    rw [List.cons_append, tk_cr1, tk_cr1]
    exact tk_cr.ap w _
theorem tk_rr0 {ld : Nat → Int32} {f s : Nat} : tk_rr ld f [] s = s := rfl
theorem tk_rr1 {ld : Nat → Int32} {f s b : Nat} {w : List Nat} : tk_rr ld f (b :: w) s = tk_rr ld f w (ld (128 * (f + s) + b)).toInt.toNat := rfl
theorem tk_rr.ap {ld : Nat → Int32} {f b : Nat} : ∀ (w : List Nat) (s : Nat), tk_rr ld f (w ++ [b]) s = (ld (128 * (f + tk_rr ld f w s) + b)).toInt.toNat
  | [], s => rfl
  | c :: w, s => by
    rw [List.cons_append, tk_rr1, tk_rr1]
    exact tk_rr.ap w _
theorem tk_Sa.ft {ko st ac : Nat → Int32} {n sn s0 tn : Nat} {he : Int32} {L : List Nat → Prop} {T : Nat → Int32} (h : tk_Sa ko st ac n sn s0 he L) (hn : 1 ≤ tn) (hT : ∀ i, i < tn → 0 ≤ (T i).toInt ∧ (T i).toInt < 128) : ac (tk_cr ko st n (tk_tb T tn) s0) = 1 ↔ tk_ft L T tn := by
  have ht := tk_tb.t hT
  have hl : (tk_tb T tn).length = tn := by unfold tk_tb; rw [List.length_map, List.length_range]
  have key : L (tk_tb T tn) ↔ ac (tk_cr ko st n (tk_tb T tn) s0) = 1 := by
    revert ht hl
    cases tk_tb T tn with
    | nil => intro _ hl; exact absurd hl (by show ¬ (0 = tn); omega)
    | cons b w => intro ht _; exact h.2.2.2.2.2.2 b w ht
  exact ⟨fun w => ⟨fun i hi => (hT i hi).1, key.mpr w⟩, fun w => key.mp w.2⟩
/-- the two automata and their patterns' texts -/
def tk_As (S : HS) (x : Nat) (LA LB : List Nat → Prop) : Prop := ∃ pt A B : Nat, (hO S x 5 = .ref pt ∧ pq_R S pt 220 ∧ hR S pt 0 = some A ∧ hR S pt 1 = some B ∧ pq_R S A 3 ∧ pq_R S B 33) ∧ tk_Ao S A 150 151 152 206 LA ∧ tk_Ao S B 153 154 155 207 LB
theorem tk_As.fr {S S1 : HS} {x : Nat} {LA LB : List Nat → Prop} {M : List (Nat × Nat)} (h : tk_As S x LA LB) (hx : pq_R S x 13) (hF : pq_Fr M S S1) (hM : ∀ q ∈ M, q ∉ [(13, 5), (220, 0), (3, 0), (3, 1), (3, 2), (3, 3), (3, 4), (3, 5), (3, 6), (3, 7), (150, 0), (151, 0), (152, 0), (206, 0), (33, 0), (33, 1), (33, 2), (33, 3), (33, 4), (33, 5), (33, 6), (33, 7), (153, 0), (154, 0), (155, 0), (207, 0)]) : tk_As S1 x LA LB := by
  obtain ⟨pt, A, B, ⟨a1, a2, a3, a4, a5, a6⟩, a7, a8⟩ := h
  have e := (hF.2.2 pt 220 a2 (by decide) (fun w => hM _ w (by decide))).2.2
  exact ⟨pt, A, B, ⟨hF.O hx (by decide) (fun w => hM _ w (by decide)) a1, hF.R a2 (by decide), by rw [e]; exact a3, by rw [e]; exact a4, hF.R a5 (by decide), hF.R a6 (by decide)⟩, a7.fr a5 (by decide) (by decide) hF (fun q hq w => hM q hq ((by decide : ∀ q ∈ [(3, 0), (3, 1), (3, 2), (3, 3), (3, 4), (3, 5), (3, 6), (3, 7), (150, 0), (151, 0), (152, 0), (206, 0)], q ∈ [(13, 5), (220, 0), (3, 0), (3, 1), (3, 2), (3, 3), (3, 4), (3, 5), (3, 6), (3, 7), (150, 0), (151, 0), (152, 0), (206, 0), (33, 0), (33, 1), (33, 2), (33, 3), (33, 4), (33, 5), (33, 6), (33, 7), (153, 0), (154, 0), (155, 0), (207, 0)]) q w)), a8.fr a6 (by decide) (by decide) hF (fun q hq w => hM q hq ((by decide : ∀ q ∈ [(33, 0), (33, 1), (33, 2), (33, 3), (33, 4), (33, 5), (33, 6), (33, 7), (153, 0), (154, 0), (155, 0), (207, 0)], q ∈ [(13, 5), (220, 0), (3, 0), (3, 1), (3, 2), (3, 3), (3, 4), (3, 5), (3, 6), (3, 7), (150, 0), (151, 0), (152, 0), (206, 0), (33, 0), (33, 1), (33, 2), (33, 3), (33, 4), (33, 5), (33, 6), (33, 7), (153, 0), (154, 0), (155, 0), (207, 0)]) q w))⟩

