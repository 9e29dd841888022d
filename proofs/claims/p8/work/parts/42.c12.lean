/-! ===== an automaton that is being filled ===== -/
def pq_Fl (S : HS) (tt rs tko st2 : Nat) (n bl s0 : Int32) : Prop := (hO S tt 3 = .ref st2 ∧ pq_R S st2 rs ∧ hO S tt 4 = .int n ∧ hO S tt 5 = .int bl ∧ hO S tt 6 = .int s0) ∧ bl.toInt * n.toInt ≤ (hN S st2 : Int) ∧ pq_lt (hI S tko) 128 n.toInt
theorem pq_Fl.u {S : HS} {tt rs tko st2 b : Nat} {n bl s0 : Int32} {f : Nat → Int32} (h : pq_Fl S tt rs tko st2 n bl s0) (hn : tko ≠ b) : pq_Fl (pq_uI S b f) tt rs tko st2 n bl s0 := by
  refine ⟨h.1, h.2.1, ?_⟩
  rw [pq_Iu, if_neg hn]; exact h.2.2
def pq_Bo (f : Nat → Int32) (m : Int) : Int32 → Prop := fun x => ∃ i : Nat, (i : Int) < m ∧ f i = x ∧ 0 ≤ x.toInt
theorem pq_Cl.more {f g : Nat → Int32} {P : Int32 → Prop} {k n : Int} {q : Nat} {b : Int32} (h : pq_Cl f (pq_Bo g k) P n) (hq : (q : Int) = k) (hb : g q = b) (hD : ∀ i : Nat, b.toInt * n ≤ (i : Int) → (i : Int) < b.toInt * n + n → P (f i)) : pq_Cl f (pq_Bo g (k + 1)) P n := by
  rintro x ⟨j, hj, e, ez⟩ i h1 h2
  by_cases ej : j = q
  · have e2 : x = b := by rw [← e, ej]; exact hb
    subst e2
    exact hD i h1 h2
  · exact h x ⟨j, by omega, e, ez⟩ i h1 h2

