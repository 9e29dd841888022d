/-- the two automata's words for the empty text -/
def tk_He (S : HS) (x : Nat) (za zb : Int32) : Prop := ∃ pt A B : Nat, hO S x 5 = .ref pt ∧ pq_R S pt 220 ∧ hR S pt 0 = some A ∧ hR S pt 1 = some B ∧ pq_R S A 3 ∧ pq_R S B 33 ∧ hO S A 7 = .int za ∧ hO S B 7 = .int zb
theorem tk_He.fr {S S1 : HS} {x : Nat} {za zb : Int32} {M : List (Nat × Nat)} (h : tk_He S x za zb) (hx : pq_R S x 13) (hF : pq_Fr M S S1) (hM : ∀ q ∈ [(13, 5), (220, 0), (3, 7), (33, 7)], q ∉ M) : tk_He S1 x za zb := by
  obtain ⟨pt, A, B, a1, a2, a3, a4, a5, a6, a7, a8⟩ := h
  have e := (hF.2.2 pt 220 a2 (by decide) (hM _ (by decide))).2.2
  exact ⟨pt, A, B, hF.O hx (by decide) (hM _ (by decide)) a1, hF.R a2 (by decide), by rw [e]; exact a3, by rw [e]; exact a4, hF.R a5 (by decide), hF.R a6 (by decide), hF.O a5 (by decide) (hM _ (by decide)) a7, hF.O a6 (by decide) (hM _ (by decide)) a8⟩
