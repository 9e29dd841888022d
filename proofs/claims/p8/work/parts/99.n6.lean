theorem tk_Sd.e0 {en ld : Nat → Int32} {f : Nat} {L : List Nat → Prop} (h : tk_Sd en ld f L) : (en f = 0 ∨ en f = 1) ∧ (en f = 1 ↔ L []) := by
  obtain ⟨N, h1, h2, _, h4⟩ := h
  exact ⟨h2 0 (by omega), (h4 [] (fun b hb => absurd hb List.not_mem_nil)).symm⟩
