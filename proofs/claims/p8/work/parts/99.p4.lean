/-- a row's class, by its word -/
theorem pq_arrP {A : Array Value} {s : State} {t : FieldType} (h : (Cond.arrayClass t).before A s = true) : ∃ cA : ClassId, ArrOfT s cA t ∧ s.vm.findClass ("[" ++ t.toString) = some cA := by
  obtain ⟨cA, kA, comp, hfind, hk, hkind⟩ := Cond.arrayClass_spec h
  exact ⟨cA, fun n z => ⟨fun k h => (by cases h), kA, hk, comp, hkind⟩, hfind⟩
theorem pq_arr4 {A : Array Value} {s : State} (hts : ∀ w ∈ gtb, w.before A s = true) : ∃ c0 c1 c2 c3 : ClassId, (ArrOfT s c0 .byte ∧ va_RA s c0 .byte) ∧ (ArrOfT s c1 .int ∧ va_RA s c1 .int) ∧ (ArrOfT s c2 .long ∧ va_RA s c2 .long) ∧ (ArrOfT s c3 .boolean ∧ va_RA s c3 .boolean) := by
  obtain ⟨c0, a0, b0⟩ := pq_arrP (hts _ ac_byte)
  obtain ⟨c1, a1, b1⟩ := pq_arrP (hts _ ac_int)
  obtain ⟨c2, a2, b2⟩ := pq_arrP (hts _ ac_long)
  obtain ⟨c3, a3, b3⟩ := pq_arrP (hts _ ac_boolean)
  exact ⟨c0, c1, c2, c3, ⟨a0, b0⟩, ⟨a1, b1⟩, ⟨a2, b2⟩, ⟨a3, b3⟩⟩
theorem pq_arrO {A : Array Value} {s : State} {C : String} (h : (Cond.arrayOver (.object C)).before A s = true) : ∃ cA : ClassId, ArrOfT s cA (.object C) ∧ va_RA s cA (.object C) := by
  obtain ⟨comp, cA, kA, h1, -, h2, h3, h4⟩ := Cond.arrayOver_spec h
  exact ⟨cA, fun n z => ⟨fun k h => (by cases h), kA, h2, comp, h3⟩, kA, comp, h2, h3, h1, h4⟩
/-- all that is known of classes and rows at the entry; cy is free beyond its first six -/
theorem pq_vaK {A : Array Value} {s : State} (hts : ∀ w ∈ lw_tbl, w.before A s = true) : ∃ (D : va_G) (f : Nat → ClassId), ∀ cy : Nat → ClassId, (∀ k, k < 6 → cy k = f k) → va_K D vwCl (pq_ty cy) s := by
  obtain ⟨D, hD⟩ := pq_cls (pq_wT hts)
  obtain ⟨c0, c1, c2, c3, h0, h1, h2, h3⟩ := pq_arr4 (pq_wT hts)
  obtain ⟨c4, h4⟩ := pq_arrO (C := "PatternPairs$Automaton") (hts _ (pq_in2 (i := 3) rfl))
  obtain ⟨c5, h5⟩ := pq_arrO (C := "PatternPairs$Ends") (hts _ (pq_in1 (i := 113) rfl))
  refine ⟨D, fun k => match k with | 0 => c0 | 1 => c1 | 2 => c2 | 3 => c3 | 4 => c4 | _ => c5, fun cy hc => ⟨hD, fun k q hq => ?_⟩⟩
  have e0 := hc 0 (by decide)
  have e1 := hc 1 (by decide)
  have e2 := hc 2 (by decide)
  have e3 := hc 3 (by decide)
  have e4 := hc 4 (by decide)
  have e5 := hc 5 (by decide)
  unfold pq_ty at hq
  match k, hq with
  | 0, hq => cases hq; rw [e0]; exact h0
  | 1, hq => cases hq; rw [e1]; exact h1
  | 2, hq => cases hq; rw [e2]; exact h2
  | 3, hq => cases hq; rw [e3]; exact h3
  | 4, hq => cases hq; rw [e4]; exact h4
  | 5, hq => cases hq; rw [e5]; exact h5
  | k + 6, hq => simp at hq

