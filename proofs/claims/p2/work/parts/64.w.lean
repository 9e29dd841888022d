/-- a row's class, by its word -/
theorem pq_arrP {A : Array Value} {s : State} {t : FieldType} (h : (Cond.arrayClass t).before A s = true) : ∃ cA : ClassId, ArrOfT s cA t ∧ s.vm.findClass ("[" ++ t.toString) = some cA := by
  obtain ⟨cA, kA, comp, hfind, hk, hkind⟩ := Cond.arrayClass_spec h
  exact ⟨cA, fun n z => ⟨fun k h => (by cases h), kA, hk, comp, hkind⟩, hfind⟩
theorem pq_arr4 {A : Array Value} {s : State} (hts : ∀ w ∈ gtb, w.before A s = true) : ∃ c0 c1 c2 c3 : ClassId, (ArrOfT s c0 .byte ∧ va_RA s c0 .byte) ∧ (ArrOfT s c1 .int ∧ va_RA s c1 .int) ∧ (ArrOfT s c2 .long ∧ va_RA s c2 .long) ∧ (ArrOfT s c3 .boolean ∧ va_RA s c3 .boolean) := by
  obtain ⟨c0, a0, b0⟩ := pq_arrP (hts _ ac_byte)
  obtain ⟨c1, a1, b1⟩ := pq_arrP (hts _ ac_int)
  obtain ⟨c2, a2, b2⟩ := pq_arrP (hts _ ac_long)
  obtain ⟨c3, a3, b3⟩ := pq_arrP (hts _ ac_boolean)
  exact ⟨c0, c1, c2, c3, ⟨a0, b0⟩, ⟨a1, b1⟩, ⟨a2, b2⟩, ⟨a3, b3⟩⟩

