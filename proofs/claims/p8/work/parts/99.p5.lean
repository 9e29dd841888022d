/-- the statics and the arrays of references that pq_B names -/
theorem pq_wZ {A : Array Value} {s : State} {Fr : Nat → Prop} (hts : ∀ w ∈ lw_tbl, w.before A s = true) (hgv : (Jvm.Cond.and given_1 narrow_1).before A s = true) (hA : ∀ a : Nat, a < s.heap.size → ¬ Fr a) : vx_Zq Bundle.tN "UNASSIGNED_STACK" Bundle.steD Fr s s.heap ∧ vx_Zq Bundle.tN "SUPPRESSED_SENTINEL" Bundle.listD Fr s s.heap ∧ va_AO "PatternPairs$Automaton" s ∧ va_AO "PatternPairs$Ends" s :=
  ⟨vx_Zqof (hts _ (pq_in2 (i := 165) rfl)) (hts _ (pq_in1 (i := 21) rfl)) (flat_of_before _ hgv _ (by decide +kernel)) hA, vx_Zqof (hts _ (pq_in2 (i := 167) rfl)) (hts _ (pq_in1 (i := 21) rfl)) (flat_of_before _ hgv _ (by decide +kernel)) hA, va_AO.of (hts _ (pq_in2 (i := 3) rfl)), va_AO.of (hts _ (pq_in1 (i := 113) rfl))⟩
theorem pq_wC {A : Array Value} {s : State} {Fr : Nat → Prop} (hts : ∀ w ∈ lw_tbl, w.before A s = true) (hgv : (Jvm.Cond.and given_1 narrow_1).before A s = true) (hA : ∀ a : Nat, a < s.heap.size → ¬ Fr a) : va_Z "java/lang/String" "COMPACT_STRINGS" "Z" (.int 1) Fr s s.heap := by
  have h : (Cond.eq (.static "java/lang/String" "COMPACT_STRINGS" "Z") (.int 1)).before A s = true := flat_of_before _ hgv _ (by decide +kernel)
  refine va_Zof (hts _ (pq_in3 (i := 122) rfl)) (hts _ (pq_in1 (i := 16) rfl)) ?_ hA
  have e1 : (Term.int 1).eval A s none [] s = some (.int 1) := rfl
  cases hv : (Term.static "java/lang/String" "COMPACT_STRINGS" "Z").eval A s none [] s with
  | none => simp [Cond.before, Cond.holds, Cond.value, hv, e1] at h
  | some v =>
    cases v <;> simp [Cond.before, Cond.holds, Cond.value, hv, e1] at h
    rw [h]

