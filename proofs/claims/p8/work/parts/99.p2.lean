theorem pq_wNc {A : Array Value} {s : State} (h : (Jvm.Cond.and given_1 narrow_1).before A s = true) : va_Nc "java/lang/UnsupportedOperationException" "java/lang/IllegalArgumentException" s ∧ va_Nc "java/lang/IndexOutOfBoundsException" "java/lang/IllegalArgumentException" s ∧ va_Nc "java/lang/IndexOutOfBoundsException" "java/lang/UnsupportedOperationException" s := ⟨va_Nc.of (flat_of_before _ h _ (by decide +kernel)), va_Nc.of (flat_of_before _ h _ (by decide +kernel)), va_Nc.of (flat_of_before _ h _ (by decide +kernel))⟩
theorem pq_hl0 {l : Launch} (h : l.flags = flags0) : l.stackTraces = false := by
  unfold Launch.stackTraces
  rw [h]
  decide +kernel

