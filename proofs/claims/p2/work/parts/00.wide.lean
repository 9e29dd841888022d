/-- a name out of the library's rest: the rounds read this claim over the whole library -/
theorem pq_wide : True := by
  have _h := @Bundle.chainSX
  trivial
