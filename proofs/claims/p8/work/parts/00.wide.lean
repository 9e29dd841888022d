/-- a name out of the library's rest, which the claim's own NAMES use: the rounds read this claim over the whole library -/
theorem pq_wide : True := by
  have _h := @Stand.thenCaughtThrough
  trivial
