set_option maxHeartbeats 4000000 in
set_option maxRecDepth 100000 in
theorem k_X3_sort (l : Launch) (D : va_G) (cy : Nat → ClassId) (S : HS) (a : Nat) (ha : pq_R S a 6) (tk : Nat) (htk : pq_R S tk 194) (ko : Nat) (e0 : hO S a 0 = .ref ko) (hko : pq_R S ko 156) : pq_C l D cy yX3_sort cX3_sort 4 (none) 2 0 0 S [.ref a, .ref tk] (fun v S2 => v = none ∧ pq_Fr [(6, 3), (156, 0), (157, 0), (158, 0)] S S2 ∧ (∃ n : Int32, hO S2 a 3 = .int n ∧ (1 ≤ n.toInt ∧ n.toInt ≤ 128) ∧ pq_lt (hI S2 ko) 128 n.toInt ∧ ((∀ i, i < hN S tk → hJ S tk i = 0) → n.toInt = 1))) := by
  sorry

