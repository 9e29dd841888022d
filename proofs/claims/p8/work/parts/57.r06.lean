/-! ===== the reference between calls: its program's rows and its stack's rows go in pairs of one length ===== -/
def pq_Rp (S : HS) (a ao aa t k : Nat) : Prop := (hO S a 4 = .ref ao ∧ pq_R S ao 120 ∧ hO S a 5 = .ref aa ∧ pq_R S aa 121 ∧ hN S aa = hN S ao) ∧ hO S a 21 = .ref t ∧ pq_R S t 127 ∧ hO S a 22 = .ref k ∧ pq_R S k 128 ∧ hN S k = hN S t
theorem pq_Rp.f1 {S S2 : HS} {a ao aa t k : Nat} {M : List (Nat × Nat)} (H : pq_Rp S a ao aa t k) (hF : pq_Fr M S S2) (ha : pq_R S a 14) (m1 : (14, 4) ∉ M) (m2 : (14, 5) ∉ M) : hO S2 a 4 = .ref ao ∧ pq_R S2 ao 120 ∧ hO S2 a 5 = .ref aa ∧ pq_R S2 aa 121 ∧ hN S2 aa = hN S2 ao := by
  obtain ⟨⟨a1, a2, a3, a4, a5⟩, -⟩ := H
  exact ⟨hF.O ha (by decide) m1 a1, hF.R a2 (by decide), hF.O ha (by decide) m2 a3, hF.R a4 (by decide), by rw [(hF.1 aa 121 a4 (by decide)).2, (hF.1 ao 120 a2 (by decide)).2]; exact a5⟩
theorem pq_Rp.f2 {S S2 : HS} {a ao aa t k : Nat} {M : List (Nat × Nat)} (H : pq_Rp S a ao aa t k) (hF : pq_Fr M S S2) (ha : pq_R S a 14) (m1 : (14, 21) ∉ M) (m2 : (14, 22) ∉ M) : hO S2 a 21 = .ref t ∧ pq_R S2 t 127 ∧ hO S2 a 22 = .ref k ∧ pq_R S2 k 128 ∧ hN S2 k = hN S2 t := by
  obtain ⟨-, a1, a2, a3, a4, a5⟩ := H
  exact ⟨hF.O ha (by decide) m1 a1, hF.R a2 (by decide), hF.O ha (by decide) m2 a3, hF.R a4 (by decide), by rw [(hF.1 k 128 a4 (by decide)).2, (hF.1 t 127 a2 (by decide)).2]; exact a5⟩
theorem pq_Rp.fr {S S2 : HS} {a ao aa t k : Nat} {M : List (Nat × Nat)} (H : pq_Rp S a ao aa t k) (hF : pq_Fr M S S2) (ha : pq_R S a 14) (m1 : (14, 4) ∉ M) (m2 : (14, 5) ∉ M) (m3 : (14, 21) ∉ M) (m4 : (14, 22) ∉ M) : pq_Rp S2 a ao aa t k := ⟨H.f1 hF ha m1 m2, H.f2 hF ha m3 m4⟩

