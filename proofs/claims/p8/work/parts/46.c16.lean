/-! ===== how much first may make: by what stands ahead of it ===== -/
def pq_IW (kd za zb : Int32) : Prop := ((kd.toInt = 0 ∧ ¬ za.toInt = zb.toInt) ∨ (kd.toInt = 1 ∧ za.toInt = 1 ∧ zb.toInt = 0) ∨ (kd.toInt = 2 ∧ zb.toInt = 1 ∧ za.toInt = 0) ∨ (kd.toInt = 3 ∧ za.toInt = 1 ∧ zb.toInt = 1) ∨ ((kd.toInt < 0 ∨ 3 < kd.toInt) ∧ za.toInt = 0 ∧ zb.toInt = 0))
def pq_Fg (w : Nat) (nd : Int) (n : Nat) : Prop := (nd ≤ (n : Int) ∧ w = 0) ∨ ((n : Int) < nd ∧ nd ≤ (w : Int) ∧ 2 * n ≤ w ∧ ((w : Int) = nd ∨ w = 2 * n))
theorem pq_Fg.ex (nd : Int) (n : Nat) : ∃ w, pq_Fg w nd n := by
  by_cases h : nd ≤ (n : Int)
  · exact ⟨0, Or.inl ⟨h, rfl⟩⟩
  · by_cases h2 : nd ≤ 2 * (n : Int)
    · exact ⟨2 * n, Or.inr ⟨by omega, by omega, Nat.le_refl _, Or.inr rfl⟩⟩
    · exact ⟨nd.toNat, Or.inr ⟨by omega, by omega, by omega, Or.inl (by omega)⟩⟩
def pq_Fe (S : HS) (a : Nat) (kd : Int32) (np nq wp wo wq : Nat) : Prop := ∀ (pt A B : Nat) (sa sb za zb : Int32), hO S a 5 = .ref pt → hR S pt 0 = some A → hR S pt 1 = some B → hO S A 5 = .int sa → hO S B 5 = .int sb → hO S A 7 = .int za → hO S B 7 = .int zb → (pq_IW kd za zb ∧ wp = 0 ∧ wo = 0 ∧ wq = 0) ∨ (¬ pq_IW kd za zb ∧ pq_Fg wp (sa.toInt * sb.toInt + 1) np ∧ pq_Fg wo (sa.toInt * sb.toInt + 1) np ∧ pq_Fg wq (4 * sa.toInt) nq)
theorem pq_Fe.ex (S : HS) (a : Nat) (kd : Int32) (np nq : Nat) : ∃ wp wo wq, pq_Fe S a kd np nq wp wo wq := by
  by_cases h : ∃ (pt A B : Nat) (sa sb za zb : Int32), hO S a 5 = .ref pt ∧ hR S pt 0 = some A ∧ hR S pt 1 = some B ∧ hO S A 5 = .int sa ∧ hO S B 5 = .int sb ∧ hO S A 7 = .int za ∧ hO S B 7 = .int zb
  · obtain ⟨pt, A, B, sa, sb, za, zb, h1, h2, h3, h4, h5, h6, h7⟩ := h
    have key : ∀ (wp wo wq : Nat), ((pq_IW kd za zb ∧ wp = 0 ∧ wo = 0 ∧ wq = 0) ∨ (¬ pq_IW kd za zb ∧ pq_Fg wp (sa.toInt * sb.toInt + 1) np ∧ pq_Fg wo (sa.toInt * sb.toInt + 1) np ∧ pq_Fg wq (4 * sa.toInt) nq)) → pq_Fe S a kd np nq wp wo wq := by
      intro wp wo wq hh pt2 A2 B2 sa2 sb2 za2 zb2 k1 k2 k3 k4 k5 k6 k7
      rw [h1] at k1
      cases k1
      rw [h2] at k2
      cases k2
      rw [h3] at k3
      cases k3
      rw [h4] at k4
      cases k4
      rw [h5] at k5
      cases k5
      rw [h6] at k6
      cases k6
      rw [h7] at k7
      cases k7
      exact hh
    by_cases hw : pq_IW kd za zb
    · exact ⟨0, 0, 0, key 0 0 0 (Or.inl ⟨hw, rfl, rfl, rfl⟩)⟩
    · obtain ⟨w1, g1⟩ := pq_Fg.ex (sa.toInt * sb.toInt + 1) np
      obtain ⟨w2, g2⟩ := pq_Fg.ex (4 * sa.toInt) nq
      exact ⟨w1, w1, w2, key w1 w1 w2 (Or.inr ⟨hw, g1, g1, g2⟩)⟩
  · exact ⟨0, 0, 0, fun pt A B sa sb za zb k1 k2 k3 k4 k5 k6 k7 => absurd ⟨pt, A, B, sa, sb, za, zb, k1, k2, k3, k4, k5, k6, k7⟩ h⟩
