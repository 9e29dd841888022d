/-- how many of the first n are 0 -/
def pq_z (f : Nat → Int32) : Nat → Nat
  | 0 => 0
  | n + 1 => pq_z f n + (if f n = 0 then 1 else 0)
theorem pq_z_upd {f : Nat → Int32} {s : Nat} {v : Int32} (hs : f s = 0) : ∀ n, pq_z (upd f s v) n ≤ pq_z f n ∧ (s < n → ¬ v = 0 → pq_z (upd f s v) n < pq_z f n)
  | 0 => ⟨Nat.le_refl _, fun h => absurd h (Nat.not_lt_zero _)⟩
  | n + 1 => by
    obtain ⟨h1, h2⟩ := pq_z_upd (f := f) (s := s) (v := v) hs n
    by_cases e : n = s
    · subst e
      have e2 : pq_z (upd f n v) n ≤ pq_z f n := h1
      simp only [pq_z, pk_us, hs, if_true]
      by_cases hv : v = 0
      · simp only [hv, if_true]; exact ⟨by rw [hv] at e2; omega, fun _ h => absurd trivial h⟩
      · simp only [hv, if_false]; exact ⟨by omega, fun _ _ => by omega⟩
    · simp only [pq_z, pk_un e]
      exact ⟨by omega, fun h3 h4 => by have := h2 (by omega) h4; omega⟩
theorem pq_nzz {x : Int32} (h0 : 0 ≤ x.toInt) (h1 : x.toInt ≤ 1) : vp_nar .boolean x = x := by
  have h : x = 0 ∨ x = 1 := by
    have h2 : x.toInt = 0 ∨ x.toInt = 1 := by omega
    rcases h2 with h2 | h2
    · left; exact Int32.toInt_inj.mp (by rw [h2]; rfl)
    · right; exact Int32.toInt_inj.mp (by rw [h2]; rfl)
  rcases h with rfl | rfl <;> rfl

