/-- a chain of jumps that wait, from j down, none below lo -/
def pq_cn (lo : Int) (f : Nat → Int32) : Nat → Int32 → Prop
  | 0, j => j = -1
  | n + 1, j => j = -1 ∨ (0 ≤ j.toInt ∧ lo ≤ j.toInt ∧ (f j.toNatClampNeg).toInt < j.toInt ∧ pq_cn lo f n (f j.toNatClampNeg))
theorem pq_cn_upd {lo : Int} {f : Nat → Int32} {t : Nat} {v : Int32} : ∀ (n : Nat) (j : Int32), j.toInt < (t : Int) → pq_cn lo f n j → pq_cn lo (upd f t v) n j
  | 0, j, _, h => h
  | n + 1, j, hj, h => by
    rcases h with h | ⟨h0, h1, h2, h3⟩
    · exact Or.inl h
    · have cj := pq_cl h0
      have e : j.toNatClampNeg ≠ t := by omega
      refine Or.inr ⟨h0, h1, ?_, ?_⟩
      · rw [pk_un e]; exact h2
      · rw [pk_un e]; exact pq_cn_upd n _ (by omega) h3

