/-- heads f and chain g of a table whose entries are lo .. n - 1: every chain goes down -/
def pq_ch (f g : Nat → Int32) (lo n : Int) : Prop := (∀ i : Nat, i < 1024 → (f i).toInt = -1 ∨ (lo ≤ (f i).toInt ∧ (f i).toInt < n)) ∧ ∀ s : Nat, lo ≤ (s : Int) → (s : Int) < n → (g s).toInt = -1 ∨ (lo ≤ (g s).toInt ∧ (g s).toInt < (s : Int))
theorem pq_ch.ins {f g : Nat → Int32} {lo n : Int} {h k : Nat} {x y : Int32} (H : pq_ch f g lo n) (hn : lo ≤ n) (hh : h < 1024) (hx : x = f h) (hy : y.toInt = n) (hk : (k : Int) = n) : pq_ch (upd f h y) (upd g k x) lo (n + 1) := by
  refine ⟨fun i hi => ?_, fun s h1 h2 => ?_⟩
  · by_cases e : i = h
    · subst e; rw [pk_us]; right; omega
    · rw [pk_un e]
      rcases H.1 i hi with h3 | h3
      · exact Or.inl h3
      · right; omega
  · by_cases e : s = k
    · subst e; rw [pk_us, hx]
      rcases H.1 h hh with h3 | h3
      · exact Or.inl h3
      · right; omega
    · rw [pk_un e]
      exact H.2 s h1 (by omega)

