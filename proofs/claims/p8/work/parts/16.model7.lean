/-- how many of the first n differ from x -/
def pq_un (f : Nat → Int32) (x : Int32) : Nat → Nat
  | 0 => 0
  | n + 1 => pq_un f x n + (if f n = x then 0 else 1)
/-- how many of the first n differ from x and are 0 in g -/
def pq_ub (g f : Nat → Int32) (x : Int32) : Nat → Nat
  | 0 => 0
  | n + 1 => pq_ub g f x n + (if f n = x then 0 else if g n = 0 then 1 else 0)
/-- how many of the first n of k point at a 0 of g -/
def pq_tb (g k : Nat → Int32) : Nat → Nat
  | 0 => 0
  | n + 1 => pq_tb g k n + (if g (k n).toNatClampNeg = 0 then 1 else 0)
theorem pq_un_le (f : Nat → Int32) (x : Int32) : ∀ n, pq_un f x n ≤ n
  | 0 => Nat.le_refl _
  | n + 1 => by
    have := pq_un_le f x n
    simp only [pq_un]; split <;> omega
theorem pq_ub_le (g f : Nat → Int32) (x : Int32) : ∀ n, pq_ub g f x n ≤ pq_z g n
  | 0 => Nat.le_refl _
  | n + 1 => by
    have := pq_ub_le g f x n
    simp only [pq_ub, pq_z]; split <;> (try split) <;> omega
theorem pq_un_upd {f : Nat → Int32} {x : Int32} {i : Nat} (h : ¬ f i = x) : ∀ n, pq_un (upd f i x) x n + (if i < n then 1 else 0) = pq_un f x n
  | 0 => by simp [pq_un]
  | n + 1 => by
    have ih := pq_un_upd (f := f) (x := x) (i := i) h n
    by_cases e : n = i
    · subst e
      simp only [pq_un, pk_us, if_true, h, if_false] at ih ⊢
      rw [if_neg (Nat.lt_irrefl n)] at ih
      rw [if_pos (show n < n + 1 by omega)]; omega
    · simp only [pq_un, pk_un e]
      by_cases h2 : i < n
      · rw [if_pos h2] at ih; rw [if_pos (show i < n + 1 by omega)]; omega
      · rw [if_neg h2] at ih; rw [if_neg (show ¬ i < n + 1 by omega)]; omega
theorem pq_ub_upd {g f : Nat → Int32} {x : Int32} {i : Nat} (h : ¬ f i = x) : ∀ n, pq_ub g (upd f i x) x n + (if i < n then (if g i = 0 then 1 else 0) else 0) = pq_ub g f x n
  | 0 => by simp [pq_ub]
  | n + 1 => by
    have ih := pq_ub_upd (g := g) (f := f) (x := x) (i := i) h n
    by_cases e : n = i
    · subst e
      simp only [pq_ub, pk_us, if_true, h, if_false] at ih ⊢
      rw [if_neg (Nat.lt_irrefl n)] at ih
      rw [if_pos (show n < n + 1 by omega)]; omega
    · simp only [pq_ub, pk_un e]
      by_cases h2 : i < n
      · rw [if_pos h2] at ih; rw [if_pos (show i < n + 1 by omega)]; omega
      · rw [if_neg h2] at ih; rw [if_neg (show ¬ i < n + 1 by omega)]; omega
theorem pq_tb_upd {g k : Nat → Int32} {v : Int32} {p : Nat} : ∀ n, n ≤ p → pq_tb g (upd k p v) n = pq_tb g k n
  | 0, _ => rfl
  | n + 1, h => by
    simp only [pq_tb, pk_un (show n ≠ p by omega), pq_tb_upd (g := g) (k := k) (v := v) (p := p) n (by omega)]
/-- the closure's bookkeeping: g the instructions (0 a byte), f the stamps, k the stack of pl places, rd read -/
def pq_cb (g f k : Nat → Int32) (x : Int32) (mn pl rd : Nat) : Prop := (∀ p, p < pl → 0 ≤ (k p).toInt ∧ (k p).toInt < (mn : Int)) ∧ pl + pq_un f x mn ≤ mn ∧ rd + pq_tb g k pl + pq_ub g f x mn ≤ 400
theorem pq_cb.lt {g f k : Nat → Int32} {x : Int32} {mn pl rd i : Nat} (h : pq_cb g f k x mn pl rd) (hi : i < mn) (hf : ¬ f i = x) : pl < mn := by
  have h1 := pq_un_upd hf mn
  rw [if_pos hi] at h1
  have := h.2.1
  omega
theorem pq_cb.push {g f k : Nat → Int32} {x i : Int32} {mn pl rd : Nat} (h : pq_cb g f k x mn pl rd) (h0 : 0 ≤ i.toInt) (h1 : i.toInt < (mn : Int)) (hf : ¬ f i.toNatClampNeg = x) : pq_cb g (upd f i.toNatClampNeg x) (upd k pl i) x mn (pl + 1) rd := by
  have hi : i.toNatClampNeg < mn := by have := pq_cl h0; omega
  have e1 := pq_un_upd hf mn
  have e2 := pq_ub_upd (g := g) hf mn
  rw [if_pos hi] at e1 e2
  refine ⟨fun p hp => ?_, by have := h.2.1; omega, ?_⟩
  · by_cases e : p = pl
    · subst e; rw [pk_us]; exact ⟨h0, h1⟩
    · rw [pk_un e]; exact h.1 p (by omega)
  · simp only [pq_tb, pk_us, pq_tb_upd pl (Nat.le_refl _)]
    have := h.2.2
    omega
theorem pq_cb.pop {g f k : Nat → Int32} {x : Int32} {mn pl rd : Nat} (h : pq_cb g f k x mn (pl + 1) rd) : pq_cb g f k x mn pl (rd + (if g (k pl).toNatClampNeg = 0 then 1 else 0)) ∧ 0 ≤ (k pl).toInt ∧ (k pl).toInt < (mn : Int) := by
  refine ⟨⟨fun p hp => h.1 p (by omega), by have := h.2.1; omega, ?_⟩, h.1 pl (by omega)⟩
  have := h.2.2
  simp only [pq_tb] at this
  omega
theorem pq_cb.start {g f k : Nat → Int32} {x : Int32} {mn : Nat} (h : pq_z g mn ≤ 400) : pq_cb g f k x mn 0 0 := ⟨fun p hp => absurd hp (Nat.not_lt_zero _), by have := pq_un_le f x mn; omega, by have := pq_ub_le g f x mn; simp only [pq_tb]; omega⟩
theorem pq_cb.less {g f k : Nat → Int32} {x : Int32} {mn pl rd rd' : Nat} (h : pq_cb g f k x mn pl rd) (hr : rd' ≤ rd) : pq_cb g f k x mn pl rd' := ⟨h.1, h.2.1, by have := h.2.2; omega⟩
/-- a program whose jumps stay within it: g what, f how far, of n instructions with mk masks -/
def pq_pw (g f : Nat → Int32) (n : Nat) (mk : Int) : Prop := ∀ i : Nat, i < n → (g i = 0 → 0 ≤ (f i).toInt ∧ (f i).toInt < mk) ∧ (¬ g i = 0 → ¬ g i = 3 → 0 ≤ (i : Int) + (f i).toInt ∧ (i : Int) + (f i).toInt < n ∧ (g i = 1 → i + 1 < n))

