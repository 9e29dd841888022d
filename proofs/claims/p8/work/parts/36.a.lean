/-! ===== the walk's fields, bundled: kd kinds, st the row of steps, n kinds in all, ss states ===== -/
theorem pq_mb {x y A B : Int} (hx : 0 ≤ x) (hA : x ≤ A) (hy : 0 ≤ y) (hB : y ≤ B) : 0 ≤ x * y ∧ x * y ≤ A * B ∧ x * y ≤ A * y ∧ x * y ≤ x * B := ⟨Int.mul_nonneg hx hy, Int.mul_le_mul hA hB hy (Int.le_trans hx hA), Int.mul_le_mul_of_nonneg_right hA hy, Int.mul_le_mul_of_nonneg_left hB hx⟩
theorem pq_mn {x y A : Int} (hy : 0 ≤ y) (hA : x < A) : x * y + y ≤ A * y := by
  have h : (x + 1) * y ≤ A * y := Int.mul_le_mul_of_nonneg_right (by omega) hy
  rw [Int.add_mul, Int.one_mul] at h
  exact h
theorem pq_i0 {i : Nat} : ¬ ((i : Int) < (0 : Int32).toInt) := by
  rw [show (0 : Int32).toInt = 0 from rfl]; omega
def pq_Wk (S : HS) (a kd st : Nat) (n ss : Int32) : Prop := (hO S a 1 = .ref kd ∧ pq_R S kd 6 ∧ hO S a 6 = .ref st ∧ pq_R S st 167) ∧ (hO S kd 3 = .int n ∧ hO S a 7 = .int ss) ∧ (1 ≤ n.toInt ∧ n.toInt ≤ 128 ∧ 2 ≤ ss.toInt ∧ ss.toInt ≤ 402) ∧ 402 * n.toInt ≤ (hN S st : Int)
section WK
variable {S S1 : HS} {a kd st : Nat} {n ss : Int32}
theorem pq_Wk.e1 (h : pq_Wk S a kd st n ss) : hO S a 1 = .ref kd := h.1.1
theorem pq_Wk.hk (h : pq_Wk S a kd st n ss) : pq_R S kd 6 := h.1.2.1
theorem pq_Wk.e6 (h : pq_Wk S a kd st n ss) : hO S a 6 = .ref st := h.1.2.2.1
theorem pq_Wk.hs (h : pq_Wk S a kd st n ss) : pq_R S st 167 := h.1.2.2.2
theorem pq_Wk.en (h : pq_Wk S a kd st n ss) : hO S kd 3 = .int n := h.2.1.1
theorem pq_Wk.e7 (h : pq_Wk S a kd st n ss) : hO S a 7 = .int ss := h.2.1.2
theorem pq_Wk.b (h : pq_Wk S a kd st n ss) : 1 ≤ n.toInt ∧ n.toInt ≤ 128 ∧ 2 ≤ ss.toInt ∧ ss.toInt ≤ 402 := h.2.2.1
theorem pq_Wk.l (h : pq_Wk S a kd st n ss) : 402 * n.toInt ≤ (hN S st : Int) := h.2.2.2
theorem pq_Wk.fr (h : pq_Wk S a kd st n ss) (ha : pq_R S a 11) {M : List (Nat × Nat)} (hF : pq_Fr M S S1) (hM : ∀ q ∈ M, q ∉ [(11, 1), (11, 6), (6, 3), (11, 7)]) : pq_Wk S1 a kd st n ss := by
  have nm : ∀ q, q ∈ [(11, 1), (11, 6), (6, 3), (11, 7)] → q ∉ M := fun q hq hm => hM q hm hq
  exact ⟨⟨hF.O ha (by decide) (nm _ (by decide)) h.e1, hF.R h.hk (by decide), hF.O ha (by decide) (nm _ (by decide)) h.e6, hF.R h.hs (by decide)⟩, ⟨hF.O h.hk (by decide) (nm _ (by decide)) h.en, hF.O ha (by decide) (nm _ (by decide)) h.e7⟩, h.b, by rw [(hF.1 st 167 h.hs (by decide)).2]; exact h.l⟩
theorem pq_Wk.fr7 {s2 : Int32} (h : pq_Wk S a kd st n ss) (ha : pq_R S a 11) {M : List (Nat × Nat)} (hF : pq_Fr M S S1) (hM : ∀ q ∈ M, q ∉ [(11, 1), (11, 6), (6, 3)]) (e7 : hO S1 a 7 = .int s2) (h2 : ss.toInt ≤ s2.toInt) (h3 : s2.toInt ≤ 402) : pq_Wk S1 a kd st n s2 := by
  have nm : ∀ q, q ∈ [(11, 1), (11, 6), (6, 3)] → q ∉ M := fun q hq hm => hM q hm hq
  exact ⟨⟨hF.O ha (by decide) (nm _ (by decide)) h.e1, hF.R h.hk (by decide), hF.O ha (by decide) (nm _ (by decide)) h.e6, hF.R h.hs (by decide)⟩, ⟨hF.O h.hk (by decide) (nm _ (by decide)) h.en, e7⟩, ⟨h.b.1, h.b.2.1, Int.le_trans h.b.2.2.1 h2, h3⟩, by rw [(hF.1 st 167 h.hs (by decide)).2]; exact h.l⟩
/-- the first m elements of a row lie below b -/
def pq_lt (f : Nat → Int32) (m b : Int) : Prop := ∀ i : Nat, (i : Int) < m → (f i).toInt < b
theorem pq_lt.mono {f : Nat → Int32} {m m2 b b2 : Int} (h : pq_lt f m b) (hm : m2 ≤ m) (hb : b ≤ b2) : pq_lt f m2 b2 := fun i hi => Int.lt_of_lt_of_le (h i (Int.lt_of_lt_of_le hi hm)) hb
theorem pq_lt.up0 {f : Nat → Int32} {m b : Int} {k : Nat} {v : Int32} (h : pq_lt f m b) (hv : v.toInt < b) (hk : m ≤ (k : Int)) : pq_lt (upd f k v) m b := fun i hi => by
  rw [pk_un (show i ≠ k by omega)]; exact h i hi
theorem pq_lt.set {f : Nat → Int32} {m b : Int} {k : Nat} {v : Int32} (h : pq_lt f m b) (hv : v.toInt < b) : pq_lt (upd f k v) m b := fun i hi => by
  by_cases e : i = k
  · rw [e, pk_us]; exact hv
  · rw [pk_un e]; exact h i hi
theorem pq_lt.next {f : Nat → Int32} {m b : Int} {k : Nat} {v : Int32} (h : pq_lt f m b) (hv : v.toInt < b) (hk : (k : Int) = m) : pq_lt (upd f k v) (m + 1) b := fun i hi => by
  by_cases e : i = k
  · rw [e, pk_us]; exact hv
  · rw [pk_un e]; exact h i (by omega)
end WK
