/-! ===== rows of bits ===== -/
theorem tr_b10 {i : Nat} : tr_bt 1 i ↔ i = 0 := tr_b1n 0 (by decide)
theorem tr_and1 {y : Int64} : (y &&& 1 = 1 ↔ tr_bt y 0) ∧ (y &&& 1 = 0 ↔ ¬ tr_bt y 0) := by
  by_cases h : tr_bt y 0
  · have e : y &&& 1 = 1 := tr_bt.ext (fun i _ => by
      rw [tr_bt.and, tr_b10]
      exact ⟨And.right, fun z => ⟨by rw [z]; exact h, z⟩⟩)
    rw [e]
    exact ⟨⟨fun _ => h, fun _ => rfl⟩, ⟨fun z => absurd z (by decide), fun z => absurd h z⟩⟩
  · have e : y &&& 1 = 0 := tr_bt.ext (fun i _ => by
      rw [tr_bt.and, tr_b10]
      exact ⟨fun z => absurd (by rw [← z.2]; exact z.1) h, fun z => absurd z tr_bt.z⟩)
    rw [e]
    exact ⟨⟨fun z => absurd z (by decide), fun z => absurd z h⟩, ⟨fun _ => h, fun _ => rfl⟩⟩
theorem tr_shr {x s : Int64} {j : Nat} (h : j < 64) (hs : (s.toBitVec.smod 64).toNat = j) : tr_bt (x >>> s) 0 ↔ tr_bt x j := by
  unfold tr_bt
  rw [Int64.toBitVec_shiftRight, BitVec.sshiftRight_eq', BitVec.getLsbD_sshiftRight, hs]
  simp [h]
theorem tr_shrN {x : Int64} {y : Int32} {j : Nat} (h : j < 64) (hy : y.toInt = (j : Int)) : tr_bt (x >>> (y.toInt64 &&& 63)) 0 ↔ tr_bt x j := by
  have e : y = Int32.ofNat j := by
    have := tr_i32 (c := y) (by omega)
    rw [this, hy]
    rfl
  subst e
  exact tr_shr h (tr_sh j h)
theorem tr_ushr {x : Int64} {s : UInt64} {j : Nat} (h : j < 64) (hs : (s.toBitVec % 64).toNat = j) : tr_bt ((x.toUInt64 >>> s).toInt64) 0 ↔ tr_bt x j := by
  unfold tr_bt
  have e : ((x.toUInt64 >>> s).toInt64).toBitVec = x.toBitVec >>> (s.toBitVec % 64) := by
    show (x.toUInt64 >>> s).toBitVec = _
    rw [UInt64.toBitVec_shiftRight]
    rfl
  rw [e, BitVec.ushiftRight_eq', BitVec.getLsbD_ushiftRight, hs]
  rw [Nat.add_zero]
theorem tr_ush (j : Nat) (h : j < 64) : (((Int32.ofNat j).toInt64.toUInt64 &&& Int64.toUInt64 63).toBitVec % 64).toNat = j := by
  have : ∀ j : Fin 64, (((Int32.ofNat j.1).toInt64.toUInt64 &&& Int64.toUInt64 63).toBitVec % 64).toNat = j.1 := by decide +kernel
  exact this ⟨j, h⟩
theorem tr_ushrN {x : Int64} {y : Int32} {j : Nat} (h : j < 64) (hy : y.toInt = (j : Int)) : tr_bt ((x.toUInt64 >>> (y.toInt64.toUInt64 &&& Int64.toUInt64 63)).toInt64) 0 ↔ tr_bt x j := by
  have e : y = Int32.ofNat j := by
    have := tr_i32 (c := y) (by omega)
    rw [this, hy]
    rfl
  subst e
  exact tr_ushr h (tr_ush j h)
/-- bit q of the seven words from st on -/
def tk_bit (r : Nat → Int64) (st q : Nat) : Prop := q < 448 ∧ tr_bt (r (st + q / 64)) (q % 64)
theorem tk_bit.sm {r r' : Nat → Int64} {st st' : Nat} (h : ∀ w, w < 7 → r' (st' + w) = r (st + w)) {q : Nat} : tk_bit r' st' q ↔ tk_bit r st q := by
  unfold tk_bit
  constructor
  · rintro ⟨a, b⟩
    rw [h (q / 64) (by omega)] at b
    exact ⟨a, b⟩
  · rintro ⟨a, b⟩
    rw [← h (q / 64) (by omega)] at b
    exact ⟨a, b⟩
theorem tk_bit.ext {r r' : Nat → Int64} {st st' : Nat} (h : ∀ q, tk_bit r' st' q ↔ tk_bit r st q) : ∀ w, w < 7 → r' (st' + w) = r (st + w) := fun w hw => tr_bt.ext (fun i hi => by
  have := h (64 * w + i)
  unfold tk_bit at this
  rw [show (64 * w + i) / 64 = w by omega, show (64 * w + i) % 64 = i by omega] at this
  have c : 64 * w + i < 448 := by omega
  exact ⟨fun z => (this.mp ⟨c, z⟩).2, fun z => (this.mpr ⟨c, z⟩).2⟩)
theorem tk_bit.z {r : Nat → Int64} {st : Nat} (h : ∀ w, w < 7 → r (st + w) = 0) {q : Nat} : ¬ tk_bit r st q := fun ⟨a, b⟩ => by
  rw [h (q / 64) (by omega)] at b
  exact tr_bt.z b
theorem tk_b63 {x : Int32} {p : Nat} (h : x.toInt = (p : Int)) : (x &&& 63).toInt = ((p % 64 : Nat) : Int) := by
  have e : x = nI p := by
    have := tr_i32 (c := x) (by omega)
    rw [this, h]
    rfl
  have hp : p < 2 ^ 31 := by have := Int32.toInt_lt x; omega
  rw [e, pk_andN (by omega) 6 rfl, nI_toInt (by omega)]
/-- a bit is set -/
theorem tk_bit.add {r : Nat → Int64} {st p : Nat} {x : Int32} (hp : p < 448) (hx : x.toInt = (p : Int)) {q : Nat} : tk_bit (vp_updL r (st + p / 64) (r (st + p / 64) ||| tr_b1 (x &&& 63))) st q ↔ tk_bit r st q ∨ q = p := by
  have hb := tk_b63 hx
  have b1 : ∀ i, tr_bt (tr_b1 (x &&& 63)) i ↔ i = p % 64 := fun i => by
    rw [tr_b1c (by omega) (by omega), hb]
    omega
  unfold tk_bit
  by_cases e : q / 64 = p / 64
  · rw [e, pk_uLs, tr_bt.or, b1]
    constructor
    · rintro ⟨a, z | z⟩
      · exact Or.inl ⟨a, z⟩
      · exact Or.inr (by omega)
    · rintro (⟨a, z⟩ | z)
      · exact ⟨a, Or.inl z⟩
      · exact ⟨by omega, Or.inr (by rw [z])⟩
  · rw [pk_uLn (by omega)]
    exact ⟨Or.inl, fun z => z.elim id (fun y => by rw [y] at e; exact absurd rfl e)⟩
/-- a bit set elsewhere -/
theorem tk_bit.el {r : Nat → Int64} {st k : Nat} {v : Int64} (h : k < st ∨ st + 7 ≤ k) {q : Nat} : tk_bit (vp_updL r k v) st q ↔ tk_bit r st q := by
  unfold tk_bit
  constructor
  · rintro ⟨a, b⟩
    rw [pk_uLn (by omega)] at b
    exact ⟨a, b⟩
  · rintro ⟨a, b⟩
    rw [← pk_uLn (f := r) (x := v) (show st + q / 64 ≠ k by omega)] at b
    exact ⟨a, b⟩
/-- one row of bits joined to another -/
theorem tk_bit.or {r r' r2 : Nat → Int64} {st st2 : Nat} (h : ∀ w, w < 7 → r' (st + w) = r (st + w) ||| r2 (st2 + w)) {q : Nat} : tk_bit r' st q ↔ tk_bit r st q ∨ tk_bit r2 st2 q := by
  unfold tk_bit
  constructor
  · rintro ⟨a, b⟩
    rw [h (q / 64) (by omega), tr_bt.or] at b
    exact b.imp (fun z => ⟨a, z⟩) (fun z => ⟨a, z⟩)
  · intro z
    have a : q < 448 := z.elim And.left And.left
    rw [h (q / 64) (by omega), tr_bt.or]
    exact ⟨a, z.imp And.right And.right⟩
theorem tk_bit.and {r' r r2 : Nat → Int64} {st st1 st2 : Nat} (h : ∀ w, w < 7 → r' (st + w) = r (st1 + w) &&& r2 (st2 + w)) {q : Nat} : tk_bit r' st q ↔ tk_bit r st1 q ∧ tk_bit r2 st2 q := by
  unfold tk_bit
  constructor
  · rintro ⟨a, b⟩
    rw [h (q / 64) (by omega), tr_bt.and] at b
    exact ⟨⟨a, b.1⟩, a, b.2⟩
  · rintro ⟨⟨a, b⟩, -, c⟩
    rw [h (q / 64) (by omega), tr_bt.and]
    exact ⟨a, b, c⟩
/-! ===== what is come to by rows: stamped rows ===== -/
/-- closed under steps, holds the starts, nothing but what is come to: that is all that is come to -/
theorem tq_cl {P : tq_P} {m : Nat} {I Z : Nat → Prop} (h0 : ∀ i, I i → Z i) (h1 : ∀ k k', k < m → Z k → tq_es P k k' → Z k') (h2 : ∀ k, Z k → ∃ i, I i ∧ tq_rc P tq_J0 0 m i k) (k : Nat) : Z k ↔ ∃ i, I i ∧ tq_rc P tq_J0 0 m i k :=
  ⟨h2 k, fun ⟨i, hi, hr⟩ => hr Z (h0 i hi) (fun x y hx _ hm _ he => h1 x y hm hx he)⟩
