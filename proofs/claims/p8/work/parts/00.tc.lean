/-! ===== the walk over rows with a stack: what is stamped, what is read ===== -/
/-- m: the end's row; I: where it began; X: rows that are in hand; stamps st (x: this walk's), stack sk up to pl; places read, whether the end was met -/
def tk_C (P : tq_P) (m : Nat) (I X : Nat → Prop) (st sk : Nat → Int32) (x : Int32) (pl : Nat) (Rq : Nat → Prop) (bm : Prop) : Prop :=
  (∀ k, k ≤ m → st k = x → ∃ i, I i ∧ tq_rc P tq_J0 0 m i k) ∧
  (∀ k, k ≤ m → st k = x → (∃ p, p < pl ∧ (sk p).toInt = (k : Int)) ∨ X k ∨ ((k < m → ∀ k', tq_es P k k' → k' ≤ m ∧ st k' = x) ∧ (∀ q : Nat, k < m → P k = (0, (q : Int)) → Rq q) ∧ (k = m → bm))) ∧
  (∀ q : Nat, Rq q → ∃ k, k < m ∧ st k = x ∧ P k = (0, (q : Int))) ∧ (bm → st m = x) ∧ (∀ p, p < pl → ∃ k : Nat, (sk p).toInt = (k : Int) ∧ k ≤ m ∧ st k = x)
section TC
variable {P : tq_P} {m : Nat} {I X : Nat → Prop} {st sk : Nat → Int32} {x : Int32} {pl : Nat} {Rq : Nat → Prop} {bm : Prop}
theorem tk_C.start (h : ∀ k, k ≤ m → st k ≠ x) : tk_C P m (fun _ => False) (fun _ => False) st sk x 0 (fun _ => False) False :=
  ⟨fun k hk e => absurd e (h k hk), fun k hk e => absurd e (h k hk), fun _ z => z.elim, fun z => z.elim, fun p hp => absurd hp (Nat.not_lt_zero _)⟩
theorem tk_C.mono {J : Nat → Prop} (h : tk_C P m I X st sk x pl Rq bm) (hs : ∀ i, I i → J i) : tk_C P m J X st sk x pl Rq bm :=
  ⟨fun k hk e => by obtain ⟨i, a, b⟩ := h.1 k hk e; exact ⟨i, hs i a, b⟩, h.2⟩
theorem tk_C.push {i : Nat} {v : Int32} (h : tk_C P m I X st sk x pl Rq bm) (hi : i ≤ m) (hr : ∃ j, I j ∧ tq_rc P tq_J0 0 m j i) (hv : v.toInt = (i : Int)) : tk_C P m I X (upd st i x) (upd sk pl v) x (pl + 1) Rq bm := by
  obtain ⟨h1, h2, h3, h4, h5⟩ := h
  have up : ∀ k, st k = x → upd st i x k = x := fun k e => by
    by_cases z : k = i
    · rw [z, pk_us]
    · rw [pk_un z, e]
  refine ⟨fun k hk e => ?_, fun k hk e => ?_, fun q hq => ?_, fun z => up m (h4 z), fun p hp => ?_⟩
  · by_cases z : k = i
    · rw [z]; exact hr
    · rw [pk_un z] at e; exact h1 k hk e
  · by_cases z : k = i
    · exact Or.inl ⟨pl, Nat.lt_succ_self _, by rw [pk_us, z]; exact hv⟩
    · rw [pk_un z] at e
      rcases h2 k hk e with ⟨p, a, b⟩ | c | ⟨a, b, c⟩
      · exact Or.inl ⟨p, by omega, by rw [pk_un (by omega)]; exact b⟩
      · exact Or.inr (Or.inl c)
      · exact Or.inr (Or.inr ⟨fun hm k' he => ⟨(a hm k' he).1, up k' (a hm k' he).2⟩, b, c⟩)
  · obtain ⟨k, a, b, c⟩ := h3 q hq
    exact ⟨k, a, up k b, c⟩
  · by_cases z : p = pl
    · exact ⟨i, by rw [z, pk_us]; exact hv, hi, pk_us⟩
    · obtain ⟨k, a, b, c⟩ := h5 p (by omega)
      exact ⟨k, by rw [pk_un z]; exact a, b, up k c⟩
theorem tk_C.pop (h : tk_C P m I (fun _ => False) st sk x (pl + 1) Rq bm) : ∃ k0 : Nat, (sk pl).toInt = (k0 : Int) ∧ k0 ≤ m ∧ st k0 = x ∧ tk_C P m I (fun k => k = k0) st sk x pl Rq bm := by
  obtain ⟨h1, h2, h3, h4, h5⟩ := h
  obtain ⟨k0, a, b, c⟩ := h5 pl (Nat.lt_succ_self _)
  refine ⟨k0, a, b, c, h1, fun k hk e => ?_, h3, h4, fun p hp => h5 p (by omega)⟩
  rcases h2 k hk e with ⟨p, d, f⟩ | d | d
  · by_cases z : p = pl
    · rw [z] at f
      exact Or.inr (Or.inl (by omega))
    · exact Or.inl ⟨p, by omega, f⟩
  · exact d.elim
  · exact Or.inr (Or.inr d)
/-- the row in hand is done -/
theorem tk_C.done {k0 : Nat} {Rq' : Nat → Prop} {bm' : Prop} (h : tk_C P m I (fun k => k = k0) st sk x pl Rq bm) (d1 : k0 < m → ∀ k', tq_es P k0 k' → k' ≤ m ∧ st k' = x) (d2 : ∀ q : Nat, k0 < m → P k0 = (0, (q : Int)) → Rq' q) (d3 : k0 = m → bm') (e1 : ∀ q, Rq q → Rq' q) (e2 : bm → bm') (e3 : ∀ q : Nat, Rq' q → Rq q ∨ ∃ k, k < m ∧ st k = x ∧ P k = (0, (q : Int))) (e4 : bm' → bm ∨ st m = x) : tk_C P m I (fun _ => False) st sk x pl Rq' bm' := by
  obtain ⟨h1, h2, h3, h4, h5⟩ := h
  refine ⟨h1, fun k hk e => ?_, fun q hq => (e3 q hq).elim (h3 q) id, fun z => (e4 z).elim h4 id, h5⟩
  rcases h2 k hk e with d | d | ⟨a, b, c⟩
  · exact Or.inl d
  · have d' : k = k0 := d
    subst d'
    exact Or.inr (Or.inr ⟨d1, d2, d3⟩)
  · exact Or.inr (Or.inr ⟨a, fun q hm hq => e1 q (b q hm hq), fun z => e2 (c z)⟩)
theorem tk_C.fin (h : tk_C P m I (fun _ => False) st sk x 0 Rq bm) (hI : ∀ i, I i → i ≤ m ∧ st i = x) : (∀ q, Rq q ↔ ∃ i, I i ∧ tq_rd P tq_J0 0 m i q) ∧ (bm ↔ ∃ i, I i ∧ tq_rc P tq_J0 0 m i m) := by
  obtain ⟨h1, h2, h3, h4, h5⟩ := h
  have done : ∀ k, k ≤ m → st k = x → (k < m → ∀ k', tq_es P k k' → k' ≤ m ∧ st k' = x) ∧ (∀ q : Nat, k < m → P k = (0, (q : Int)) → Rq q) ∧ (k = m → bm) := fun k hk e => by
    rcases h2 k hk e with ⟨p, a, _⟩ | a | a
    · exact absurd a (Nat.not_lt_zero _)
    · exact a.elim
    · exact a
  have all : ∀ i k, I i → tq_rc P tq_J0 0 m i k → k ≤ m ∧ st k = x := fun i k hi hr => hr (fun k => k ≤ m ∧ st k = x) (hI i hi) (fun a b z _ hm _ he => (done a z.1 z.2).1 hm b he)
  refine ⟨fun q => ⟨fun z => ?_, fun ⟨i, hi, k, _, b, c, d⟩ => ?_⟩, ⟨fun z => h1 m (Nat.le_refl _) (h4 z), fun ⟨i, hi, hr⟩ => ?_⟩⟩
  · obtain ⟨k, a, b, c⟩ := h3 q z
    obtain ⟨i, d, e⟩ := h1 k (Nat.le_of_lt a) b
    exact ⟨i, d, k, Nat.zero_le _, a, c, e⟩
  · have := all i k hi d
    exact (done k this.1 this.2).2.1 q b c
  · have := all i m hi hr
    exact (done m this.1 this.2).2.2 rfl
end TC
