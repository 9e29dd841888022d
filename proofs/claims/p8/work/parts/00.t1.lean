/-! ===== programs of rows: what a piece of a program reads, passes, leaves ===== -/
/-- a row: what it is (0 reads a place, 1 goes on and jumps, 2 jumps, 3 the end), its number -/
abbrev tq_P : Type := Nat → Nat × Int
def tq_es (P : tq_P) (k k' : Nat) : Prop := ((P k).1 = 1 ∧ k' = k + 1) ∨ (((P k).1 = 1 ∨ (P k).1 = 2) ∧ (k' : Int) = k + (P k).2)
/-- b is come to from a by the rows of [i, j) that are no exits -/
def tq_rc (P : tq_P) (J : Nat → Prop) (i j a b : Nat) : Prop := ∀ X : Nat → Prop, X a → (∀ k k', X k → i ≤ k → k < j → ¬ J k → tq_es P k k' → X k') → X b
theorem tq_rc.rf {P : tq_P} {J : Nat → Prop} {i j a : Nat} : tq_rc P J i j a a := fun _ h _ => h
theorem tq_rc.tr {P : tq_P} {J : Nat → Prop} {i j a b c : Nat} (h : tq_rc P J i j a b) (g : tq_rc P J i j b c) : tq_rc P J i j a c := fun X ha hs => g X (h X ha hs) hs
theorem tq_rc.st {P : tq_P} {J : Nat → Prop} {i j a b c : Nat} (h : tq_rc P J i j a b) (h1 : i ≤ b) (h2 : b < j) (h3 : ¬ J b) (g : tq_es P b c) : tq_rc P J i j a c := fun X ha hs => hs b c (h X ha hs) h1 h2 h3 g
theorem tq_rc.mn {P : tq_P} {J : Nat → Prop} {i j i' j' a b : Nat} (h : tq_rc P J i j a b) (h1 : i' ≤ i) (h2 : j ≤ j') : tq_rc P J i' j' a b := fun X ha hs => h X ha (fun k k' x a1 a2 => hs k k' x (by omega) (by omega))
/-- the same rows, the same exits -/
theorem tq_rc.sm {P P' : tq_P} {J J' : Nat → Prop} {i j a b : Nat} (h : tq_rc P J i j a b) (h1 : ∀ k, i ≤ k → k < j → P' k = P k) (h2 : ∀ k, i ≤ k → k < j → (J' k → J k)) : tq_rc P' J' i j a b := fun X ha hs => h X ha (fun k k' x a1 a2 a3 a4 => hs k k' x a1 a2 (fun z => a3 (h2 k a1 a2 z)) (by unfold tq_es; rw [h1 k a1 a2]; exact a4))
def tq_in (P : tq_P) (i j p : Nat) : Prop := ∃ k, i ≤ k ∧ k < j ∧ P k = (0, (p : Int))
/-- no place twice -/
def tq_u (P : tq_P) (i j : Nat) : Prop := ∀ k k' p : Nat, i ≤ k → k < j → i ≤ k' → k' < j → P k = (0, (p : Int)) → P k' = (0, (p : Int)) → k = k'
/-- places that are come to from a -/
def tq_rd (P : tq_P) (J : Nat → Prop) (i j a q : Nat) : Prop := ∃ k, i ≤ k ∧ k < j ∧ P k = (0, (q : Int)) ∧ tq_rc P J i j a k
/-- an exit is come to from a -/
def tq_ex (P : tq_P) (J : Nat → Prop) (i j a : Nat) : Prop := ∃ k, i ≤ k ∧ k < j ∧ J k ∧ tq_rc P J i j a k
def tq_w (P : tq_P) (J : Nat → Prop) (i j : Nat) : Prop := i ≤ j ∧ ∀ k, i ≤ k → k < j → ¬ J k → ((P k).1 = 1 ∨ (P k).1 = 2) → (i : Int) ≤ k + (P k).2 ∧ k + (P k).2 ≤ j
theorem tq_w.go {P : tq_P} {J : Nat → Prop} {i j k k' : Nat} (h : tq_w P J i j) (a1 : i ≤ k) (a2 : k < j) (a3 : ¬ J k) (a4 : tq_es P k k') : i ≤ k' ∧ k' ≤ j := by
  rcases a4 with ⟨_, e⟩ | ⟨e1, e2⟩
  · omega
  · have := h.2 k a1 a2 a3 e1; omega
/-- the piece [i, j): H the places it may begin with, N whether it may be passed, M whether it may be left by an exit; of each of its places: F those that may follow, T whether its end may come next, U an exit -/
def tq_S (P : tq_P) (J : Nat → Prop) (i j : Nat) (F : Nat → Nat → Prop) (H : Nat → Prop) (N M : Prop) (T U : Nat → Prop) : Prop :=
  tq_w P J i j ∧ ((∀ q, H q ↔ tq_rd P J i j i q) ∧ (N ↔ tq_rc P J i j i j) ∧ (M ↔ tq_ex P J i j i)) ∧ ((∀ p, T p → tq_in P i j p) ∧ (∀ p, U p → tq_in P i j p)) ∧
  ∀ p k : Nat, i ≤ k → k < j → P k = (0, (p : Int)) → (∀ q, F p q ↔ tq_rd P J i j (k + 1) q) ∧ (T p ↔ tq_rc P J i j (k + 1) j) ∧ (U p ↔ tq_ex P J i j (k + 1))
/-- where a way inside a piece leads -/
theorem tq_rc.bd {P : tq_P} {J : Nat → Prop} {i j a b : Nat} (hw : tq_w P J i j) (h : tq_rc P J i j a b) (h1 : i ≤ a) (h2 : a ≤ j) : i ≤ b ∧ b ≤ j :=
  h (fun x => i ≤ x ∧ x ≤ j) ⟨h1, h2⟩ (fun k k' _ a1 a2 a3 a4 => hw.go a1 a2 a3 a4)
/-- a way from the first of two pieces -/
theorem tq_rc.c1 {P : tq_P} {J : Nat → Prop} {i j l a b : Nat} (h1 : tq_w P J i j) (h2 : tq_w P J j l) (h : tq_rc P J i l a b) (ha : i ≤ a) (hb : a ≤ j) : (b < j ∧ tq_rc P J i j a b) ∨ (j ≤ b ∧ tq_rc P J i j a j ∧ tq_rc P J j l j b) := by
  refine h (fun b => (b < j ∧ tq_rc P J i j a b) ∨ (j ≤ b ∧ tq_rc P J i j a j ∧ tq_rc P J j l j b)) ?_ ?_
  · by_cases e : a = j
    · subst e; exact Or.inr ⟨Nat.le_refl _, tq_rc.rf, tq_rc.rf⟩
    · exact Or.inl ⟨by omega, tq_rc.rf⟩
  · rintro k k' (⟨x1, x2⟩ | ⟨x1, x2, x3⟩) a1 a2 a3 a4
    · have hk := h1.go a1 x1 a3 a4
      have st := x2.st a1 x1 a3 a4
      by_cases e : k' = j
      · subst e; exact Or.inr ⟨Nat.le_refl _, st, tq_rc.rf⟩
      · exact Or.inl ⟨by omega, st⟩
    · have hk := h2.go x1 a2 a3 a4
      exact Or.inr ⟨hk.1, x2, x3.st x1 a2 a3 a4⟩
/-- a way from the second -/
theorem tq_rc.c2 {P : tq_P} {J : Nat → Prop} {i j l a b : Nat} (h2 : tq_w P J j l) (h : tq_rc P J i l a b) (ha : j ≤ a) : j ≤ b ∧ tq_rc P J j l a b :=
  h (fun b => j ≤ b ∧ tq_rc P J j l a b) ⟨ha, tq_rc.rf⟩ (fun k k' x _ a2 a3 a4 => ⟨(h2.go x.1 a2 a3 a4).1, x.2.st x.1 a2 a3 a4⟩)
theorem tq_rc.j1 {P : tq_P} {J : Nat → Prop} {i j l a b : Nat} (h1 : tq_w P J i j) (h2 : tq_w P J j l) (ha : i ≤ a) (hb : a ≤ j) : tq_rc P J i l a b ↔ (b < j ∧ tq_rc P J i j a b) ∨ (j ≤ b ∧ tq_rc P J i j a j ∧ tq_rc P J j l j b) :=
  ⟨fun h => h.c1 h1 h2 ha hb, fun h => by
    rcases h with ⟨_, h⟩ | ⟨_, h, g⟩
    · exact h.mn (Nat.le_refl _) h2.1
    · exact (h.mn (Nat.le_refl _) h2.1).tr (g.mn h1.1 (Nat.le_refl _))⟩
theorem tq_rc.j2 {P : tq_P} {J : Nat → Prop} {i j l a b : Nat} (h1 : i ≤ j) (h2 : tq_w P J j l) (ha : j ≤ a) : tq_rc P J i l a b ↔ j ≤ b ∧ tq_rc P J j l a b :=
  ⟨fun h => h.c2 h2 ha, fun h => h.2.mn h1 (Nat.le_refl _)⟩
theorem tq_w.cat {P : tq_P} {J : Nat → Prop} {i j l : Nat} (h1 : tq_w P J i j) (h2 : tq_w P J j l) : tq_w P J i l := by
  refine ⟨Nat.le_trans h1.1 h2.1, fun k a1 a2 a3 a4 => ?_⟩
  have g1 := h1.1
  have g2 := h2.1
  by_cases e : k < j
  · have := h1.2 k a1 e a3 a4; omega
  · have := h2.2 k (by omega) a2 a3 a4; omega
theorem tq_rd.j1 {P : tq_P} {J : Nat → Prop} {i j l a q : Nat} (h1 : tq_w P J i j) (h2 : tq_w P J j l) (ha : i ≤ a) (hb : a ≤ j) : tq_rd P J i l a q ↔ tq_rd P J i j a q ∨ (tq_rc P J i j a j ∧ tq_rd P J j l j q) := by
  have g1 := h1.1
  have g2 := h2.1
  constructor
  · rintro ⟨k, a1, a2, a3, a4⟩
    rcases a4.c1 h1 h2 ha hb with ⟨b1, b2⟩ | ⟨b1, b2, b3⟩
    · exact Or.inl ⟨k, a1, b1, a3, b2⟩
    · exact Or.inr ⟨b2, k, b1, a2, a3, b3⟩
  · rintro (⟨k, a1, a2, a3, a4⟩ | ⟨b1, k, a1, a2, a3, a4⟩)
    · exact ⟨k, a1, by omega, a3, a4.mn (Nat.le_refl _) g2⟩
    · exact ⟨k, by omega, a2, a3, (b1.mn (Nat.le_refl _) g2).tr (a4.mn g1 (Nat.le_refl _))⟩
theorem tq_ex.j1 {P : tq_P} {J : Nat → Prop} {i j l a : Nat} (h1 : tq_w P J i j) (h2 : tq_w P J j l) (ha : i ≤ a) (hb : a ≤ j) : tq_ex P J i l a ↔ tq_ex P J i j a ∨ (tq_rc P J i j a j ∧ tq_ex P J j l j) := by
  have g1 := h1.1
  have g2 := h2.1
  constructor
  · rintro ⟨k, a1, a2, a3, a4⟩
    rcases a4.c1 h1 h2 ha hb with ⟨b1, b2⟩ | ⟨b1, b2, b3⟩
    · exact Or.inl ⟨k, a1, b1, a3, b2⟩
    · exact Or.inr ⟨b2, k, b1, a2, a3, b3⟩
  · rintro (⟨k, a1, a2, a3, a4⟩ | ⟨b1, k, a1, a2, a3, a4⟩)
    · exact ⟨k, a1, by omega, a3, a4.mn (Nat.le_refl _) g2⟩
    · exact ⟨k, by omega, a2, a3, (b1.mn (Nat.le_refl _) g2).tr (a4.mn g1 (Nat.le_refl _))⟩
theorem tq_rd.j2 {P : tq_P} {J : Nat → Prop} {i j l a q : Nat} (h1 : i ≤ j) (h2 : tq_w P J j l) (ha : j ≤ a) : tq_rd P J i l a q ↔ tq_rd P J j l a q := by
  constructor
  · rintro ⟨k, a1, a2, a3, a4⟩
    obtain ⟨b1, b2⟩ := a4.c2 h2 ha
    exact ⟨k, b1, a2, a3, b2⟩
  · rintro ⟨k, a1, a2, a3, a4⟩
    exact ⟨k, by omega, a2, a3, a4.mn h1 (Nat.le_refl _)⟩
theorem tq_ex.j2 {P : tq_P} {J : Nat → Prop} {i j l a : Nat} (h1 : i ≤ j) (h2 : tq_w P J j l) (ha : j ≤ a) : tq_ex P J i l a ↔ tq_ex P J j l a := by
  constructor
  · rintro ⟨k, a1, a2, a3, a4⟩
    obtain ⟨b1, b2⟩ := a4.c2 h2 ha
    exact ⟨k, b1, a2, a3, b2⟩
  · rintro ⟨k, a1, a2, a3, a4⟩
    exact ⟨k, by omega, a2, a3, a4.mn h1 (Nat.le_refl _)⟩
/-- two pieces, one behind the other -/
theorem tq_S.cat {P : tq_P} {J : Nat → Prop} {i j l : Nat} {F : Nat → Nat → Prop} {H1 H2 : Nat → Prop} {N1 M1 N2 M2 : Prop} {T1 U1 T2 U2 : Nat → Prop} (hu : tq_u P i l) (h1 : tq_S P J i j F H1 N1 M1 T1 U1) (h2 : tq_S P J j l F H2 N2 M2 T2 U2) :
    tq_S P J i l (fun p q => F p q ∨ (T1 p ∧ H2 q)) (fun q => H1 q ∨ (N1 ∧ H2 q)) (N1 ∧ N2) (M1 ∨ (N1 ∧ M2)) (fun p => T2 p ∨ (T1 p ∧ N2)) (fun p => U1 p ∨ U2 p ∨ (T1 p ∧ M2)) := by
  obtain ⟨w1, ⟨a1, a2, a3⟩, ⟨a4, a5⟩, a6⟩ := h1
  obtain ⟨w2, ⟨b1, b2, b3⟩, ⟨b4, b5⟩, b6⟩ := h2
  have g1 := w1.1
  have g2 := w2.1
  refine ⟨w1.cat w2, ⟨fun q => ?_, ?_, ?_⟩, ⟨fun p hp => ?_, fun p hp => ?_⟩, fun p k k1 k2 k3 => ?_⟩
  · show H1 q ∨ (N1 ∧ H2 q) ↔ _
    rw [tq_rd.j1 w1 w2 (Nat.le_refl _) g1, a1 q, a2, b1 q]
  · rw [tq_rc.j1 w1 w2 (Nat.le_refl _) g1, a2, b2]
    exact ⟨fun h => Or.inr ⟨g2, h.1, h.2⟩, fun h => by rcases h with h | h; omega; exact ⟨h.2.1, h.2.2⟩⟩
  · rw [tq_ex.j1 w1 w2 (Nat.le_refl _) g1, a3, a2, b3]
  · rcases hp with h | h
    · obtain ⟨k, k1, k2, k3⟩ := b4 p h; exact ⟨k, by omega, k2, k3⟩
    · obtain ⟨k, k1, k2, k3⟩ := a4 p h.1; exact ⟨k, k1, by omega, k3⟩
  · rcases hp with h | h | h
    · obtain ⟨k, k1, k2, k3⟩ := a5 p h; exact ⟨k, k1, by omega, k3⟩
    · obtain ⟨k, k1, k2, k3⟩ := b5 p h; exact ⟨k, by omega, k2, k3⟩
    · obtain ⟨k, k1, k2, k3⟩ := a4 p h.1; exact ⟨k, k1, by omega, k3⟩
  · by_cases e : k < j
    · obtain ⟨c1, c2, c3⟩ := a6 p k k1 e k3
      have n2 : ¬ T2 p := fun h => by
        obtain ⟨k', m1, m2, m3⟩ := b4 p h
        have := hu k k' p k1 k2 (by omega) m2 k3 m3; omega
      have n3 : ¬ U2 p := fun h => by
        obtain ⟨k', m1, m2, m3⟩ := b5 p h
        have := hu k k' p k1 k2 (by omega) m2 k3 m3; omega
      refine ⟨fun q => ?_, ?_, ?_⟩
      · show F p q ∨ (T1 p ∧ H2 q) ↔ _
        rw [tq_rd.j1 w1 w2 (by omega) (by omega), c1 q, c2, b1 q]
      · show T2 p ∨ (T1 p ∧ N2) ↔ _
        rw [tq_rc.j1 w1 w2 (by omega) (by omega), c2, b2]
        exact ⟨fun h => by rcases h with h | h; exact absurd h n2; exact Or.inr ⟨g2, h.1, h.2⟩, fun h => by rcases h with h | h; omega; exact Or.inr ⟨h.2.1, h.2.2⟩⟩
      · show U1 p ∨ U2 p ∨ (T1 p ∧ M2) ↔ _
        rw [tq_ex.j1 w1 w2 (by omega) (by omega), c3, c2, b3]
        exact ⟨fun h => by rcases h with h | h | h; exact Or.inl h; exact absurd h n3; exact Or.inr h, fun h => by rcases h with h | h; exact Or.inl h; exact Or.inr (Or.inr h)⟩
    · obtain ⟨c1, c2, c3⟩ := b6 p k (by omega) k2 k3
      have n2 : ¬ T1 p := fun h => by
        obtain ⟨k', m1, m2, m3⟩ := a4 p h
        have := hu k k' p k1 k2 m1 (by omega) k3 m3; omega
      have n3 : ¬ U1 p := fun h => by
        obtain ⟨k', m1, m2, m3⟩ := a5 p h
        have := hu k k' p k1 k2 m1 (by omega) k3 m3; omega
      refine ⟨fun q => ?_, ?_, ?_⟩
      · show F p q ∨ (T1 p ∧ H2 q) ↔ _
        rw [tq_rd.j2 g1 w2 (by omega), ← c1 q]
        exact ⟨fun h => by rcases h with h | h; exact h; exact absurd h.1 n2, Or.inl⟩
      · show T2 p ∨ (T1 p ∧ N2) ↔ _
        rw [tq_rc.j2 g1 w2 (by omega), ← c2]
        exact ⟨fun h => by rcases h with h | h; exact ⟨g2, h⟩; exact absurd h.1 n2, fun h => Or.inl h.2⟩
      · show U1 p ∨ U2 p ∨ (T1 p ∧ M2) ↔ _
        rw [tq_ex.j2 g1 w2 (by omega), ← c3]
        exact ⟨fun h => by rcases h with h | h | h; exact absurd h n3; exact h; exact absurd h.1 n2, fun h => Or.inr (Or.inl h)⟩
/-- the empty piece -/
theorem tq_S.nil {P : tq_P} {J : Nat → Prop} {i : Nat} {F : Nat → Nat → Prop} : tq_S P J i i F (fun _ => False) True False (fun _ => False) (fun _ => False) := by
  refine ⟨⟨Nat.le_refl _, fun k a1 a2 => by omega⟩, ⟨fun q => ⟨False.elim, fun ⟨k, a1, a2, _⟩ => by omega⟩, ⟨fun _ => tq_rc.rf, fun _ => trivial⟩, ⟨False.elim, fun ⟨k, a1, a2, _⟩ => by omega⟩⟩, ⟨fun p h => h.elim, fun p h => h.elim⟩, fun p k a1 a2 => by omega⟩
/-- one place -/
theorem tq_S.one {P : tq_P} {J : Nat → Prop} {i p : Nat} {F : Nat → Nat → Prop} (h : P i = (0, (p : Int))) (hJ : ¬ J i) (hF : ∀ q, ¬ F p q) : tq_S P J i (i + 1) F (fun q => q = p) False False (fun q => q = p) (fun _ => False) := by
  have ns : ∀ k', ¬ tq_es P i k' := fun k' e => by
    unfold tq_es at e
    rw [h] at e
    simp at e
  have st : ∀ b, tq_rc P J i (i + 1) i b → b = i := fun b hb => hb (fun x => x = i) rfl (fun k k' x a1 a2 a3 a4 => by
    have x' : k = i := x
    subst x'
    exact absurd a4 (ns k'))
  have st2 : ∀ b, tq_rc P J i (i + 1) (i + 1) b → b = i + 1 := fun b hb => hb (fun x => x = i + 1) rfl (fun k k' x a1 a2 a3 a4 => by
    have x' : k = i + 1 := x
    omega)
  refine ⟨⟨Nat.le_succ _, fun k a1 a2 _ a4 => ?_⟩, ⟨fun q => ⟨fun e => ⟨i, Nat.le_refl _, Nat.lt_succ_self _, by rw [e]; exact h, tq_rc.rf⟩, fun ⟨k, a1, a2, a3, _⟩ => ?_⟩, ⟨False.elim, fun z => ?_⟩, ⟨False.elim, fun ⟨k, a1, a2, a3, _⟩ => ?_⟩⟩, ⟨fun q e => ⟨i, Nat.le_refl _, Nat.lt_succ_self _, by rw [show q = p from e]; exact h⟩, fun _ z => z.elim⟩, fun q k a1 a2 a3 => ?_⟩
  · have e : k = i := by omega
    rw [e, h] at a4
    simp at a4
  · have e : k = i := by omega
    rw [e, h] at a3
    simp at a3
    omega
  · have := st _ z; omega
  · have e : k = i := by omega
    exact hJ (e ▸ a3)
  · have e : k = i := by omega
    subst e
    rw [h] at a3
    simp at a3
    have e2 : q = p := by omega
    subst e2
    refine ⟨fun q' => ⟨fun z => absurd z (hF q'), fun ⟨k', b1, b2, _, b4⟩ => ?_⟩, ⟨fun _ => tq_rc.rf, fun _ => rfl⟩, ⟨False.elim, fun ⟨k', b1, b2, _, b4⟩ => ?_⟩⟩
    · have := st2 _ b4; omega
    · have := st2 _ b4; omega
abbrev tq_J0 : Nat → Prop := fun _ => False
/-- rows that are the same: the same piece -/
theorem tq_S.sm {P P' : tq_P} {J J' : Nat → Prop} {i j : Nat} {F F' : Nat → Nat → Prop} {H : Nat → Prop} {N M : Prop} {T U : Nat → Prop} (h : tq_S P J i j F H N M T U) (h1 : ∀ k, i ≤ k → k < j → P' k = P k) (h2 : ∀ k, i ≤ k → k < j → (J' k ↔ J k)) (h3 : ∀ p q, tq_in P i j p → (F' p q ↔ F p q)) : tq_S P' J' i j F' H N M T U := by
  have rc : ∀ a b, tq_rc P' J' i j a b ↔ tq_rc P J i j a b := fun a b => ⟨fun z => z.sm (fun k a1 a2 => (h1 k a1 a2).symm) (fun k a1 a2 => (h2 k a1 a2).mpr), fun z => z.sm h1 (fun k a1 a2 => (h2 k a1 a2).mp)⟩
  have rd : ∀ a q, tq_rd P' J' i j a q ↔ tq_rd P J i j a q := fun a q => ⟨fun ⟨k, a1, a2, a3, a4⟩ => ⟨k, a1, a2, (h1 k a1 a2) ▸ a3, (rc a k).mp a4⟩, fun ⟨k, a1, a2, a3, a4⟩ => ⟨k, a1, a2, (h1 k a1 a2).trans a3, (rc a k).mpr a4⟩⟩
  have ex : ∀ a, tq_ex P' J' i j a ↔ tq_ex P J i j a := fun a => ⟨fun ⟨k, a1, a2, a3, a4⟩ => ⟨k, a1, a2, (h2 k a1 a2).mp a3, (rc a k).mp a4⟩, fun ⟨k, a1, a2, a3, a4⟩ => ⟨k, a1, a2, (h2 k a1 a2).mpr a3, (rc a k).mpr a4⟩⟩
  have inn : ∀ p, tq_in P i j p → tq_in P' i j p := fun p ⟨k, a1, a2, a3⟩ => ⟨k, a1, a2, (h1 k a1 a2).trans a3⟩
  obtain ⟨w, ⟨a1, a2, a3⟩, ⟨a4, a5⟩, a6⟩ := h
  refine ⟨⟨w.1, fun k b1 b2 b3 b4 => ?_⟩, ⟨fun q => (a1 q).trans (rd _ q).symm, a2.trans (rc _ _).symm, a3.trans (ex _).symm⟩, ⟨fun p z => inn p (a4 p z), fun p z => inn p (a5 p z)⟩, fun p k b1 b2 b3 => ?_⟩
  · rw [h1 k b1 b2] at b4 ⊢
    exact w.2 k b1 b2 (fun z => b3 ((h2 k b1 b2).mpr z)) b4
  · rw [h1 k b1 b2] at b3
    obtain ⟨c1, c2, c3⟩ := a6 p k b1 b2 b3
    exact ⟨fun q => (h3 p q ⟨k, b1, b2, b3⟩).trans ((c1 q).trans (rd _ q).symm), c2.trans (rc _ _).symm, c3.trans (ex _).symm⟩
/-- a piece, one row further -/
theorem tq_S.sh {P P' : tq_P} {J J' : Nat → Prop} {i j : Nat} {F : Nat → Nat → Prop} {H : Nat → Prop} {N M : Prop} {T U : Nat → Prop} (h : tq_S P J i j F H N M T U) (h1 : ∀ k, i ≤ k → k < j → P' (k + 1) = P k) (h2 : ∀ k, i ≤ k → k < j → (J' (k + 1) ↔ J k)) : tq_S P' J' (i + 1) (j + 1) F H N M T U := by
  obtain ⟨w, ⟨a1, a2, a3⟩, ⟨a4, a5⟩, a6⟩ := h
  have rc1 : ∀ a b, tq_rc P J i j a b → tq_rc P' J' (i + 1) (j + 1) (a + 1) (b + 1) := fun a b z => z (fun x => tq_rc P' J' (i + 1) (j + 1) (a + 1) (x + 1)) tq_rc.rf (fun k k' x b1 b2 b3 b4 => x.st (by omega) (by omega) (fun y => b3 ((h2 k b1 b2).mp y)) (by
    unfold tq_es at b4 ⊢
    rw [h1 k b1 b2]
    rcases b4 with ⟨c1, c2⟩ | ⟨c1, c2⟩
    · exact Or.inl ⟨c1, by omega⟩
    · exact Or.inr ⟨c1, by omega⟩))
  have rc2 : ∀ a b, tq_rc P' J' (i + 1) (j + 1) (a + 1) b → ∃ y, b = y + 1 ∧ tq_rc P J i j a y := fun a b z => z (fun x => ∃ y, x = y + 1 ∧ tq_rc P J i j a y) ⟨a, rfl, tq_rc.rf⟩ (fun k k' x b1 b2 b3 b4 => by
    obtain ⟨y, rfl, hy⟩ := x
    have c1 : i ≤ y := by omega
    have c2 : y < j := by omega
    have c3 : ¬ J y := fun z => b3 ((h2 y c1 c2).mpr z)
    unfold tq_es at b4
    rw [h1 y c1 c2] at b4
    rcases b4 with ⟨d1, d2⟩ | ⟨d1, d2⟩
    · exact ⟨y + 1, d2, hy.st c1 c2 c3 (Or.inl ⟨d1, rfl⟩)⟩
    · have := w.2 y c1 c2 c3 d1
      refine ⟨k' - 1, by omega, hy.st c1 c2 c3 (Or.inr ⟨d1, by omega⟩)⟩)
  have rc : ∀ a b, tq_rc P' J' (i + 1) (j + 1) (a + 1) (b + 1) ↔ tq_rc P J i j a b := fun a b => ⟨fun z => by
    obtain ⟨y, e, hy⟩ := rc2 a _ z
    have : b = y := by omega
    subst this; exact hy, rc1 a b⟩
  have rd : ∀ a q, tq_rd P' J' (i + 1) (j + 1) (a + 1) q ↔ tq_rd P J i j a q := fun a q => ⟨fun ⟨k, b1, b2, b3, b4⟩ => by
    obtain ⟨y, rfl, hy⟩ := rc2 a _ b4
    exact ⟨y, by omega, by omega, (h1 y (by omega) (by omega)) ▸ b3, hy⟩, fun ⟨k, b1, b2, b3, b4⟩ => ⟨k + 1, by omega, by omega, (h1 k b1 b2).trans b3, rc1 a k b4⟩⟩
  have ex : ∀ a, tq_ex P' J' (i + 1) (j + 1) (a + 1) ↔ tq_ex P J i j a := fun a => ⟨fun ⟨k, b1, b2, b3, b4⟩ => by
    obtain ⟨y, rfl, hy⟩ := rc2 a _ b4
    exact ⟨y, by omega, by omega, (h2 y (by omega) (by omega)).mp b3, hy⟩, fun ⟨k, b1, b2, b3, b4⟩ => ⟨k + 1, by omega, by omega, (h2 k b1 b2).mpr b3, rc1 a k b4⟩⟩
  have inn : ∀ p, tq_in P i j p → tq_in P' (i + 1) (j + 1) p := fun p ⟨k, b1, b2, b3⟩ => ⟨k + 1, by omega, by omega, (h1 k b1 b2).trans b3⟩
  have g := w.1
  refine ⟨⟨by omega, fun k b1 b2 b3 b4 => ?_⟩, ⟨fun q => (a1 q).trans (rd _ q).symm, a2.trans (rc _ _).symm, a3.trans (ex _).symm⟩, ⟨fun p z => inn p (a4 p z), fun p z => inn p (a5 p z)⟩, fun p k b1 b2 b3 => ?_⟩
  · obtain ⟨y, rfl⟩ : ∃ y, k = y + 1 := ⟨k - 1, by omega⟩
    rw [h1 y (by omega) (by omega)] at b4 ⊢
    have := w.2 y (by omega) (by omega) (fun z => b3 ((h2 y (by omega) (by omega)).mpr z)) b4
    omega
  · obtain ⟨y, rfl⟩ : ∃ y, k = y + 1 := ⟨k - 1, by omega⟩
    rw [h1 y (by omega) (by omega)] at b3
    obtain ⟨c1, c2, c3⟩ := a6 p y (by omega) (by omega) b3
    exact ⟨fun q => (c1 q).trans (rd _ q).symm, c2.trans (rc _ _).symm, c3.trans (ex _).symm⟩
