/-! ===== closed pieces: what is put around them ===== -/
abbrev tq_C (P : tq_P) (i j : Nat) (F : Nat → Nat → Prop) (H : Nat → Prop) (N : Prop) (T : Nat → Prop) : Prop := tq_S P tq_J0 i j F H N False T (fun _ => False)
theorem tq_ex0 {P : tq_P} {i j a : Nat} : tq_ex P tq_J0 i j a ↔ False := ⟨fun ⟨_, _, _, h, _⟩ => h, False.elim⟩
theorem tq_esI {P : tq_P} {k : Nat} {x : Int} {t : Nat} (h : P k = (1, x)) (ht : (t : Int) = k + x) (k' : Nat) : tq_es P k k' ↔ k' = k + 1 ∨ k' = t := by
  unfold tq_es
  rw [h]
  constructor
  · rintro (⟨_, e⟩ | ⟨_, e⟩)
    · exact Or.inl e
    · exact Or.inr (by omega)
  · rintro (e | e)
    · exact Or.inl ⟨rfl, e⟩
    · exact Or.inr ⟨Or.inl rfl, by omega⟩
theorem tq_esJ {P : tq_P} {k : Nat} {x : Int} {t : Nat} (h : P k = (2, x)) (ht : (t : Int) = k + x) (k' : Nat) : tq_es P k k' ↔ k' = t := by
  unfold tq_es
  rw [h]
  constructor
  · rintro (⟨e, _⟩ | ⟨_, e⟩)
    · exact absurd (show (2 : Nat) = 1 from e) (by decide)
    · omega
  · intro e
    exact Or.inr ⟨Or.inr rfl, by omega⟩
theorem tq_nb {P : tq_P} {k n : Nat} {x : Int} {q : Nat} (h : P k = (n + 1, x)) (h2 : P k = (0, (q : Int))) : False := by
  rw [h] at h2
  simp at h2
/-- + -/
theorem tq_C.plus {P : tq_P} {i j : Nat} {F : Nat → Nat → Prop} {H : Nat → Prop} {N : Prop} {T : Nat → Prop} (h : tq_C P i j F H N T) (hr : P j = (1, (i : Int) - j)) : tq_C P i (j + 1) (fun p q => F p q ∨ (T p ∧ H q)) H N T := by
  obtain ⟨w, ⟨a1, a2, a3⟩, ⟨a4, a5⟩, a6⟩ := h
  have g := w.1
  have es := tq_esI (t := i) hr (by omega)
  have ch : ∀ a b, i ≤ a → a ≤ j → (tq_rc P tq_J0 i (j + 1) a b ↔ (b ≤ j ∧ (tq_rc P tq_J0 i j a b ∨ (tq_rc P tq_J0 i j a j ∧ tq_rc P tq_J0 i j i b))) ∨ (b = j + 1 ∧ tq_rc P tq_J0 i j a j)) := by
    intro a b ha hb
    constructor
    · intro z
      refine z (fun b => (b ≤ j ∧ (tq_rc P tq_J0 i j a b ∨ (tq_rc P tq_J0 i j a j ∧ tq_rc P tq_J0 i j i b))) ∨ (b = j + 1 ∧ tq_rc P tq_J0 i j a j)) (Or.inl ⟨hb, Or.inl tq_rc.rf⟩) ?_
      rintro k k' (⟨x1, x2⟩ | ⟨x1, x2⟩) b1 b2 b3 b4
      · by_cases e : k < j
        · have bd := w.go b1 e b3 b4
          refine Or.inl ⟨bd.2, ?_⟩
          rcases x2 with x2 | ⟨x2, x3⟩
          · exact Or.inl (x2.st b1 e b3 b4)
          · exact Or.inr ⟨x2, x3.st b1 e b3 b4⟩
        · have e2 : k = j := by omega
          subst e2
          have x4 : tq_rc P tq_J0 i k a k := by rcases x2 with x2 | x2; exact x2; exact x2.1
          rcases (es k').mp b4 with e3 | e3
          · exact Or.inr ⟨e3, x4⟩
          · subst e3
            exact Or.inl ⟨g, Or.inr ⟨x4, tq_rc.rf⟩⟩
      · omega
    · have nx : ∀ t, (t = j + 1 ∨ t = i) → tq_rc P tq_J0 i j a j → tq_rc P tq_J0 i (j + 1) a t := fun t ht z => (z.mn (Nat.le_refl _) (Nat.le_succ _)).st g (Nat.lt_succ_self _) (fun q => q) ((es t).mpr ht)
      rintro (⟨_, x2⟩ | ⟨x1, x2⟩)
      · rcases x2 with x2 | ⟨x2, x3⟩
        · exact x2.mn (Nat.le_refl _) (Nat.le_succ _)
        · exact (nx i (Or.inr rfl) x2).tr (x3.mn (Nat.le_refl _) (Nat.le_succ _))
      · subst x1
        exact nx _ (Or.inl rfl) x2
  have rd : ∀ a q, i ≤ a → a ≤ j → (tq_rd P tq_J0 i (j + 1) a q ↔ tq_rd P tq_J0 i j a q ∨ (tq_rc P tq_J0 i j a j ∧ tq_rd P tq_J0 i j i q)) := by
    intro a q ha hb
    constructor
    · rintro ⟨k, b1, b2, b3, b4⟩
      have e : k ≠ j := fun e => by subst e; exact tq_nb (n := 0) hr b3
      rcases (ch a k ha hb).mp b4 with ⟨_, c | c⟩ | ⟨c, _⟩
      · exact Or.inl ⟨k, b1, by omega, b3, c⟩
      · exact Or.inr ⟨c.1, k, b1, by omega, b3, c.2⟩
      · omega
    · rintro (⟨k, b1, b2, b3, b4⟩ | ⟨b0, k, b1, b2, b3, b4⟩)
      · exact ⟨k, b1, by omega, b3, (ch a k ha hb).mpr (Or.inl ⟨by omega, Or.inl b4⟩)⟩
      · exact ⟨k, b1, by omega, b3, (ch a k ha hb).mpr (Or.inl ⟨by omega, Or.inr ⟨b0, b4⟩⟩)⟩
  refine ⟨⟨by omega, fun k b1 b2 b3 b4 => ?_⟩, ⟨fun q => ?_, ?_, tq_ex0.symm⟩, ⟨fun p z => ?_, fun p z => z.elim⟩, fun p k b1 b2 b3 => ?_⟩
  · by_cases e : k < j
    · have := w.2 k b1 e b3 b4; omega
    · have e2 : k = j := by omega
      subst e2
      rw [hr]
      show (i : Int) ≤ k + (i - k) ∧ k + (i - k) ≤ ((k + 1 : Nat) : Int)
      omega
  · rw [rd i q (Nat.le_refl _) g, a1 q]
    exact ⟨Or.inl, fun z => by rcases z with z | z; exact z; exact z.2⟩
  · rw [ch i (j + 1) (Nat.le_refl _) g, a2]
    exact ⟨fun z => Or.inr ⟨rfl, z⟩, fun z => by rcases z with z | z; omega; exact z.2⟩
  · obtain ⟨k, b1, b2, b3⟩ := a4 p z
    exact ⟨k, b1, by omega, b3⟩
  · have e : k ≠ j := fun e => by subst e; exact tq_nb (n := 0) hr b3
    obtain ⟨c1, c2, -⟩ := a6 p k b1 (by omega) b3
    refine ⟨fun q => ?_, ?_, tq_ex0.symm⟩
    · rw [rd (k + 1) q (by omega) (by omega), ← c1 q, ← c2, ← a1 q]
    · rw [ch (k + 1) (j + 1) (by omega) (by omega), ← c2]
      exact ⟨fun z => Or.inr ⟨rfl, z⟩, fun z => by rcases z with z | z; omega; exact z.2⟩
/-- ? -/
theorem tq_C.opt {P : tq_P} {i j : Nat} {F : Nat → Nat → Prop} {H : Nat → Prop} {N : Prop} {T : Nat → Prop} (h : tq_C P (i + 1) j F H N T) (hr : P i = (1, (j : Int) - i)) : tq_C P i j F H True T := by
  obtain ⟨w, ⟨a1, a2, a3⟩, ⟨a4, a5⟩, a6⟩ := h
  have g := w.1
  have es := tq_esI (t := j) hr (by omega)
  have chA : ∀ a b, i + 1 ≤ a → (tq_rc P tq_J0 i j a b ↔ i + 1 ≤ b ∧ tq_rc P tq_J0 (i + 1) j a b) := by
    intro a b ha
    constructor
    · intro z
      exact z (fun b => i + 1 ≤ b ∧ tq_rc P tq_J0 (i + 1) j a b) ⟨ha, tq_rc.rf⟩ (fun k k' x _ b2 b3 b4 => ⟨(w.go x.1 b2 b3 b4).1, x.2.st x.1 b2 b3 b4⟩)
    · intro z
      exact z.2.mn (Nat.le_succ _) (Nat.le_refl _)
  have chI : ∀ b, tq_rc P tq_J0 i j i b ↔ b = i ∨ b = j ∨ (i + 1 ≤ b ∧ tq_rc P tq_J0 (i + 1) j (i + 1) b) := by
    intro b
    constructor
    · intro z
      refine z (fun b => b = i ∨ b = j ∨ (i + 1 ≤ b ∧ tq_rc P tq_J0 (i + 1) j (i + 1) b)) (Or.inl rfl) ?_
      rintro k k' (x | x | x) b1 b2 b3 b4
      · subst x
        rcases (es k').mp b4 with e | e
        · subst e; exact Or.inr (Or.inr ⟨Nat.le_refl _, tq_rc.rf⟩)
        · exact Or.inr (Or.inl e)
      · omega
      · exact Or.inr (Or.inr ⟨(w.go x.1 b2 b3 b4).1, x.2.st x.1 b2 b3 b4⟩)
    · have nx : ∀ t, (t = i + 1 ∨ t = j) → tq_rc P tq_J0 i j i t := fun t ht => tq_rc.rf.st (Nat.le_refl _) (by omega) (fun q => q) ((es t).mpr ht)
      rintro (x | x | x)
      · subst x; exact tq_rc.rf
      · subst x; exact nx _ (Or.inr rfl)
      · exact (nx _ (Or.inl rfl)).tr (x.2.mn (Nat.le_succ _) (Nat.le_refl _))
  have rdA : ∀ a q, i + 1 ≤ a → (tq_rd P tq_J0 i j a q ↔ tq_rd P tq_J0 (i + 1) j a q) := by
    intro a q ha
    constructor
    · rintro ⟨k, b1, b2, b3, b4⟩
      have c := (chA a k ha).mp b4
      exact ⟨k, c.1, b2, b3, c.2⟩
    · rintro ⟨k, b1, b2, b3, b4⟩
      exact ⟨k, by omega, b2, b3, (chA a k ha).mpr ⟨b1, b4⟩⟩
  refine ⟨⟨by omega, fun k b1 b2 b3 b4 => ?_⟩, ⟨fun q => ?_, ⟨fun _ => (chI j).mpr (Or.inr (Or.inl rfl)), fun _ => trivial⟩, tq_ex0.symm⟩, ⟨fun p z => ?_, fun p z => z.elim⟩, fun p k b1 b2 b3 => ?_⟩
  · by_cases e : k = i
    · subst e
      rw [hr]
      show (k : Int) ≤ k + (j - k) ∧ (k : Int) + (j - k) ≤ j
      omega
    · have := w.2 k (by omega) b2 b3 b4; omega
  · rw [a1 q]
    constructor
    · rintro ⟨k, b1, b2, b3, b4⟩
      exact ⟨k, by omega, b2, b3, (chI k).mpr (Or.inr (Or.inr ⟨b1, b4⟩))⟩
    · rintro ⟨k, b1, b2, b3, b4⟩
      rcases (chI k).mp b4 with x | x | x
      · subst x; exact (tq_nb (n := 0) hr b3).elim
      · omega
      · exact ⟨k, x.1, b2, b3, x.2⟩
  · obtain ⟨k, b1, b2, b3⟩ := a4 p z
    exact ⟨k, by omega, b2, b3⟩
  · have e : k ≠ i := fun e => by subst e; exact tq_nb (n := 0) hr b3
    obtain ⟨c1, c2, -⟩ := a6 p k (by omega) b2 b3
    refine ⟨fun q => (c1 q).trans (rdA (k + 1) q (by omega)).symm, ?_, tq_ex0.symm⟩
    rw [chA (k + 1) j (by omega), ← c2]
    exact ⟨fun z => ⟨g, z⟩, fun z => z.2⟩
/-- * -/
theorem tq_C.star {P : tq_P} {i j : Nat} {F : Nat → Nat → Prop} {H : Nat → Prop} {N : Prop} {T : Nat → Prop} (h : tq_C P (i + 1) j F H N T) (hr : P i = (1, (j : Int) + 1 - i)) (hq : P j = (2, (i : Int) - j)) : tq_C P i (j + 1) (fun p q => F p q ∨ (T p ∧ H q)) H True T := by
  obtain ⟨w, ⟨a1, a2, a3⟩, ⟨a4, a5⟩, a6⟩ := h
  have g := w.1
  have es := tq_esI (t := j + 1) hr (by omega)
  have eq := tq_esJ (t := i) hq (by omega)
  have nI : tq_rc P tq_J0 i (j + 1) i (i + 1) := tq_rc.rf.st (Nat.le_refl _) (by omega) (fun q => q) ((es _).mpr (Or.inl rfl))
  have nE : tq_rc P tq_J0 i (j + 1) i (j + 1) := tq_rc.rf.st (Nat.le_refl _) (by omega) (fun q => q) ((es _).mpr (Or.inr rfl))
  have nJ : tq_rc P tq_J0 i (j + 1) j i := tq_rc.rf.st (by omega) (by omega) (fun q => q) ((eq _).mpr rfl)
  have up : ∀ a b, tq_rc P tq_J0 (i + 1) j a b → tq_rc P tq_J0 i (j + 1) a b := fun a b z => z.mn (Nat.le_succ _) (Nat.le_succ _)
  have chA : ∀ a b, i + 1 ≤ a → a ≤ j → (tq_rc P tq_J0 i (j + 1) a b ↔ (i + 1 ≤ b ∧ b ≤ j ∧ (tq_rc P tq_J0 (i + 1) j a b ∨ (tq_rc P tq_J0 (i + 1) j a j ∧ tq_rc P tq_J0 (i + 1) j (i + 1) b))) ∨ ((b = i ∨ b = j + 1) ∧ tq_rc P tq_J0 (i + 1) j a j)) := by
    intro a b ha hb
    constructor
    · intro z
      refine z (fun b => (i + 1 ≤ b ∧ b ≤ j ∧ (tq_rc P tq_J0 (i + 1) j a b ∨ (tq_rc P tq_J0 (i + 1) j a j ∧ tq_rc P tq_J0 (i + 1) j (i + 1) b))) ∨ ((b = i ∨ b = j + 1) ∧ tq_rc P tq_J0 (i + 1) j a j)) (Or.inl ⟨ha, hb, Or.inl tq_rc.rf⟩) ?_
      rintro k k' (⟨x1, x2, x3⟩ | ⟨x1, x2⟩) b1 b2 b3 b4
      · by_cases e : k < j
        · have bd := w.go x1 e b3 b4
          refine Or.inl ⟨bd.1, bd.2, ?_⟩
          rcases x3 with x3 | ⟨x3, x4⟩
          · exact Or.inl (x3.st x1 e b3 b4)
          · exact Or.inr ⟨x3, x4.st x1 e b3 b4⟩
        · have e2 : k = j := by omega
          subst e2
          have x5 : tq_rc P tq_J0 (i + 1) k a k := by rcases x3 with x3 | x3; exact x3; exact x3.1
          exact Or.inr ⟨Or.inl ((eq k').mp b4), x5⟩
      · rcases x1 with x1 | x1
        · subst x1
          rcases (es k').mp b4 with e | e
          · subst e; exact Or.inl ⟨Nat.le_refl _, g, Or.inr ⟨x2, tq_rc.rf⟩⟩
          · exact Or.inr ⟨Or.inr e, x2⟩
        · omega
    · rintro (⟨x1, x2, x3⟩ | ⟨x1, x2⟩)
      · rcases x3 with x3 | ⟨x3, x4⟩
        · exact up _ _ x3
        · exact (((up _ _ x3).tr nJ).tr nI).tr (up _ _ x4)
      · rcases x1 with x1 | x1
        · subst x1; exact (up _ _ x2).tr nJ
        · subst x1; exact ((up _ _ x2).tr nJ).tr nE
  have chI : ∀ b, tq_rc P tq_J0 i (j + 1) i b ↔ b = i ∨ b = j + 1 ∨ (i + 1 ≤ b ∧ b ≤ j ∧ tq_rc P tq_J0 (i + 1) j (i + 1) b) := by
    intro b
    constructor
    · intro z
      refine z (fun b => b = i ∨ b = j + 1 ∨ (i + 1 ≤ b ∧ b ≤ j ∧ tq_rc P tq_J0 (i + 1) j (i + 1) b)) (Or.inl rfl) ?_
      rintro k k' (x | x | ⟨x1, x2, x3⟩) b1 b2 b3 b4
      · subst x
        rcases (es k').mp b4 with e | e
        · subst e; exact Or.inr (Or.inr ⟨Nat.le_refl _, g, tq_rc.rf⟩)
        · exact Or.inr (Or.inl e)
      · omega
      · by_cases e : k < j
        · have bd := w.go x1 e b3 b4
          exact Or.inr (Or.inr ⟨bd.1, bd.2, x3.st x1 e b3 b4⟩)
        · have e2 : k = j := by omega
          subst e2
          exact Or.inl ((eq k').mp b4)
    · rintro (x | x | ⟨_, _, x⟩)
      · subst x; exact tq_rc.rf
      · subst x; exact nE
      · exact nI.tr (up _ _ x)
  refine ⟨⟨by omega, fun k b1 b2 b3 b4 => ?_⟩, ⟨fun q => ?_, ⟨fun _ => nE, fun _ => trivial⟩, tq_ex0.symm⟩, ⟨fun p z => ?_, fun p z => z.elim⟩, fun p k b1 b2 b3 => ?_⟩
  · by_cases e : k = i
    · subst e
      rw [hr]
      show (k : Int) ≤ k + (j + 1 - k) ∧ (k : Int) + (j + 1 - k) ≤ ((j + 1 : Nat) : Int)
      omega
    · by_cases e2 : k = j
      · subst e2
        rw [hq]
        show (i : Int) ≤ k + (i - k) ∧ (k : Int) + (i - k) ≤ ((k + 1 : Nat) : Int)
        omega
      · have := w.2 k (by omega) (by omega) b3 b4; omega
  · rw [a1 q]
    constructor
    · rintro ⟨k, b1, b2, b3, b4⟩
      exact ⟨k, by omega, by omega, b3, (chI k).mpr (Or.inr (Or.inr ⟨b1, by omega, b4⟩))⟩
    · rintro ⟨k, b1, b2, b3, b4⟩
      have ne : k ≠ j := fun e => by subst e; exact tq_nb (n := 1) hq b3
      rcases (chI k).mp b4 with x | x | ⟨x1, x2, x3⟩
      · subst x; exact (tq_nb (n := 0) hr b3).elim
      · omega
      · exact ⟨k, x1, by omega, b3, x3⟩
  · obtain ⟨k, b1, b2, b3⟩ := a4 p z
    exact ⟨k, by omega, by omega, b3⟩
  · have e : k ≠ i := fun e => by subst e; exact tq_nb (n := 0) hr b3
    have e2 : k ≠ j := fun e => by subst e; exact tq_nb (n := 1) hq b3
    obtain ⟨c1, c2, -⟩ := a6 p k (by omega) (by omega) b3
    refine ⟨fun q => ?_, ?_, tq_ex0.symm⟩
    · show F p q ∨ (T p ∧ H q) ↔ _
      rw [c1 q, c2, a1 q]
      constructor
      · rintro (⟨m, b1, b2, b3, b4⟩ | ⟨b0, m, b1, b2, b3, b4⟩)
        · exact ⟨m, by omega, by omega, b3, up _ _ b4⟩
        · exact ⟨m, by omega, by omega, b3, (((up _ _ b0).tr nJ).tr nI).tr (up _ _ b4)⟩
      · rintro ⟨m, b1, b2, b3, b4⟩
        have ne : m ≠ j := fun e => by subst e; exact tq_nb (n := 1) hq b3
        rcases (chA (k + 1) m (by omega) (by omega)).mp b4 with ⟨x1, x2, x3 | x3⟩ | ⟨x1, x2⟩
        · exact Or.inl ⟨m, x1, by omega, b3, x3⟩
        · exact Or.inr ⟨x3.1, m, x1, by omega, b3, x3.2⟩
        · rcases x1 with x1 | x1
          · subst x1; exact (tq_nb (n := 0) hr b3).elim
          · omega
    · rw [chA (k + 1) (j + 1) (by omega) (by omega), ← c2]
      exact ⟨fun z => Or.inr ⟨Or.inr rfl, z⟩, fun z => by rcases z with z | z; omega; exact z.2⟩
/-- one of several: passed over by its first row, left by its last -/
theorem tq_C.alt {P : tq_P} {J : Nat → Prop} {i j : Nat} {F : Nat → Nat → Prop} {H : Nat → Prop} {N : Prop} {T : Nat → Prop} (h : tq_C P (i + 1) j F H N T) (hr : P i = (1, (j : Int) + 1 - i)) {x : Int} (hq : P j = (2, x)) (hj : J j) (hn : ∀ k, i ≤ k → k < j → ¬ J k) : tq_S P J i (j + 1) F H True N (fun _ => False) T := by
  obtain ⟨w, ⟨a1, a2, a3⟩, ⟨a4, a5⟩, a6⟩ := h
  have g := w.1
  have es := tq_esI (t := j + 1) hr (by omega)
  have up : ∀ a b, tq_rc P tq_J0 (i + 1) j a b → tq_rc P J i (j + 1) a b := fun a b z => (z.sm (J' := J) (fun _ _ _ => rfl) (fun k b1 b2 y => hn k (by omega) b2 y)).mn (Nat.le_succ _) (Nat.le_succ _)
  have nI : tq_rc P J i (j + 1) i (i + 1) := tq_rc.rf.st (Nat.le_refl _) (by omega) (hn i (Nat.le_refl _) (by omega)) ((es _).mpr (Or.inl rfl))
  have nE : tq_rc P J i (j + 1) i (j + 1) := tq_rc.rf.st (Nat.le_refl _) (by omega) (hn i (Nat.le_refl _) (by omega)) ((es _).mpr (Or.inr rfl))
  have chA : ∀ a b, i + 1 ≤ a → a ≤ j → (tq_rc P J i (j + 1) a b ↔ i + 1 ≤ b ∧ b ≤ j ∧ tq_rc P tq_J0 (i + 1) j a b) := by
    intro a b ha hb
    constructor
    · intro z
      refine z (fun b => i + 1 ≤ b ∧ b ≤ j ∧ tq_rc P tq_J0 (i + 1) j a b) ⟨ha, hb, tq_rc.rf⟩ ?_
      rintro k k' ⟨x1, x2, x3⟩ b1 b2 b3 b4
      have e : k ≠ j := fun e => b3 (e ▸ hj)
      have bd := w.go x1 (by omega) (fun q => q) b4
      exact ⟨bd.1, bd.2, x3.st x1 (by omega) (fun q => q) b4⟩
    · intro z
      exact up _ _ z.2.2
  have chI : ∀ b, tq_rc P J i (j + 1) i b ↔ b = i ∨ b = j + 1 ∨ (i + 1 ≤ b ∧ b ≤ j ∧ tq_rc P tq_J0 (i + 1) j (i + 1) b) := by
    intro b
    constructor
    · intro z
      refine z (fun b => b = i ∨ b = j + 1 ∨ (i + 1 ≤ b ∧ b ≤ j ∧ tq_rc P tq_J0 (i + 1) j (i + 1) b)) (Or.inl rfl) ?_
      rintro k k' (x | x | ⟨x1, x2, x3⟩) b1 b2 b3 b4
      · subst x
        rcases (es k').mp b4 with e | e
        · subst e; exact Or.inr (Or.inr ⟨Nat.le_refl _, g, tq_rc.rf⟩)
        · exact Or.inr (Or.inl e)
      · omega
      · have e : k ≠ j := fun e => b3 (e ▸ hj)
        have bd := w.go x1 (by omega) (fun q => q) b4
        exact Or.inr (Or.inr ⟨bd.1, bd.2, x3.st x1 (by omega) (fun q => q) b4⟩)
    · rintro (x | x | ⟨_, _, x⟩)
      · subst x; exact tq_rc.rf
      · subst x; exact nE
      · exact nI.tr (up _ _ x)
  refine ⟨⟨by omega, fun k b1 b2 b3 b4 => ?_⟩, ⟨fun q => ?_, ⟨fun _ => nE, fun _ => trivial⟩, ?_⟩, ⟨fun p z => z.elim, fun p z => ?_⟩, fun p k b1 b2 b3 => ?_⟩
  · by_cases e : k = i
    · subst e
      rw [hr]
      show (k : Int) ≤ k + (j + 1 - k) ∧ (k : Int) + (j + 1 - k) ≤ ((j + 1 : Nat) : Int)
      omega
    · have e2 : k ≠ j := fun e => b3 (e ▸ hj)
      have := w.2 k (by omega) (by omega) (fun q => q) b4; omega
  · rw [a1 q]
    constructor
    · rintro ⟨k, b1, b2, b3, b4⟩
      exact ⟨k, by omega, by omega, b3, (chI k).mpr (Or.inr (Or.inr ⟨b1, by omega, b4⟩))⟩
    · rintro ⟨k, b1, b2, b3, b4⟩
      have ne : k ≠ j := fun e => by subst e; exact tq_nb (n := 1) hq b3
      rcases (chI k).mp b4 with x | x | ⟨x1, x2, x3⟩
      · subst x; exact (tq_nb (n := 0) hr b3).elim
      · omega
      · exact ⟨k, x1, by omega, b3, x3⟩
  · rw [a2]
    constructor
    · intro z
      exact ⟨j, by omega, by omega, hj, (chI j).mpr (Or.inr (Or.inr ⟨g, Nat.le_refl _, z⟩))⟩
    · rintro ⟨k, b1, b2, b3, b4⟩
      have e : k = j := by
        by_cases e : k < j
        · exact absurd b3 (hn k b1 e)
        · omega
      subst e
      rcases (chI k).mp b4 with x | x | ⟨x1, x2, x3⟩
      · omega
      · omega
      · exact x3
  · obtain ⟨k, b1, b2, b3⟩ := a4 p z
    exact ⟨k, by omega, by omega, b3⟩
  · have e : k ≠ i := fun e => by subst e; exact tq_nb (n := 0) hr b3
    have e2 : k ≠ j := fun e => by subst e; exact tq_nb (n := 1) hq b3
    obtain ⟨c1, c2, -⟩ := a6 p k (by omega) (by omega) b3
    refine ⟨fun q => ?_, ⟨False.elim, fun z => ?_⟩, ?_⟩
    · rw [c1 q]
      constructor
      · rintro ⟨m, b1, b2, b3, b4⟩
        exact ⟨m, by omega, by omega, b3, up _ _ b4⟩
      · rintro ⟨m, b1, b2, b3, b4⟩
        have ne : m ≠ j := fun e => by subst e; exact tq_nb (n := 1) hq b3
        obtain ⟨x1, x2, x3⟩ := (chA (k + 1) m (by omega) (by omega)).mp b4
        exact ⟨m, x1, by omega, b3, x3⟩
    · have := (chA (k + 1) (j + 1) (by omega) (by omega)).mp z
      omega
    · rw [c2]
      constructor
      · intro z
        exact ⟨j, by omega, by omega, hj, up _ _ z⟩
      · rintro ⟨m, b1, b2, b3, b4⟩
        have e : m = j := by
          by_cases e : m < j
          · exact absurd b3 (hn m b1 e)
          · omega
        subst e
        exact ((chA (k + 1) m (by omega) (by omega)).mp b4).2.2
/-- all exits lead to the end -/
theorem tq_S.land {P P' : tq_P} {J : Nat → Prop} {i j : Nat} {F : Nat → Nat → Prop} {H : Nat → Prop} {N M : Prop} {T U : Nat → Prop} (h : tq_S P J i j F H N M T U) (h0 : ∀ k, i ≤ k → k < j → J k → (P k).1 = 2) (h1 : ∀ k, i ≤ k → k < j → J k → P' k = (2, (j : Int) - k)) (h2 : ∀ k, i ≤ k → k < j → ¬ J k → P' k = P k) : tq_C P' i j F H (N ∨ M) (fun p => T p ∨ U p) := by
  obtain ⟨w, ⟨a1, a2, a3⟩, ⟨a4, a5⟩, a6⟩ := h
  have g := w.1
  have up : ∀ a b, tq_rc P J i j a b → tq_rc P' tq_J0 i j a b := fun a b z => fun X ha hs => z X ha (fun k k' x b1 b2 b3 b4 => hs k k' x b1 b2 (fun q => q) (by unfold tq_es; rw [h2 k b1 b2 b3]; exact b4))
  have ch : ∀ a b, (tq_rc P' tq_J0 i j a b ↔ tq_rc P J i j a b ∨ (b = j ∧ tq_ex P J i j a)) := by
    intro a b
    constructor
    · intro z
      refine z (fun b => tq_rc P J i j a b ∨ (b = j ∧ tq_ex P J i j a)) (Or.inl tq_rc.rf) ?_
      rintro k k' (x | x) b1 b2 b3 b4
      · by_cases e : J k
        · have := (tq_esJ (t := j) (h1 k b1 b2 e) (by omega) k').mp b4
          exact Or.inr ⟨this, k, b1, b2, e, x⟩
        · refine Or.inl (x.st b1 b2 e ?_)
          unfold tq_es at b4 ⊢
          rw [h2 k b1 b2 e] at b4
          exact b4
      · omega
    · rintro (x | ⟨x, k, b1, b2, b3, b4⟩)
      · exact up _ _ x
      · subst x
        exact (up _ _ b4).st b1 b2 (fun q => q) ((tq_esJ (t := b) (h1 k b1 b2 b3) (by omega) b).mpr rfl)
  have by0 : ∀ k q : Nat, i ≤ k → k < j → (P' k = (0, (q : Int)) ↔ P k = (0, (q : Int))) := by
    intro k q b1 b2
    by_cases e : J k
    · have := h0 k b1 b2 e
      rw [h1 k b1 b2 e]
      constructor
      · intro z; simp at z
      · intro z; rw [z] at this; simp at this
    · rw [h2 k b1 b2 e]
  have rd : ∀ a q, tq_rd P' tq_J0 i j a q ↔ tq_rd P J i j a q := by
    intro a q
    constructor
    · rintro ⟨k, b1, b2, b3, b4⟩
      rcases (ch a k).mp b4 with x | x
      · exact ⟨k, b1, b2, (by0 k q b1 b2).mp b3, x⟩
      · omega
    · rintro ⟨k, b1, b2, b3, b4⟩
      exact ⟨k, b1, b2, (by0 k q b1 b2).mpr b3, up _ _ b4⟩
  refine ⟨⟨g, fun k b1 b2 b3 b4 => ?_⟩, ⟨fun q => (a1 q).trans (rd i q).symm, ?_, tq_ex0.symm⟩, ⟨fun p z => ?_, fun p z => z.elim⟩, fun p k b1 b2 b3 => ?_⟩
  · by_cases e : J k
    · rw [h1 k b1 b2 e]
      show (i : Int) ≤ k + (j - k) ∧ (k : Int) + (j - k) ≤ j
      omega
    · rw [h2 k b1 b2 e] at b4 ⊢
      exact w.2 k b1 b2 e b4
  · rw [ch i j, a2, a3]
    exact ⟨fun z => by rcases z with z | z; exact Or.inl z; exact Or.inr ⟨rfl, z⟩, fun z => by rcases z with z | z; exact Or.inl z; exact Or.inr z.2⟩
  · rcases z with z | z
    · obtain ⟨k, b1, b2, b3⟩ := a4 p z
      exact ⟨k, b1, b2, (by0 k p b1 b2).mpr b3⟩
    · obtain ⟨k, b1, b2, b3⟩ := a5 p z
      exact ⟨k, b1, b2, (by0 k p b1 b2).mpr b3⟩
  · obtain ⟨c1, c2, c3⟩ := a6 p k b1 b2 ((by0 k p b1 b2).mp b3)
    refine ⟨fun q => (c1 q).trans (rd (k + 1) q).symm, ?_, tq_ex0.symm⟩
    show T p ∨ U p ↔ _
    rw [ch (k + 1) j, c2, c3]
    exact ⟨fun z => by rcases z with z | z; exact Or.inl z; exact Or.inr ⟨rfl, z⟩, fun z => by rcases z with z | z; exact Or.inl z; exact Or.inr z.2⟩
