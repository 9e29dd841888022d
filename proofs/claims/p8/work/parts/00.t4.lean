/-! ===== a pattern while it is read: its levels, their rows ===== -/
/-- places to begin with, whether the empty text is one, places to end with -/
abbrev tq_E : Type := (Nat → Prop) × Prop × (Nat → Prop)
def tq_e0 : tq_E := (fun _ => False, False, fun _ => False)
def tq_e1 : tq_E := (fun _ => False, True, fun _ => False)
def tq_ep (p : Nat) : tq_E := (fun q => q = p, False, fun q => q = p)
def tq_or (a b : tq_E) : tq_E := (fun q => a.1 q ∨ b.1 q, a.2.1 ∨ b.2.1, fun q => a.2.2 q ∨ b.2.2 q)
def tq_ap (a b : tq_E) : tq_E := (fun q => a.1 q ∨ (a.2.1 ∧ b.1 q), a.2.1 ∧ b.2.1, fun q => b.2.2 q ∨ (a.2.2 q ∧ b.2.1))
def tq_li (F : Nat → Nat → Prop) (a b : tq_E) : Nat → Nat → Prop := fun p q => F p q ∨ (a.2.2 p ∧ b.1 q)
def tq_sk (a : tq_E) : tq_E := (a.1, True, a.2.2)
theorem tq_ap1 (a : tq_E) : tq_ap a tq_e1 = a := by
  refine Prod.ext (funext fun q => propext ?_) (Prod.ext (propext ?_) (funext fun q => propext ?_))
  · show a.1 q ∨ (a.2.1 ∧ False) ↔ a.1 q
    exact ⟨fun h => h.elim id (fun z => z.2.elim), Or.inl⟩
  · show a.2.1 ∧ True ↔ a.2.1
    exact ⟨And.left, fun h => ⟨h, trivial⟩⟩
  · show False ∨ (a.2.2 q ∧ True) ↔ a.2.2 q
    exact ⟨fun h => h.elim False.elim And.left, fun h => Or.inr ⟨h, trivial⟩⟩
theorem tq_li1 (F : Nat → Nat → Prop) (a : tq_E) : tq_li F a tq_e1 = F := by
  refine funext fun p => funext fun q => propext ?_
  show F p q ∨ (a.2.2 p ∧ False) ↔ F p q
  exact ⟨fun h => h.elim id (fun z => z.2.elim), Or.inl⟩
/-- the same, in other words -/
theorem tq_S.cg {P : tq_P} {J : Nat → Prop} {i j : Nat} {F F' : Nat → Nat → Prop} {H H' : Nat → Prop} {N N' M M' : Prop} {T T' U U' : Nat → Prop} (h : tq_S P J i j F H N M T U) (hF : ∀ p q, tq_in P i j p → (F' p q ↔ F p q)) (hH : ∀ q, H' q ↔ H q) (hN : N' ↔ N) (hM : M' ↔ M) (hT : ∀ q, T' q ↔ T q) (hU : ∀ q, U' q ↔ U q) : tq_S P J i j F' H' N' M' T' U' := by
  cases funext fun q => propext (hH q)
  cases propext hN
  cases propext hM
  cases funext fun q => propext (hT q)
  cases funext fun q => propext (hU q)
  exact h.sm (fun _ _ _ => rfl) (fun _ _ _ => Iff.rfl) hF
/-- a piece that may be left at its end alone -/
abbrev tq_K (P : tq_P) (J : Nat → Prop) (i j : Nat) (F : Nat → Nat → Prop) (E : tq_E) : Prop := tq_S P J i j F E.1 E.2.1 False E.2.2 (fun _ => False)
/-- choices, one behind the other: passed, or left by exits -/
abbrev tq_B (P : tq_P) (J : Nat → Prop) (i j : Nat) (F : Nat → Nat → Prop) (E : tq_E) : Prop := tq_S P J i j F E.1 True E.2.1 (fun _ => False) E.2.2
theorem tq_K.cat {P : tq_P} {J : Nat → Prop} {i j l : Nat} {F : Nat → Nat → Prop} {a b : tq_E} (hu : tq_u P i l) (h1 : tq_K P J i j F a) (h2 : tq_K P J j l F b) : tq_K P J i l (tq_li F a b) (tq_ap a b) :=
  (tq_S.cat hu h1 h2).cg (fun _ _ _ => Iff.rfl) (fun _ => Iff.rfl) Iff.rfl ⟨False.elim, fun z => z.elim id (fun y => y.2)⟩ (fun _ => Iff.rfl) (fun _ => ⟨False.elim, fun z => z.elim id (fun y => y.elim id (fun x => x.2))⟩)
theorem tq_B.cat {P : tq_P} {J : Nat → Prop} {i j l : Nat} {F : Nat → Nat → Prop} {a b : tq_E} (hu : tq_u P i l) (h1 : tq_B P J i j F a) (h2 : tq_B P J j l F b) : tq_B P J i l F (tq_or a b) :=
  (tq_S.cat hu h1 h2).cg (fun p q _ => ⟨Or.inl, fun z => z.elim id (fun y => y.1.elim)⟩) (fun q => ⟨fun z => z.elim Or.inl (fun y => Or.inr ⟨trivial, y⟩), fun z => z.elim Or.inl (fun y => Or.inr y.2)⟩) ⟨fun _ => ⟨trivial, trivial⟩, fun _ => trivial⟩ ⟨fun z => z.elim Or.inl (fun y => Or.inr ⟨trivial, y⟩), fun z => z.elim Or.inl (fun y => Or.inr y.2)⟩ (fun q => ⟨False.elim, fun z => z.elim id (fun y => y.1)⟩) (fun q => ⟨fun z => z.elim Or.inl (fun y => Or.inr (Or.inl y)), fun z => z.elim Or.inl (fun y => y.elim Or.inr (fun x => x.1.elim))⟩)
/-- choices, the last one behind them, all exits led to the end: one piece -/
theorem tq_B.land {P P' : tq_P} {J : Nat → Prop} {i j l : Nat} {F : Nat → Nat → Prop} {a b : tq_E} (hu : tq_u P i l) (h1 : tq_B P J i j F a) (h2 : tq_K P J j l F b) (k0 : ∀ k, i ≤ k → k < l → J k → (P k).1 = 2) (k1 : ∀ k, i ≤ k → k < l → J k → P' k = (2, (l : Int) - k)) (k2 : ∀ k, i ≤ k → k < l → ¬ J k → P' k = P k) : tq_C P' i l F (tq_or a b).1 (tq_or a b).2.1 (tq_or a b).2.2 :=
  (((tq_S.cat hu h1 h2).cg (F' := F) (H' := (tq_or a b).1) (N' := b.2.1) (M' := a.2.1) (T' := b.2.2) (U' := a.2.2) (fun p q _ => ⟨Or.inl, fun z => z.elim id (fun y => y.1.elim)⟩) (fun q => ⟨fun z => z.elim Or.inl (fun y => Or.inr ⟨trivial, y⟩), fun z => z.elim Or.inl (fun y => Or.inr y.2)⟩) ⟨fun z => ⟨trivial, z⟩, fun z => z.2⟩ ⟨Or.inl, fun z => z.elim id (fun y => y.2.elim)⟩ (fun q => ⟨Or.inl, fun z => z.elim id (fun y => y.1.elim)⟩) (fun q => ⟨Or.inl, fun z => z.elim id (fun y => y.elim False.elim (fun x => x.1.elim))⟩)).land k0 k1 k2).cg (fun _ _ _ => Iff.rfl) (fun _ => Iff.rfl) ⟨fun z => z.elim Or.inr Or.inl, fun z => z.elim Or.inr Or.inl⟩ Iff.rfl (fun q => ⟨fun z => z.elim Or.inr Or.inl, fun z => z.elim Or.inr Or.inl⟩) (fun _ => Iff.rfl)
/-! the levels -/
def tq_J (CL : Nat → List Nat) (dep : Nat) : Nat → Prop := fun k => ∃ d, d ≤ dep ∧ k ∈ CL d
def tq_end (g : Nat → Nat) (dep a d : Nat) : Nat := if d < dep then g (d + 1) else a
/-- level d: its choices [g, c), the one that is read [c, e) -/
def tq_V (P : tq_P) (J : Nat → Prop) (F : Nat → Nat → Prop) (g c e : Nat) (C S : tq_E) : Prop := g ≤ c ∧ c ≤ e ∧ tq_B P J g c F C ∧ tq_K P J c e F S
/-- m rows, levels 0 .. dep, the atom that was read last [a, m) -/
def tq_I (P : tq_P) (m dep : Nat) (g c : Nat → Nat) (CL : Nat → List Nat) (a : Nat) (ce se : Nat → tq_E) (A : tq_E) (n : Nat) (F : Nat → Nat → Prop) : Prop :=
  (∀ d, d ≤ dep → tq_V P (tq_J CL dep) F (g d) (c d) (tq_end g dep a d) (ce d) (se d)) ∧ (a ≤ m ∧ tq_K P (tq_J CL dep) a m F A) ∧ (∀ d, d ≤ dep → ∀ j ∈ CL d, g d ≤ j ∧ j < c d ∧ (P j).1 = 2) ∧ tq_u P 0 m ∧ (∀ k, k < m → (P k).1 = 0 → ∃ p : Nat, p < n ∧ P k = (0, (p : Int))) ∧ (∀ p q, F p q → p < n) ∧ g 0 = 0
theorem tq_I.gc {P : tq_P} {m dep : Nat} {g c : Nat → Nat} {CL : Nat → List Nat} {a : Nat} {ce se : Nat → tq_E} {A : tq_E} {n : Nat} {F : Nat → Nat → Prop} (h : tq_I P m dep g c CL a ce se A n F) {d : Nat} (hd : d ≤ dep) : g d ≤ c d ∧ (d < dep → c d ≤ g (d + 1)) ∧ (d = dep → c d ≤ a) := by
  obtain ⟨h1, h2, -, -⟩ := h.1 d hd
  unfold tq_end at h2
  exact ⟨h1, fun z => by rwa [if_pos z] at h2, fun z => by rwa [if_neg (by omega)] at h2⟩
theorem tq_I.up {P : tq_P} {m dep : Nat} {g c : Nat → Nat} {CL : Nat → List Nat} {a : Nat} {ce se : Nat → tq_E} {A : tq_E} {n : Nat} {F : Nat → Nat → Prop} (h : tq_I P m dep g c CL a ce se A n F) : ∀ (r d : Nat), d + r = dep → g d ≤ g dep ∧ (d < dep → g (d + 1) ≤ g dep)
  | 0, d, e => by
    have : d = dep := by omega
    subst this
    exact ⟨Nat.le_refl _, fun z => by omega⟩
  | r + 1, d, e => by
    have h1 := tq_I.up h r (d + 1) (by omega)
    have h2 := h.gc (d := d) (by omega)
    exact ⟨by have := h2.1; have := h2.2.1 (by omega); omega, fun _ => h1.1⟩
/-- no exit in the rows behind the choices of the last level -/
theorem tq_I.nJ {P : tq_P} {m dep : Nat} {g c : Nat → Nat} {CL : Nat → List Nat} {a : Nat} {ce se : Nat → tq_E} {A : tq_E} {n : Nat} {F : Nat → Nat → Prop} (h : tq_I P m dep g c CL a ce se A n F) {k : Nat} (hk : c dep ≤ k) : ¬ tq_J CL dep k := by
  rintro ⟨d, h1, h2⟩
  have h3 := h.2.2.1 d h1 k h2
  by_cases e : d = dep
  · subst e; omega
  · have g1 := h.gc (d := d) h1
    have g2 := h.up (dep - d) d (by omega)
    have g3 := h.gc (d := dep) (Nat.le_refl _)
    have := g1.2.1 (by omega)
    have := g2.2 (by omega)
    have := g3.1
    omega
/-- the atom joins the rest -/
theorem tq_I.fold {P : tq_P} {m dep : Nat} {g c : Nat → Nat} {CL : Nat → List Nat} {a : Nat} {ce se se' : Nat → tq_E} {A : tq_E} {n : Nat} {F : Nat → Nat → Prop} (h : tq_I P m dep g c CL a ce se A n F) (hs : ∀ d, d < dep → se' d = se d) (hs2 : se' dep = tq_ap (se dep) A) : tq_I P m dep g c CL m ce se' tq_e1 n (tq_li F (se dep) A) := by
  have hup := h.up
  have hgc := fun d hd => h.gc (d := d) hd
  obtain ⟨h1, ⟨h2, h3⟩, h4, h5, h6, h7, h8⟩ := h
  have ha := (hgc dep (Nat.le_refl _)).2.2 rfl
  have hg := (hgc dep (Nat.le_refl _)).1
  obtain ⟨-, -, hB, hK⟩ := h1 dep (Nat.le_refl _)
  unfold tq_end at hK
  rw [if_neg (Nat.lt_irrefl _)] at hK
  have hu : ∀ i, tq_u P i m := fun i k k' p a1 a2 a3 a4 => h5 k k' p (Nat.zero_le _) a2 (Nat.zero_le _) a4
  have hT : ∀ p k, (se dep).2.2 p → P k = (0, (p : Int)) → k < m → c dep ≤ k := fun p k z e hk => by
    obtain ⟨k', b1, b2, b3⟩ := hK.2.2.1.1 p z
    have := h5 k k' p (Nat.zero_le _) hk (Nat.zero_le _) (by omega) e b3
    omega
  have hF : ∀ i j, j ≤ c dep → j ≤ m → ∀ p q, tq_in P i j p → (tq_li F (se dep) A p q ↔ F p q) := fun i j hj hm p q hp => ⟨fun z => z.elim id (fun y => by
    obtain ⟨k, b1, b2, b3⟩ := hp
    have := hT p k y.1 b3 (by omega)
    omega), Or.inl⟩
  refine ⟨fun d hd => ?_, ⟨Nat.le_refl _, tq_S.nil⟩, h4, h5, h6, fun p q z => ?_, h8⟩
  · by_cases e : d = dep
    · subst e
      refine ⟨hg, ?_, ?_, ?_⟩
      · unfold tq_end; rw [if_neg (Nat.lt_irrefl _)]; omega
      · exact hB.cg (hF _ _ (Nat.le_refl _) (by omega)) (fun _ => Iff.rfl) Iff.rfl Iff.rfl (fun _ => Iff.rfl) (fun _ => Iff.rfl)
      · unfold tq_end
        rw [if_neg (Nat.lt_irrefl _), hs2]
        exact tq_K.cat (hu _) hK h3
    · obtain ⟨x1, x2, x3, x4⟩ := h1 d hd
      have y1 := (hgc d hd).2.1 (by omega)
      have y2 := (hup (dep - d) d (by omega)).2 (by omega)
      have ee : tq_end g dep m d = tq_end g dep a d := by unfold tq_end; rw [if_pos (by omega), if_pos (by omega)]
      have ee2 : tq_end g dep a d = g (d + 1) := by unfold tq_end; rw [if_pos (by omega)]
      rw [ee, hs d (by omega)]
      refine ⟨x1, x2, x3.cg (hF _ _ (by omega) (by omega)) (fun _ => Iff.rfl) Iff.rfl Iff.rfl (fun _ => Iff.rfl) (fun _ => Iff.rfl), x4.cg (hF _ _ (by omega) (by omega)) (fun _ => Iff.rfl) Iff.rfl Iff.rfl (fun _ => Iff.rfl) (fun _ => Iff.rfl)⟩
  · rcases z with z | z
    · exact h7 p q z
    · obtain ⟨k', b1, b2, b3⟩ := hK.2.2.1.1 p z.1
      obtain ⟨p', c1, c2⟩ := h6 k' (by omega) (by rw [b3])
      rw [b3] at c2
      simp at c2
      omega
