/-- the last level's exits: those of its own list -/
theorem tq_I.Jd {P : tq_P} {m dep : Nat} {g c : Nat → Nat} {CL : Nat → List Nat} {a : Nat} {ce se : Nat → tq_E} {A : tq_E} {n : Nat} {F : Nat → Nat → Prop} (h : tq_I P m dep g c CL a ce se A n F) {k : Nat} (hk : g dep ≤ k) : tq_J CL dep k ↔ k ∈ CL dep := by
  refine ⟨fun ⟨d, d1, d2⟩ => ?_, fun z => ⟨dep, Nat.le_refl _, z⟩⟩
  by_cases e : d = dep
  · subst e; exact d2
  · have g1 := (h.gc (d := d) d1).2.1 (by omega)
    have g2 := (h.up (dep - d) d (by omega)).2 (by omega)
    have := h.2.2.1 d d1 k d2
    omega
/-- | -/
theorem tq_I.bar {P P' : tq_P} {m dep : Nat} {g c c' : Nat → Nat} {CL CL' : Nat → List Nat} {ce se ce' se' : Nat → tq_E} {n : Nat} {F : Nat → Nat → Prop} {x : Int} (h : tq_I P m dep g c CL m ce se tq_e1 n F) (h1 : ∀ k, k < c dep → P' k = P k) (h2 : P' (c dep) = (1, (m : Int) + 2 - c dep)) (h3 : ∀ k, c dep ≤ k → k < m → P' (k + 1) = P k) (h4 : P' (m + 1) = (2, x))
    (k1 : ∀ d, d < dep → c' d = c d ∧ CL' d = CL d ∧ ce' d = ce d ∧ se' d = se d) (k2 : c' dep = m + 2 ∧ CL' dep = (m + 1) :: CL dep ∧ ce' dep = tq_or (ce dep) (se dep) ∧ se' dep = tq_e1) : tq_I P' (m + 2) dep g c' CL' (m + 2) ce' se' tq_e1 n F := by
  have gd := h.gc (d := dep) (Nat.le_refl _)
  have g1 := gd.1
  have g2 := gd.2.2 rfl
  have hi := tq_ins h.2.2.2.1 h.2.2.2.2.1 h1 h2 h3 g2
  have hJ : ∀ k, tq_J CL' dep k ↔ tq_J CL dep k ∨ k = m + 1 := fun k => ⟨fun ⟨d, d1, d2⟩ => by
    by_cases e : d = dep
    · subst e
      rw [k2.2.1] at d2
      rcases List.mem_cons.mp d2 with z | z
      · exact Or.inr z
      · exact Or.inl ⟨d, d1, z⟩
    · rw [(k1 d (by omega)).2.1] at d2
      exact Or.inl ⟨d, d1, d2⟩, fun z => by
    rcases z with ⟨d, d1, d2⟩ | z
    · by_cases e : d = dep
      · subst e; exact ⟨d, d1, by rw [k2.2.1]; exact List.mem_cons_of_mem _ d2⟩
      · exact ⟨d, d1, by rw [(k1 d (by omega)).2.1]; exact d2⟩
    · exact ⟨dep, Nat.le_refl _, by rw [k2.2.1, z]; exact List.mem_cons_self⟩⟩
  have hJl : ∀ k, k < m + 1 → (tq_J CL' dep k ↔ tq_J CL dep k) := fun k hk => (hJ k).trans ⟨fun z => z.elim id (fun y => by omega), Or.inl⟩
  have hu : tq_u P' 0 (m + 2) := fun k k' p _ b2 _ b4 b5 b6 => by
    have e1 : k ≠ m + 1 := fun e => by subst e; exact tq_nb (n := 1) h4 b5
    have e2 : k' ≠ m + 1 := fun e => by subst e; exact tq_nb (n := 1) h4 b6
    exact hi.1 k k' p (Nat.zero_le _) (by omega) (Nat.zero_le _) (by omega) b5 b6
  obtain ⟨-, -, hB, hK⟩ := h.1 dep (Nat.le_refl _)
  unfold tq_end at hK
  rw [if_neg (Nat.lt_irrefl _)] at hK
  have hB' : tq_B P' (tq_J CL' dep) (g dep) (c dep) F (ce dep) := hB.sm (fun k _ b2 => h1 k b2) (fun k _ b2 => hJl k (by omega)) (fun _ _ _ => Iff.rfl)
  have hC : tq_C P' (c dep + 1) (m + 1) F (se dep).1 (se dep).2.1 (se dep).2.2 := (tq_J0i hK (fun k b1 _ => h.nJ b1)).sh h3 (fun _ _ _ => Iff.rfl)
  have hA : tq_B P' (tq_J CL' dep) (c dep) (m + 2) F (se dep) := hC.alt (by rw [h2]; exact Prod.ext rfl (by show (m : Int) + 2 - c dep = ((m + 1 : Nat) : Int) + 1 - c dep; omega)) h4 ((hJ _).mpr (Or.inr rfl)) (fun k b1 b2 z => ((hJ k).mp z).elim (h.nJ b1) (fun y => by omega))
  have hBB := tq_B.cat (fun k k' p b1 b2 b3 b4 => hu k k' p (Nat.zero_le _) b2 (Nat.zero_le _) b4) hB' hA
  refine ⟨fun d hd => ?_, ⟨Nat.le_refl _, tq_S.nil⟩, fun d hd j hj => ?_, hu, fun k hk e => ?_, h.2.2.2.2.2.1, h.2.2.2.2.2.2⟩
  · by_cases e : d = dep
    · subst e
      unfold tq_end
      rw [if_neg (Nat.lt_irrefl _), k2.1, k2.2.2.1, k2.2.2.2]
      exact ⟨by omega, Nat.le_refl _, hBB, tq_S.nil⟩
    · obtain ⟨x1, x2, x3, x4⟩ := h.1 d hd
      have q := k1 d (by omega)
      have u := (h.up (dep - d) d (by omega)).2 (by omega)
      have ee : tq_end g dep m d = g (d + 1) := by unfold tq_end; rw [if_pos (by omega)]
      have ee2 : tq_end g dep (m + 2) d = g (d + 1) := by unfold tq_end; rw [if_pos (by omega)]
      rw [ee] at x2 x4
      rw [ee2, q.1, q.2.2.1, q.2.2.2]
      exact ⟨x1, x2, x3.sm (fun k _ b2 => h1 k (by omega)) (fun k _ b2 => hJl k (by omega)) (fun _ _ _ => Iff.rfl), x4.sm (fun k _ b2 => h1 k (by omega)) (fun k _ b2 => hJl k (by omega)) (fun _ _ _ => Iff.rfl)⟩
  · by_cases e : d = dep
    · subst e
      rw [k2.2.1] at hj
      rw [k2.1]
      rcases List.mem_cons.mp hj with z | z
      · subst z; exact ⟨by omega, by omega, by rw [h4]⟩
      · obtain ⟨b1, b2, b3⟩ := h.2.2.1 d hd j z
        exact ⟨b1, by omega, by rw [h1 j b2]; exact b3⟩
    · have q := k1 d (by omega)
      have u := (h.up (dep - d) d (by omega)).2 (by omega)
      have v := (h.gc (d := d) hd).2.1 (by omega)
      rw [q.2.1] at hj
      rw [q.1]
      obtain ⟨b1, b2, b3⟩ := h.2.2.1 d hd j hj
      exact ⟨b1, b2, by rw [h1 j (by omega)]; exact b3⟩
  · have e1 : k ≠ m + 1 := fun e1 => by subst e1; exact tq_up1 (n := 1) h4 e
    exact hi.2 k (by omega) e
/-- the last level's exits led to its end: one piece -/
theorem tq_I.lnd {P P' : tq_P} {m dep : Nat} {g c : Nat → Nat} {CL : Nat → List Nat} {ce se : Nat → tq_E} {n : Nat} {F : Nat → Nat → Prop} (h : tq_I P m dep g c CL m ce se tq_e1 n F) (h1 : ∀ k, k ∈ CL dep → P' k = (2, (m : Int) - k)) (h2 : ∀ k, k < m → k ∉ CL dep → P' k = P k) : tq_C P' (g dep) m F (tq_or (ce dep) (se dep)).1 (tq_or (ce dep) (se dep)).2.1 (tq_or (ce dep) (se dep)).2.2 := by
  obtain ⟨-, -, hB, hK⟩ := h.1 dep (Nat.le_refl _)
  unfold tq_end at hK
  rw [if_neg (Nat.lt_irrefl _)] at hK
  exact tq_B.land (fun k k' p b1 b2 b3 b4 => h.2.2.2.1 k k' p (Nat.zero_le _) b2 (Nat.zero_le _) b4) hB hK (fun k b1 _ b3 => (h.2.2.1 dep (Nat.le_refl _) k ((h.Jd b1).mp b3)).2.2) (fun k b1 _ b3 => h1 k ((h.Jd b1).mp b3)) (fun k b1 b2 b3 => h2 k b2 (fun z => b3 ((h.Jd b1).mpr z)))
theorem tq_I.same {P P' : tq_P} {m dep : Nat} {g c : Nat → Nat} {CL : Nat → List Nat} {a : Nat} {ce se : Nat → tq_E} {A : tq_E} {n : Nat} {F : Nat → Nat → Prop} (h : tq_I P m dep g c CL a ce se A n F) (h1 : ∀ k, k ∈ CL dep → P' k = (2, (m : Int) - k)) (h2 : ∀ k, k < m → k ∉ CL dep → P' k = P k) : tq_u P' 0 m ∧ ∀ k, k < m → (P' k).1 = 0 → ∃ p : Nat, p < n ∧ P' k = (0, (p : Int)) := by
  have old : ∀ k, k < m → (P' k).1 = 0 → P' k = P k := fun k hk e => by
    by_cases z : k ∈ CL dep
    · exact absurd e (tq_up1 (n := 1) (h1 k z))
    · exact h2 k hk z
  refine ⟨fun k k' p _ b2 _ b4 b5 b6 => ?_, fun k hk e => ?_⟩
  · exact h.2.2.2.1 k k' p (Nat.zero_le _) b2 (Nat.zero_le _) b4 ((old k b2 (by rw [b5])) ▸ b5) ((old k' b4 (by rw [b6])) ▸ b6)
  · have := old k hk e
    rw [this] at e ⊢
    exact h.2.2.2.2.1 k hk e
/-- ) -/
theorem tq_I.rp {P P' : tq_P} {m D : Nat} {g c : Nat → Nat} {CL : Nat → List Nat} {ce se : Nat → tq_E} {n : Nat} {F : Nat → Nat → Prop} (h : tq_I P m (D + 1) g c CL m ce se tq_e1 n F) (h1 : ∀ k, k ∈ CL (D + 1) → P' k = (2, (m : Int) - k)) (h2 : ∀ k, k < m → k ∉ CL (D + 1) → P' k = P k) : tq_I P' m D g c CL (g (D + 1)) ce se (tq_or (ce (D + 1)) (se (D + 1))) n F := by
  have hL := h.lnd h1 h2
  have hs := h.same h1 h2
  have gd := h.gc (d := D + 1) (Nat.le_refl _)
  have g1 := gd.1
  have g2 := gd.2.2 rfl
  have low : ∀ k, k < g (D + 1) → k ∉ CL (D + 1) := fun k hk z => by
    have := h.2.2.1 (D + 1) (Nat.le_refl _) k z
    omega
  have hlo : ∀ k, k < g (D + 1) → P' k = P k := fun k hk => h2 k (by omega) (low k hk)
  have hJ : ∀ k, k < g (D + 1) → (tq_J CL D k ↔ tq_J CL (D + 1) k) := fun k hk => ⟨fun ⟨d, d1, d2⟩ => ⟨d, by omega, d2⟩, fun ⟨d, d1, d2⟩ => by
    by_cases e : d = D + 1
    · subst e; exact absurd d2 (low k hk)
    · exact ⟨d, by omega, d2⟩⟩
  have hJn : ∀ k, g (D + 1) ≤ k → ¬ tq_J CL D k := fun k hk ⟨d, d1, d2⟩ => by
    have u := (h.up (D + 1 - d) d (by omega)).2 (by omega)
    have v := (h.gc (d := d) (by omega)).2.1 (by omega)
    have := h.2.2.1 d (by omega) k d2
    omega
  refine ⟨fun d hd => ?_, ⟨by omega, tq_J0o hL (fun k b1 _ => hJn k b1)⟩, fun d hd j hj => ?_, hs.1, hs.2, h.2.2.2.2.2.1, h.2.2.2.2.2.2⟩
  · obtain ⟨x1, x2, x3, x4⟩ := h.1 d (by omega)
    have u := (h.up (D + 1 - d) d (by omega)).2 (by omega)
    have ee : tq_end g (D + 1) m d = g (d + 1) := by unfold tq_end; rw [if_pos (by omega)]
    have ee2 : tq_end g D (g (D + 1)) d = g (d + 1) := by
      unfold tq_end
      by_cases e : d < D
      · rw [if_pos e]
      · rw [if_neg e, show d = D by omega]
    rw [ee] at x2 x4
    rw [ee2]
    exact ⟨x1, x2, x3.sm (fun k _ b2 => hlo k (by omega)) (fun k _ b2 => hJ k (by omega)) (fun _ _ _ => Iff.rfl), x4.sm (fun k _ b2 => hlo k (by omega)) (fun k _ b2 => hJ k (by omega)) (fun _ _ _ => Iff.rfl)⟩
  · have u := (h.up (D + 1 - d) d (by omega)).2 (by omega)
    have v := (h.gc (d := d) (by omega)).2.1 (by omega)
    obtain ⟨b1, b2, b3⟩ := h.2.2.1 d (by omega) j hj
    exact ⟨b1, b2, by rw [hlo j (by omega)]; exact b3⟩
/-- at the beginning -/
theorem tq_I.beg {P : tq_P} {g c : Nat → Nat} {CL : Nat → List Nat} {ce se : Nat → tq_E} {F : Nat → Nat → Prop} (h1 : g 0 = 0 ∧ c 0 = 0 ∧ CL 0 = [] ∧ ce 0 = tq_e0 ∧ se 0 = tq_e1) (hF : ∀ p q, ¬ F p q) : tq_I P 0 0 g c CL 0 ce se tq_e1 0 F := by
  refine ⟨fun d hd => ?_, ⟨Nat.le_refl _, tq_S.nil⟩, fun d hd j hj => ?_, fun k k' p _ b2 => absurd b2 (Nat.not_lt_zero _), fun k hk => absurd hk (Nat.not_lt_zero _), fun p q z => absurd z (hF p q), h1.1⟩
  · have e : d = 0 := by omega
    subst e
    unfold tq_end
    rw [if_neg (Nat.lt_irrefl _), h1.1, h1.2.1, h1.2.2.2.1, h1.2.2.2.2]
    exact ⟨Nat.le_refl _, Nat.le_refl _, tq_S.nil, tq_S.nil⟩
  · have e : d = 0 := by omega
    subst e
    rw [h1.2.2.1] at hj
    exact absurd hj List.not_mem_nil
/-- the whole program: what its rows come to, up to the row of the end -/
theorem tq_fin {P : tq_P} {m : Nat} {F : Nat → Nat → Prop} {E : tq_E} (h : tq_C P 0 m F E.1 E.2.1 E.2.2) : (∀ q, E.1 q ↔ tq_rd P tq_J0 0 m 0 q) ∧ (E.2.1 ↔ tq_rc P tq_J0 0 m 0 m) ∧ ∀ p k : Nat, k < m → P k = (0, (p : Int)) → (∀ q, F p q ↔ tq_rd P tq_J0 0 m (k + 1) q) ∧ (E.2.2 p ↔ tq_rc P tq_J0 0 m (k + 1) m) :=
  ⟨h.2.1.1, h.2.1.2.1, fun p k hk e => ⟨(h.2.2.2 p k (Nat.zero_le _) hk e).1, (h.2.2.2 p k (Nat.zero_le _) hk e).2.1⟩⟩
