/-! ===== what each byte of a pattern does to the rows ===== -/
theorem tq_I.ea {P : tq_P} {m dep : Nat} {g c : Nat → Nat} {CL : Nat → List Nat} {a : Nat} {ce se : Nat → tq_E} {A : tq_E} {n : Nat} {F : Nat → Nat → Prop} (h : tq_I P m dep g c CL a ce se A n F) {d : Nat} (hd : d ≤ dep) : tq_end g dep a d ≤ a := by
  unfold tq_end
  have g3 := h.gc (d := dep) (Nat.le_refl _)
  have := g3.1
  have := g3.2.2 rfl
  by_cases e : d < dep
  · rw [if_pos e]
    have := (h.up (dep - d) d (by omega)).2 e
    omega
  · rw [if_neg e]
    exact Nat.le_refl _
/-- the levels, over other rows behind them -/
theorem tq_I.lev {P P' : tq_P} {m dep : Nat} {g c : Nat → Nat} {CL : Nat → List Nat} {a : Nat} {ce se : Nat → tq_E} {A : tq_E} {n : Nat} {F F' : Nat → Nat → Prop} {J' : Nat → Prop} (h : tq_I P m dep g c CL a ce se A n F) (hP : ∀ k, k < a → P' k = P k) (hJ : ∀ k, k < a → (J' k ↔ tq_J CL dep k)) (hF : ∀ p q, tq_in P 0 a p → (F' p q ↔ F p q)) {d : Nat} (hd : d ≤ dep) : tq_V P' J' F' (g d) (c d) (tq_end g dep a d) (ce d) (se d) := by
  have he := h.ea hd
  obtain ⟨x1, x2, x3, x4⟩ := h.1 d hd
  have ix : ∀ i j p, j ≤ a → tq_in P i j p → tq_in P 0 a p := fun i j p hj ⟨k, b1, b2, b3⟩ => ⟨k, Nat.zero_le _, by omega, b3⟩
  exact ⟨x1, x2, x3.sm (fun k b1 b2 => hP k (by omega)) (fun k b1 b2 => hJ k (by omega)) (fun p q z => hF p q (ix _ _ p (by omega) z)), x4.sm (fun k b1 b2 => hP k (by omega)) (fun k b1 b2 => hJ k (by omega)) (fun p q z => hF p q (ix _ _ p (by omega) z))⟩
theorem tq_J0i {P : tq_P} {J : Nat → Prop} {i j : Nat} {F : Nat → Nat → Prop} {E : tq_E} (h : tq_K P J i j F E) (hn : ∀ k, i ≤ k → k < j → ¬ J k) : tq_C P i j F E.1 E.2.1 E.2.2 := h.sm (fun _ _ _ => rfl) (fun k a1 a2 => ⟨False.elim, fun z => hn k a1 a2 z⟩) (fun _ _ _ => Iff.rfl)
theorem tq_J0o {P : tq_P} {J : Nat → Prop} {i j : Nat} {F : Nat → Nat → Prop} {E : tq_E} (h : tq_C P i j F E.1 E.2.1 E.2.2) (hn : ∀ k, i ≤ k → k < j → ¬ J k) : tq_K P J i j F E := h.sm (fun _ _ _ => rfl) (fun k a1 a2 => ⟨fun z => hn k a1 a2 z, False.elim⟩) (fun _ _ _ => Iff.rfl)
/-- another atom in the last one's place -/
theorem tq_I.put {P P' : tq_P} {m m' dep : Nat} {g c : Nat → Nat} {CL : Nat → List Nat} {a : Nat} {ce se : Nat → tq_E} {A A' : tq_E} {n n' : Nat} {F F' : Nat → Nat → Prop} (h : tq_I P m dep g c CL a ce se A n F) (hP : ∀ k, k < a → P' k = P k) (hF : ∀ p q, tq_in P 0 a p → (F' p q ↔ F p q)) (hm : a ≤ m') (hK : tq_C P' a m' F' A'.1 A'.2.1 A'.2.2) (hu : tq_u P' 0 m') (hp : ∀ k, k < m' → (P' k).1 = 0 → ∃ p : Nat, p < n' ∧ P' k = (0, (p : Int))) (hb : ∀ p q, F' p q → p < n') : tq_I P' m' dep g c CL a ce se A' n' F' := by
  have hc := (h.gc (d := dep) (Nat.le_refl _)).2.2 rfl
  refine ⟨fun d hd => h.lev hP (fun _ _ => Iff.rfl) hF hd, ⟨hm, tq_J0o hK (fun k b1 _ => h.nJ (by omega))⟩, fun d hd j hj => ?_, hu, hp, hb, h.2.2.2.2.2.2⟩
  obtain ⟨b1, b2, b3⟩ := h.2.2.1 d hd j hj
  have := h.ea hd
  have := (h.1 d hd).2.1
  exact ⟨b1, b2, by rw [hP j (by omega)]; exact b3⟩
/-- links of the atom's own places touch no other -/
theorem tq_I.own {P : tq_P} {m dep : Nat} {g c : Nat → Nat} {CL : Nat → List Nat} {a : Nat} {ce se : Nat → tq_E} {A B : tq_E} {n : Nat} {F : Nat → Nat → Prop} (h : tq_I P m dep g c CL a ce se A n F) : (∀ p q, tq_in P 0 a p → (tq_li F A B p q ↔ F p q)) ∧ ∀ p q, tq_li F A B p q → p < n := by
  obtain ⟨h1, ⟨h2, h3⟩, h4, h5, h6, h7, h8⟩ := h
  refine ⟨fun p q ⟨k, b1, b2, b3⟩ => ⟨fun z => z.elim id (fun y => ?_), Or.inl⟩, fun p q z => z.elim (h7 p q) (fun y => ?_)⟩
  · obtain ⟨k', c1, c2, c3⟩ := h3.2.2.1.1 p y.1
    have := h5 k k' p (Nat.zero_le _) (by omega) (Nat.zero_le _) c2 b3 c3
    omega
  · obtain ⟨k', c1, c2, c3⟩ := h3.2.2.1.1 p y.1
    obtain ⟨p', d1, d2⟩ := h6 k' c2 (by rw [c3])
    rw [c3] at d2
    simp at d2
    omega
theorem tq_up1 {P : tq_P} {n : Nat} {k : Nat} {x : Int} (h : P k = (n + 1, x)) : (P k).1 ≠ 0 := by
  rw [h]; exact Nat.succ_ne_zero n
/-- + behind an atom -/
theorem tq_I.plus {P P' : tq_P} {m dep : Nat} {g c : Nat → Nat} {CL : Nat → List Nat} {a : Nat} {ce se : Nat → tq_E} {A : tq_E} {n : Nat} {F : Nat → Nat → Prop} (h : tq_I P m dep g c CL a ce se A n F) (hP : ∀ k, k < m → P' k = P k) (hm : P' m = (1, (a : Int) - m)) : tq_I P' (m + 1) dep g c CL a ce se A n (tq_li F A A) := by
  have hc := (h.gc (d := dep) (Nat.le_refl _)).2.2 rfl
  have am := h.2.1.1
  have hK : tq_C P' a m F A.1 A.2.1 A.2.2 := (tq_J0i h.2.1.2 (fun k b1 _ => h.nJ (by omega))).sm (fun k _ b2 => hP k b2) (fun _ _ _ => Iff.rfl) (fun _ _ _ => Iff.rfl)
  refine h.put (fun k hk => hP k (by omega)) h.own.1 (by omega) (hK.plus hm) ?_ ?_ h.own.2
  · intro k k' p _ b2 _ b4 b5 b6
    have e1 : k ≠ m := fun e => by subst e; exact tq_nb (n := 0) hm b5
    have e2 : k' ≠ m := fun e => by subst e; exact tq_nb (n := 0) hm b6
    exact h.2.2.2.1 k k' p (Nat.zero_le _) (by omega) (Nat.zero_le _) (by omega) ((hP k (by omega)) ▸ b5) ((hP k' (by omega)) ▸ b6)
  · intro k hk e
    have e1 : k ≠ m := fun e1 => by subst e1; exact tq_up1 (n := 0) hm e
    rw [hP k (by omega)] at e ⊢
    exact h.2.2.2.2.1 k (by omega) e
/-- rows with one more at a -/
theorem tq_ins {P P' : tq_P} {m a n N : Nat} {x : Int} (hu : tq_u P 0 m) (hp : ∀ k, k < m → (P k).1 = 0 → ∃ p : Nat, p < n ∧ P k = (0, (p : Int))) (h1 : ∀ k, k < a → P' k = P k) (h2 : P' a = (N + 1, x)) (h3 : ∀ k, a ≤ k → k < m → P' (k + 1) = P k) (ha : a ≤ m) : tq_u P' 0 (m + 1) ∧ ∀ k, k < m + 1 → (P' k).1 = 0 → ∃ p : Nat, p < n ∧ P' k = (0, (p : Int)) := by
  have old : ∀ k, k < m + 1 → k ≠ a → ∃ y, y < m ∧ P' k = P y ∧ (k < a → y = k) ∧ (a < k → y + 1 = k) := fun k hk hne => by
    by_cases e : k < a
    · exact ⟨k, by omega, h1 k e, fun _ => rfl, fun z => by omega⟩
    · obtain ⟨y, rfl⟩ : ∃ y, k = y + 1 := ⟨k - 1, by omega⟩
      exact ⟨y, by omega, h3 y (by omega) (by omega), fun z => by omega, fun _ => rfl⟩
  refine ⟨fun k k' p _ b2 _ b4 b5 b6 => ?_, fun k hk e => ?_⟩
  · have e1 : k ≠ a := fun e => by subst e; exact tq_nb h2 b5
    have e2 : k' ≠ a := fun e => by subst e; exact tq_nb h2 b6
    obtain ⟨y, y1, y2, y3, y4⟩ := old k b2 e1
    obtain ⟨z, z1, z2, z3, z4⟩ := old k' b4 e2
    have := hu y z p (Nat.zero_le _) y1 (Nat.zero_le _) z1 (y2 ▸ b5) (z2 ▸ b6)
    subst this
    by_cases q1 : k < a
    · by_cases q2 : k' < a
      · have := y3 q1; have := z3 q2; omega
      · have := y3 q1; have := z4 (by omega); omega
    · by_cases q2 : k' < a
      · have := y4 (by omega); have := z3 q2; omega
      · have := y4 (by omega); have := z4 (by omega); omega
  · have e1 : k ≠ a := fun e1 => by subst e1; exact tq_up1 h2 e
    obtain ⟨y, y1, y2, -⟩ := old k hk e1
    rw [y2] at e ⊢
    exact hp y y1 e
/-- ? behind an atom -/
theorem tq_I.opt {P P' : tq_P} {m dep : Nat} {g c : Nat → Nat} {CL : Nat → List Nat} {a : Nat} {ce se : Nat → tq_E} {A : tq_E} {n : Nat} {F : Nat → Nat → Prop} (h : tq_I P m dep g c CL a ce se A n F) (h1 : ∀ k, k < a → P' k = P k) (h2 : P' a = (1, (m : Int) + 1 - a)) (h3 : ∀ k, a ≤ k → k < m → P' (k + 1) = P k) : tq_I P' (m + 1) dep g c CL a ce se (tq_sk A) n F := by
  have hc := (h.gc (d := dep) (Nat.le_refl _)).2.2 rfl
  have am := h.2.1.1
  have hi := tq_ins h.2.2.2.1 h.2.2.2.2.1 h1 h2 h3 am
  have hK : tq_C P' (a + 1) (m + 1) F A.1 A.2.1 A.2.2 := (tq_J0i h.2.1.2 (fun k b1 _ => h.nJ (by omega))).sh h3 (fun _ _ _ => Iff.rfl)
  exact h.put h1 (fun _ _ _ => Iff.rfl) (by omega) (hK.opt (by rw [h2]; simp)) hi.1 hi.2 h.2.2.2.2.2.1
/-- * behind an atom -/
theorem tq_I.star {P P' : tq_P} {m dep : Nat} {g c : Nat → Nat} {CL : Nat → List Nat} {a : Nat} {ce se : Nat → tq_E} {A : tq_E} {n : Nat} {F : Nat → Nat → Prop} (h : tq_I P m dep g c CL a ce se A n F) (h1 : ∀ k, k < a → P' k = P k) (h2 : P' a = (1, (m : Int) + 2 - a)) (h3 : ∀ k, a ≤ k → k < m → P' (k + 1) = P k) (h4 : P' (m + 1) = (2, (a : Int) - m - 1)) : tq_I P' (m + 2) dep g c CL a ce se (tq_sk A) n (tq_li F A A) := by
  have hc := (h.gc (d := dep) (Nat.le_refl _)).2.2 rfl
  have am := h.2.1.1
  have hi := tq_ins h.2.2.2.1 h.2.2.2.2.1 h1 h2 h3 am
  have hK : tq_C P' (a + 1) (m + 1) F A.1 A.2.1 A.2.2 := (tq_J0i h.2.1.2 (fun k b1 _ => h.nJ (by omega))).sh h3 (fun _ _ _ => Iff.rfl)
  have hS := hK.star (by rw [h2]; exact Prod.ext rfl (by show (m : Int) + 2 - a = ((m + 1 : Nat) : Int) + 1 - a; omega)) (by rw [h4]; exact Prod.ext rfl (by show (a : Int) - m - 1 = (a : Int) - ((m + 1 : Nat) : Int); omega))
  refine h.put h1 h.own.1 (by omega) hS ?_ ?_ h.own.2
  · intro k k' p _ b2 _ b4 b5 b6
    have e1 : k ≠ m + 1 := fun e => by subst e; exact tq_nb (n := 1) h4 b5
    have e2 : k' ≠ m + 1 := fun e => by subst e; exact tq_nb (n := 1) h4 b6
    exact hi.1 k k' p (Nat.zero_le _) (by omega) (Nat.zero_le _) (by omega) b5 b6
  · intro k hk e
    have e1 : k ≠ m + 1 := fun e1 => by subst e1; exact tq_up1 (n := 1) h4 e
    exact hi.2 k (by omega) e
/-- a place -/
theorem tq_I.one {P P' : tq_P} {m dep : Nat} {g c : Nat → Nat} {CL : Nat → List Nat} {ce se : Nat → tq_E} {n : Nat} {F : Nat → Nat → Prop} (h : tq_I P m dep g c CL m ce se tq_e1 n F) (h1 : ∀ k, k < m → P' k = P k) (h2 : P' m = (0, (n : Int))) : tq_I P' (m + 1) dep g c CL m ce se (tq_ep n) (n + 1) F := by
  refine h.put h1 (fun _ _ _ => Iff.rfl) (by omega) (tq_S.one h2 (fun z => z) (fun q z => by have := h.2.2.2.2.2.1 n q z; omega)) ?_ ?_ (fun p q z => by have := h.2.2.2.2.2.1 p q z; omega)
  · intro k k' p _ b2 _ b4 b5 b6
    have old : ∀ y, y < m → P' y = (0, (p : Int)) → p < n := fun y hy e => by
      rw [h1 y hy] at e
      obtain ⟨p', d1, d2⟩ := h.2.2.2.2.1 y hy (by rw [e])
      rw [e] at d2
      simp at d2
      omega
    have new : P' m = (0, (p : Int)) → p = n := fun e => by
      rw [h2] at e
      simp at e
      omega
    by_cases e1 : k = m
    · by_cases e2 : k' = m
      · omega
      · subst e1
        have := new b5; have := old k' (by omega) b6; omega
    · by_cases e2 : k' = m
      · subst e2
        have := new b6; have := old k (by omega) b5; omega
      · exact h.2.2.2.1 k k' p (Nat.zero_le _) (by omega) (Nat.zero_le _) (by omega) ((h1 k (by omega)) ▸ b5) ((h1 k' (by omega)) ▸ b6)
  · intro k hk e
    by_cases e1 : k = m
    · subst e1
      exact ⟨n, Nat.lt_succ_self _, h2⟩
    · rw [h1 k (by omega)] at e ⊢
      obtain ⟨p, d1, d2⟩ := h.2.2.2.2.1 k (by omega) e
      exact ⟨p, by omega, d2⟩
/-- ( -/
theorem tq_I.lp {P : tq_P} {m dep : Nat} {g c g' c' : Nat → Nat} {CL CL' : Nat → List Nat} {ce se ce' se' : Nat → tq_E} {n : Nat} {F : Nat → Nat → Prop} (h : tq_I P m dep g c CL m ce se tq_e1 n F) (k1 : ∀ d, d ≤ dep → g' d = g d ∧ c' d = c d ∧ CL' d = CL d ∧ ce' d = ce d ∧ se' d = se d) (k2 : g' (dep + 1) = m ∧ c' (dep + 1) = m ∧ CL' (dep + 1) = [] ∧ ce' (dep + 1) = tq_e0 ∧ se' (dep + 1) = tq_e1) : tq_I P m (dep + 1) g' c' CL' m ce' se' tq_e1 n F := by
  have hJ : ∀ k, tq_J CL' (dep + 1) k ↔ tq_J CL dep k := fun k => ⟨fun ⟨d, d1, d2⟩ => by
    by_cases e : d = dep + 1
    · subst e; rw [k2.2.2.1] at d2; exact absurd d2 List.not_mem_nil
    · exact ⟨d, by omega, by rw [← (k1 d (by omega)).2.2.1]; exact d2⟩, fun ⟨d, d1, d2⟩ => ⟨d, by omega, by rw [(k1 d d1).2.2.1]; exact d2⟩⟩
  refine ⟨fun d hd => ?_, ⟨Nat.le_refl _, tq_S.nil⟩, fun d hd j hj => ?_, h.2.2.2.1, h.2.2.2.2.1, h.2.2.2.2.2.1, by rw [(k1 0 (Nat.zero_le _)).1]; exact h.2.2.2.2.2.2⟩
  · by_cases e : d = dep + 1
    · subst e
      unfold tq_end
      rw [if_neg (Nat.lt_irrefl _), k2.1, k2.2.1, k2.2.2.2.1, k2.2.2.2.2]
      exact ⟨Nat.le_refl _, Nat.le_refl _, tq_S.nil, tq_S.nil⟩
    · have hd' : d ≤ dep := by omega
      have ee : tq_end g' (dep + 1) m d = tq_end g dep m d := by
        unfold tq_end
        rw [if_pos (by omega)]
        by_cases e2 : d < dep
        · rw [if_pos e2, (k1 (d + 1) (by omega)).1]
        · rw [if_neg e2, show d = dep by omega, k2.1]
      rw [ee, (k1 d hd').1, (k1 d hd').2.1, (k1 d hd').2.2.2.1, (k1 d hd').2.2.2.2]
      exact h.lev (fun _ _ => rfl) (fun k _ => hJ k) (fun _ _ _ => Iff.rfl) hd'
  · by_cases e : d = dep + 1
    · subst e; rw [k2.2.2.1] at hj; exact absurd hj List.not_mem_nil
    · have q := k1 d (by omega)
      rw [q.2.2.1] at hj
      rw [q.1, q.2.1]
      exact h.2.2.1 d (by omega) j hj
