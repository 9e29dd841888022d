/-! ===== what a place takes: never nothing ===== -/
theorem tr_sh (j : Nat) (h : j < 64) : (((Int32.ofNat j).toInt64 &&& 63).toBitVec.smod 64).toNat = j := by
  have : ∀ j : Fin 64, (((Int32.ofNat j.1).toInt64 &&& 63).toBitVec.smod 64).toNat = j.1 := by decide +kernel
  exact this ⟨j, h⟩
theorem tr_b1n (j : Nat) (h : j < 64) {i : Nat} : tr_bt (tr_b1 (Int32.ofNat j)) i ↔ i = j := by
  have : ∀ j : Fin 64, ∀ i : Fin 64, (tr_b1 (Int32.ofNat j.1)).toBitVec.getLsbD i.1 = decide (i.1 = j.1) := by decide +kernel
  by_cases hi : i < 64
  · unfold tr_bt
    rw [this ⟨j, h⟩ ⟨i, hi⟩]
    simp
  · exact ⟨fun z => absurd z (tr_bt.ge (by omega)), fun z => by omega⟩
theorem tr_i32 {c : Int32} (h : 0 ≤ c.toInt) : c = Int32.ofNat c.toInt.toNat := by
  apply Int32.toInt_inj.mp
  have h2 := Int32.toInt_lt c
  rw [Int32.toInt_ofNat_of_lt (by omega)]
  omega
theorem tr_b1c {c : Int32} (h0 : 0 ≤ c.toInt) (h : c.toInt < 64) {i : Nat} : tr_bt (tr_b1 c) i ↔ (i : Int) = c.toInt := by
  rw [tr_i32 h0, tr_b1n _ (by omega), ← tr_i32 h0]
  omega
theorem tr_set.iff {m : tr_M} {c : Int32} (h0 : 0 ≤ c.toInt) (h1 : c.toInt < 128) {b : Nat} (hb : b < 128) : tr_in (tr_set m c) b ↔ tr_in m b ∨ (b : Int) = c.toInt := by
  unfold tr_in tr_set
  by_cases e : c.toInt < 64
  · rw [if_pos e]
    by_cases eb : b < 64
    · rw [if_pos eb, if_pos eb, tr_bt.or, tr_b1c h0 e]
    · rw [if_neg eb, if_neg eb]
      exact ⟨Or.inl, fun z => z.elim id (fun y => by omega)⟩
  · rw [if_neg e]
    have e2 : (c - 64).toInt = c.toInt - 64 := by
      rw [Int32.toInt_sub]
      have : (64 : Int32).toInt = 64 := rfl
      rw [this, Int.bmod_eq_of_le (by omega) (by omega)]
    by_cases eb : b < 64
    · rw [if_pos eb, if_pos eb]
      exact ⟨Or.inl, fun z => z.elim id (fun y => by omega)⟩
    · rw [if_neg eb, if_neg eb, tr_bt.or, tr_b1c (by omega) (by omega)]
      constructor
      · rintro (z | z)
        · exact Or.inl z
        · exact Or.inr (by omega)
      · rintro (z | z)
        · exact Or.inl z
        · exact Or.inr (by omega)
theorem tr_suc {c : Int32} (h0 : 0 ≤ c.toInt) (h1 : c.toInt < 200) : (c + 1).toInt = c.toInt + 1 := by
  rw [Int32.toInt_add]
  have : (1 : Int32).toInt = 1 := rfl
  rw [this, Int.bmod_eq_of_le (by omega) (by omega)]
theorem tr_inc.iff : ∀ (j : Nat) {m : tr_M} {c : Int32}, 0 ≤ c.toInt → c.toInt + j ≤ 128 → ∀ {b : Nat}, b < 128 → (tr_in (tr_inc j m c) b ↔ tr_in m b ∨ (c.toInt ≤ b ∧ (b : Int) < c.toInt + j))
  | 0, m, c, h0, h1, b, hb => ⟨Or.inl, fun z => z.elim id (fun y => by omega)⟩
  | j + 1, m, c, h0, h1, b, hb => by
    have e := tr_suc h0 (by omega)
    rw [tr_inc, tr_inc.iff j (by omega) (by omega) hb, tr_set.iff h0 (by omega) hb, e]
    constructor
    · rintro ((z | z) | z)
      · exact Or.inl z
      · exact Or.inr (by omega)
      · exact Or.inr (by omega)
    · rintro (z | z)
      · exact Or.inl (Or.inl z)
      · by_cases y : (b : Int) = c.toInt
        · exact Or.inl (Or.inr y)
        · exact Or.inr (by omega)
theorem tr_by.lt {T : Nat → Int32} {n k : Nat} (h : tr_by T n k ≠ -1) : k < n := by
  unfold tr_by at h
  by_cases e : k < n
  · exact e
  · rw [if_neg e] at h
    exact absurd rfl h
theorem tr_esc.ok {c : Int32} (h : tr_esc c ≠ -1) : c ≠ -1 ∧ 9 ≤ (tr_esc c).toInt ∧ (tr_esc c).toInt ≤ 126 := by
  have hc : c ≠ -1 := fun z => by subst z; exact h rfl
  refine ⟨hc, ?_⟩
  unfold tr_esc at h ⊢
  by_cases c1 : c = 110
  · rw [if_pos c1]; decide
  · rw [if_neg c1] at h ⊢
    by_cases c2 : c = 116
    · rw [if_pos c2]; decide
    · rw [if_neg c2] at h ⊢
      by_cases c3 : c = 114
      · rw [if_pos c3]; decide
      · rw [if_neg c3] at h ⊢
        by_cases c4 : c.toInt ∈ tr_e13
        · rw [if_pos c4]
          simp only [tr_e13, List.mem_cons, List.not_mem_nil, or_false] at c4
          omega
        · rw [if_neg c4] at h
          exact absurd rfl h
theorem tr_sy.ok {T : Nat → Int32} {n : Nat} {B : List Int} {k : Nat} (h : (tr_sy T n B k).1 ≠ -1) : 9 ≤ (tr_sy T n B k).1.toInt ∧ (tr_sy T n B k).1.toInt ≤ 126 ∧ k < (tr_sy T n B k).2 ∧ (tr_sy T n B k).2 ≤ n := by
  unfold tr_sy at h ⊢
  by_cases c1 : tr_by T n k = 92
  · rw [if_pos c1] at h ⊢
    by_cases c2 : tr_esc (tr_by T n (k + 1)) = -1
    · rw [if_pos c2] at h
      exact absurd rfl h
    · rw [if_neg c2]
      obtain ⟨a1, a2, a3⟩ := tr_esc.ok c2
      have := tr_by.lt a1
      exact ⟨a2, a3, by show k < k + 2; omega, by show k + 2 ≤ n; omega⟩
  · rw [if_neg c1] at h ⊢
    by_cases c2 : (tr_by T n k).toInt < 32 ∨ 126 < (tr_by T n k).toInt ∨ (tr_by T n k).toInt ∈ B
    · rw [if_pos c2] at h
      exact absurd rfl h
    · rw [if_neg c2]
      have a1 : tr_by T n k ≠ -1 := fun z => c2 (Or.inl (by rw [z]; decide))
      have := tr_by.lt a1
      have b1 : ¬ (tr_by T n k).toInt < 32 := fun z => c2 (Or.inl z)
      have b2 : ¬ 126 < (tr_by T n k).toInt := fun z => c2 (Or.inr (Or.inl z))
      exact ⟨by show 9 ≤ (tr_by T n k).toInt; omega, by show (tr_by T n k).toInt ≤ 126; omega, by show k < k + 1; omega, by show k + 1 ≤ n; omega⟩
theorem tr_pt.ok {T : Nat → Int32} {n k j : Nat} {m m' : tr_M} (h : tr_pt T n k m = Sum.inr (j, m')) : k < j ∧ j ≤ n ∧ (∃ b, b < 128 ∧ tr_in m' b) ∧ (¬ tr_in m 0 → ¬ tr_in m' 0) := by
  unfold tr_pt at h
  generalize hr : tr_sy T n tr_e3 k = r at h
  by_cases c1 : r.1 = -1
  · rw [if_pos c1] at h; cases h
  · rw [if_neg c1] at h
    have o1 := tr_sy.ok (T := T) (n := n) (B := tr_e3) (k := k) (by rw [hr]; exact c1)
    rw [hr] at o1
    obtain ⟨a1, a2, a3, a4⟩ := o1
    by_cases c2 : tr_by T n r.2 = 45
    · rw [if_pos c2] at h
      generalize hq : tr_sy T n tr_e3 (r.2 + 1) = q at h
      by_cases c3 : q.1 = -1
      · rw [if_pos c3] at h; cases h
      · rw [if_neg c3] at h
        have o2 := tr_sy.ok (T := T) (n := n) (B := tr_e3) (k := r.2 + 1) (by rw [hq]; exact c3)
        rw [hq] at o2
        obtain ⟨b1, b2, b3, b4⟩ := o2
        by_cases c4 : q.1.toInt < r.1.toInt
        · rw [if_pos c4] at h; cases h
        · rw [if_neg c4] at h
          cases h
          have ii := fun {b : Nat} (hb : b < 128) => tr_inc.iff (q.1.toInt - r.1.toInt + 1).toNat (m := m) (c := r.1) (by omega) (by omega) hb
          refine ⟨by omega, b4, ⟨r.1.toInt.toNat, by omega, (ii (by omega)).mpr (Or.inr (by omega))⟩, fun z y => ?_⟩
          rcases (ii (by decide)).mp y with x | x
          · exact z x
          · omega
    · rw [if_neg c2] at h
      cases h
      have ii := fun {b : Nat} (hb : b < 128) => tr_inc.iff 1 (m := m) (c := r.1) (by omega) (by omega) hb
      refine ⟨a3, a4, ⟨r.1.toInt.toNat, by omega, (ii (by omega)).mpr (Or.inr (by omega))⟩, fun z y => ?_⟩
      rcases (ii (by decide)).mp y with x | x
      · exact z x
      · omega
theorem tr_ps.ok {T : Nat → Int32} {n : Nat} : ∀ (f k : Nat) {j : Nat} {m m' : tr_M}, tr_ps T n f k m = Sum.inr (j, m') → k < j ∧ j ≤ n ∧ (∃ b, b < 128 ∧ tr_in m' b) ∧ (¬ tr_in m 0 → ¬ tr_in m' 0)
  | 0, k, j, m, m', h => by rw [tr_ps] at h; cases h
  | f + 1, k, j, m, m', h => by
    rw [tr_ps] at h
    cases hp : tr_pt T n k m with
    | inl q => rw [hp] at h; cases h
    | inr q =>
      obtain ⟨j1, m1⟩ := q
      rw [hp] at h
      have o := tr_pt.ok hp
      by_cases c : tr_by T n j1 = 93
      · simp only [if_pos c] at h
        cases h
        have := tr_by.lt (T := T) (n := n) (k := j1) (by rw [c]; decide)
        exact ⟨by omega, by omega, o.2.2.1, o.2.2.2⟩
      · simp only [if_neg c] at h
        have o2 := tr_ps.ok f j1 h
        exact ⟨by omega, o2.2.1, o2.2.2.1, fun z => o2.2.2.2 (o.2.2.2 z)⟩
theorem tr_z0 : ¬ tr_in (0, 0) 0 := by
  unfold tr_in
  rw [if_pos (by decide)]
  exact tr_bt.z
theorem tr_br.ok {T : Nat → Int32} {n k j : Nat} {m : tr_M} (h : tr_br T n k = Sum.inr (j, m)) : k < j ∧ j ≤ n ∧ ∃ b, b < 128 ∧ tr_in m b := by
  unfold tr_br at h
  by_cases c : tr_by T n (k + 1) = 94
  · rw [if_pos c] at h
    cases hp : tr_ps T n (n + 1) (k + 2) (0, 0) with
    | inl q => rw [hp] at h; cases h
    | inr q =>
      obtain ⟨j1, m1⟩ := q
      rw [hp] at h
      cases h
      have o := tr_ps.ok _ _ hp
      refine ⟨by omega, o.2.1, 0, by decide, ?_⟩
      have z := o.2.2.2 tr_z0
      unfold tr_in at z ⊢
      rw [if_pos (by decide)] at z ⊢
      exact (tr_bt.xn (by decide)).mpr z
  · rw [if_neg c] at h
    have o := tr_ps.ok _ _ h
    exact ⟨by omega, o.2.1, o.2.2.1⟩
theorem tr_sg.ok {T : Nat → Int32} {n k j : Nat} {m : tr_M} (hk : k < n) (h : tr_sg T n k = Sum.inr (j, m)) : k < j ∧ j ≤ n ∧ ∃ b, b < 128 ∧ tr_in m b := by
  unfold tr_sg at h
  by_cases c1 : T k = 91
  · rw [if_pos c1] at h
    exact tr_br.ok h
  · rw [if_neg c1] at h
    by_cases c2 : T k = 46
    · rw [if_pos c2] at h
      cases h
      refine ⟨by omega, by omega, 64, by decide, ?_⟩
      unfold tr_in tr_any
      rw [if_neg (by decide)]
      unfold tr_bt
      decide
    · rw [if_neg c2] at h
      by_cases c3 : (tr_sy T n tr_e9 k).1 = -1
      · rw [if_pos c3] at h; cases h
      · rw [if_neg c3] at h
        cases h
        obtain ⟨a1, a2, a3, a4⟩ := tr_sy.ok c3
        exact ⟨a3, a4, (tr_sy T n tr_e9 k).1.toInt.toNat, by omega, (tr_set.iff (by omega) (by omega) (by omega)).mpr (Or.inr (by omega))⟩
/-! every place leads to an end -/
def tz_ld (F : Nat → Nat → Prop) (p t : Nat) : Prop := ∀ X : Nat → Prop, X t → (∀ a b, F a b → X b → X a) → X p
theorem tz_ld.rf {F : Nat → Nat → Prop} {p : Nat} : tz_ld F p p := fun _ h _ => h
theorem tz_ld.st {F : Nat → Nat → Prop} {p q t : Nat} (h : F p q) (g : tz_ld F q t) : tz_ld F p t := fun X a b => b p q h (g X a b)
theorem tz_ld.tr {F : Nat → Nat → Prop} {p q t : Nat} (h : tz_ld F p q) (g : tz_ld F q t) : tz_ld F p t := fun X a b => h X (g X a b) b
theorem tz_ld.mn {F G : Nat → Nat → Prop} {p t : Nat} (hs : ∀ a b, F a b → G a b) (h : tz_ld F p t) : tz_ld G p t := fun X a b => h X a (fun x y z => b x y (hs x y z))
/-- what begins it leads to what ends it; bounds -/
def tz_W (F : Nat → Nat → Prop) (np : Nat) (E : tq_E) : Prop := (∀ h, E.1 h → h < np ∧ ∃ t, E.2.2 t ∧ tz_ld F h t) ∧ ∀ t, E.2.2 t → t < np
/-- it has a text -/
def tz_N (E : tq_E) : Prop := E.2.1 ∨ ∃ h, E.1 h
theorem tz_W.mn {F G : Nat → Nat → Prop} {np nq : Nat} {E : tq_E} (hs : ∀ a b, F a b → G a b) (hn : np ≤ nq) (h : tz_W F np E) : tz_W G nq E :=
  ⟨fun x hx => ⟨Nat.lt_of_lt_of_le (h.1 x hx).1 hn, by obtain ⟨t, a, b⟩ := (h.1 x hx).2; exact ⟨t, a, b.mn hs⟩⟩, fun t ht => Nat.lt_of_lt_of_le (h.2 t ht) hn⟩
theorem tz_W.or {F : Nat → Nat → Prop} {np : Nat} {A B : tq_E} (h : tz_W F np A) (g : tz_W F np B) : tz_W F np (tq_or A B) := by
  refine ⟨fun x hx => ?_, fun t ht => ht.elim (h.2 t) (g.2 t)⟩
  rcases hx with z | z
  · obtain ⟨a, t, b, c⟩ := h.1 x z; exact ⟨a, t, Or.inl b, c⟩
  · obtain ⟨a, t, b, c⟩ := g.1 x z; exact ⟨a, t, Or.inr b, c⟩
theorem tz_li {F : Nat → Nat → Prop} {A B : tq_E} (a b : Nat) (h : F a b) : tq_li F A B a b := Or.inl h
/-- the end of the first leads on to an end of both -/
theorem tz_ap1 {F : Nat → Nat → Prop} {np : Nat} {A B : tq_E} (hB : tz_W F np B) (nB : tz_N B) {t : Nat} (ht : A.2.2 t) : ∃ u, (tq_ap A B).2.2 u ∧ tz_ld (tq_li F A B) t u := by
  rcases nB with z | ⟨h, z⟩
  · exact ⟨t, Or.inr ⟨ht, z⟩, tz_ld.rf⟩
  · obtain ⟨_, u, b, c⟩ := hB.1 h z
    exact ⟨u, Or.inl b, tz_ld.st (Or.inr ⟨ht, z⟩) (c.mn tz_li)⟩
theorem tz_W.ap {F : Nat → Nat → Prop} {np : Nat} {A B : tq_E} (hA : tz_W F np A) (hB : tz_W F np B) (nB : tz_N B) : tz_W (tq_li F A B) np (tq_ap A B) := by
  refine ⟨fun x hx => ?_, fun t ht => ht.elim (hB.2 t) (fun z => hA.2 t z.1)⟩
  rcases hx with z | ⟨_, z⟩
  · obtain ⟨a, t, b, c⟩ := hA.1 x z
    obtain ⟨u, d, e⟩ := tz_ap1 hB nB b
    exact ⟨a, u, d, (c.mn tz_li).tr e⟩
  · obtain ⟨a, t, b, c⟩ := hB.1 x z
    exact ⟨a, t, Or.inl b, c.mn tz_li⟩
theorem tz_N.ap {A B : tq_E} (hA : tz_N A) (hB : tz_N B) : tz_N (tq_ap A B) := by
  rcases hA with z | ⟨h, z⟩
  · rcases hB with y | ⟨h, y⟩
    · exact Or.inl ⟨z, y⟩
    · exact Or.inr ⟨h, Or.inr ⟨z, y⟩⟩
  · exact Or.inr ⟨h, Or.inl z⟩
/-- what holds of the levels while a pattern is read -/
def tz_I (dp np : Nat) (mk : Nat → tr_M) (ce se : Nat → tq_E) (A : tq_E) (F : Nat → Nat → Prop) : Prop :=
  np ≤ 400 ∧ (∀ p, p < np → ∃ b, b < 128 ∧ tr_in (mk p) b) ∧ (∀ d, d ≤ dp → tz_W F np (ce d) ∧ tz_W F np (se d) ∧ tz_N (se d)) ∧ (tz_W F np A ∧ tz_N A) ∧ (∀ p q, F p q → p < np ∧ q < np) ∧
  ∀ p, p < np → (∃ d, d ≤ dp ∧ ∃ t, ((ce d).2.2 t ∨ (se d).2.2 t) ∧ tz_ld F p t) ∨ ∃ t, A.2.2 t ∧ tz_ld F p t
theorem tz_e1 {F : Nat → Nat → Prop} {np : Nat} : tz_W F np tq_e1 ∧ tz_N tq_e1 := ⟨⟨fun _ h => h.elim, fun _ h => h.elim⟩, Or.inl trivial⟩
theorem tz_e0 {F : Nat → Nat → Prop} {np : Nat} : tz_W F np tq_e0 := ⟨fun _ h => h.elim, fun _ h => h.elim⟩
/-- the atom joined -/
theorem tz_I.fold {dp np : Nat} {mk : Nat → tr_M} {ce se : Nat → tq_E} {A : tq_E} {F : Nat → Nat → Prop} (h : tz_I dp np mk ce se A F) : tz_I dp np mk ce (tr_up se dp (tq_ap (se dp) A)) tq_e1 (tq_li F (se dp) A) := by
  obtain ⟨h1, h2, h3, ⟨h4, h5⟩, h6, h7⟩ := h
  obtain ⟨s1, s2, s3⟩ := h3 dp (Nat.le_refl _)
  refine ⟨h1, h2, fun d hd => ⟨(h3 d hd).1.mn tz_li (Nat.le_refl _), ?_⟩, tz_e1, fun p q z => ?_, fun p hp => Or.inl ?_⟩
  · by_cases e : d = dp
    · subst e
      rw [tr_ups]
      exact ⟨s2.ap h4 h5, s3.ap h5⟩
    · rw [tr_upn e]
      exact ⟨(h3 d hd).2.1.mn tz_li (Nat.le_refl _), (h3 d hd).2.2⟩
  · rcases z with z | ⟨z, y⟩
    · exact h6 p q z
    · exact ⟨s2.2 p z, (h4.1 q y).1⟩
  · rcases h7 p hp with ⟨d, hd, t, ht, hl⟩ | ⟨t, ht, hl⟩
    · by_cases e : d = dp
      · subst e
        refine ⟨d, hd, ?_⟩
        rcases ht with ht | ht
        · exact ⟨t, Or.inl ht, hl.mn tz_li⟩
        · obtain ⟨u, a, b⟩ := tz_ap1 (A := se d) h4 h5 ht
          exact ⟨u, Or.inr (by rw [tr_ups]; exact a), (hl.mn tz_li).tr b⟩
      · exact ⟨d, hd, t, ht.imp id (fun z => by rw [tr_upn e]; exact z), hl.mn tz_li⟩
    · exact ⟨dp, Nat.le_refl _, t, Or.inr (by rw [tr_ups]; exact Or.inl ht), hl.mn tz_li⟩
/-- a whole pattern: its places lead to its ends -/
def tz_G (z : tr_Z) : Prop := z.1 ≤ 400 ∧ (∀ p, p < z.1 → ∃ b, b < 128 ∧ tr_in (z.2.1 p) b) ∧ (∀ q, z.2.2.1.1 q → q < z.1) ∧ (∀ q, z.2.2.1.2.2 q → q < z.1) ∧ (∀ p q, z.2.2.2 p q → p < z.1 ∧ q < z.1) ∧ ∀ p, p < z.1 → ∃ t, z.2.2.1.2.2 t ∧ tz_ld z.2.2.2 p t
theorem tz_I.li {dp np : Nat} {mk : Nat → tr_M} {ce se : Nat → tq_E} {A B : tq_E} {F G : Nat → Nat → Prop} (h : tz_I dp np mk ce se A F) (hB : tz_W G np B ∧ tz_N B) (hs : ∀ a b, F a b → G a b) (hG : ∀ p q, G p q → p < np ∧ q < np) (ht : ∀ t, A.2.2 t → B.2.2 t) : tz_I dp np mk ce se B G := by
  obtain ⟨h1, h2, h3, h4, h6, h7⟩ := h
  refine ⟨h1, h2, fun d hd => ⟨(h3 d hd).1.mn hs (Nat.le_refl _), (h3 d hd).2.1.mn hs (Nat.le_refl _), (h3 d hd).2.2⟩, hB, hG, fun p hp => ?_⟩
  rcases h7 p hp with ⟨d, hd, t, z, hl⟩ | ⟨t, z, hl⟩
  · exact Or.inl ⟨d, hd, t, z, hl.mn hs⟩
  · exact Or.inr ⟨t, ht t z, hl.mn hs⟩
theorem tz_run {T : Nat → Int32} {n : Nat} : ∀ (f k dp np : Nat) (mk : Nat → tr_M) (pd : Bool) (ce se : Nat → tq_E) (A : tq_E) (F : Nat → Nat → Prop) (z : tr_Z), tz_I dp np mk ce se A F → tr_run T n f k dp np mk pd ce se A F = Sum.inr z → tz_G z := by
  intro f
  induction f with
  | zero => intro k dp np mk pd ce se A F z _ h; rw [tr_run] at h; cases h
  | succ f ih =>
    intro k dp np mk pd ce se A F z hI h
    have hf := hI.fold
    by_cases hk : n ≤ k
    · by_cases hd : dp = 0
      · subst hd
        rw [tr_run.z hk] at h
        cases h
        obtain ⟨h1, h2, h3, -, h6, h7⟩ := hf
        obtain ⟨s1, s2, s3⟩ := h3 0 (Nat.le_refl _)
        rw [tr_ups] at s2 s3
        refine ⟨h1, h2, fun q z => z.elim (fun y => (s1.1 q y).1) (fun y => (s2.1 q y).1), fun q z => z.elim (s1.2 q) (s2.2 q), h6, fun p hp => ?_⟩
        rcases h7 p hp with ⟨d, hd, t, y, hl⟩ | ⟨t, y, hl⟩
        · have e : d = 0 := by omega
          subst e
          rw [tr_ups] at y
          exact ⟨t, y, hl⟩
        · exact y.elim
      · rw [tr_run.zb hk hd] at h; cases h
    · have hk' : k < n := Nat.not_le.mp hk
      by_cases c1 : T k = 40
      · by_cases hd : dp = 40
        · rw [tr_run.lpb hk' c1 hd] at h; cases h
        · rw [tr_run.lp hk' c1 hd] at h
          refine ih _ _ _ _ _ _ _ _ _ z ?_ h
          obtain ⟨h1, h2, h3, h4, h6, h7⟩ := hf
          refine ⟨h1, h2, fun d hd => ?_, tz_e1, h6, fun p hp => Or.inl ?_⟩
          · by_cases e : d = dp + 1
            · subst e
              rw [tr_ups, tr_ups]
              exact ⟨tz_e0, tz_e1⟩
            · rw [tr_upn e, tr_upn e]
              exact h3 d (by omega)
          · rcases h7 p hp with ⟨d, hd, t, y, hl⟩ | ⟨t, y, hl⟩
            · exact ⟨d, by omega, t, by rw [tr_upn (by omega), tr_upn (by omega)]; exact y, hl⟩
            · exact y.elim
      · by_cases c2 : T k = 41
        · by_cases hd : dp = 0
          · subst hd; rw [tr_run.rpb hk' c2] at h; cases h
          · rw [tr_run.rp hk' c2 hd] at h
            refine ih _ _ _ _ _ _ _ _ _ z ?_ h
            obtain ⟨h1, h2, h3, h4, h6, h7⟩ := hf
            obtain ⟨s1, s2, s3⟩ := h3 dp (Nat.le_refl _)
            rw [tr_ups] at s2 s3
            refine ⟨h1, h2, fun d hd => ?_, ⟨s1.or s2, s3.imp Or.inr (fun ⟨x, y⟩ => ⟨x, Or.inr y⟩)⟩, h6, fun p hp => ?_⟩
            · have := h3 d (by omega)
              rw [tr_upn (by omega)] at this
              exact this
            · rcases h7 p hp with ⟨d, hd, t, y, hl⟩ | ⟨t, y, hl⟩
              · by_cases e : d = dp
                · subst e
                  rw [tr_ups] at y
                  exact Or.inr ⟨t, y, hl⟩
                · rw [tr_upn e] at y
                  exact Or.inl ⟨d, by omega, t, y, hl⟩
              · exact y.elim
        · by_cases c3 : T k = 124
          · rw [tr_run.bar hk' c3] at h
            refine ih _ _ _ _ _ _ _ _ _ z ?_ h
            obtain ⟨h1, h2, h3, h4, h6, h7⟩ := hf
            obtain ⟨s1, s2, s3⟩ := h3 dp (Nat.le_refl _)
            rw [tr_ups] at s2 s3
            refine ⟨h1, h2, fun d hd => ?_, tz_e1, h6, fun p hp => Or.inl ?_⟩
            · by_cases e : d = dp
              · subst e
                rw [tr_ups, tr_ups]
                exact ⟨s1.or s2, tz_e1⟩
              · have := h3 d hd
                rw [tr_upn e] at this
                rw [tr_upn e, tr_upn e]
                exact this
            · rcases h7 p hp with ⟨d, hd, t, y, hl⟩ | ⟨t, y, hl⟩
              · by_cases e : d = dp
                · subst e
                  rw [tr_ups] at y
                  exact ⟨d, hd, t, Or.inl (by rw [tr_ups]; exact y), hl⟩
                · rw [tr_upn e] at y
                  exact ⟨d, hd, t, by rw [tr_upn e, tr_upn e]; exact y, hl⟩
              · exact y.elim
          · by_cases c4 : T k = 42 ∨ T k = 43 ∨ T k = 63
            · cases pd with
              | false => rw [tr_run.sgb hk' c4] at h; cases h
              | true =>
                rw [tr_run.sgn hk' c4] at h
                refine ih _ _ _ _ _ _ _ _ _ z ?_ h
                have hb : ∀ p q, tq_li F A A p q → p < np ∧ q < np := fun p q y => y.elim (hI.2.2.2.2.1 p q) (fun w => ⟨hI.2.2.2.1.1.2 p w.1, (hI.2.2.2.1.1.1 q w.2).1⟩)
                have hw := hI.2.2.2.1
                have hs : tz_I dp np mk ce se A (if T k = 63 then F else tq_li F A A) := by
                  by_cases e : T k = 63
                  · rw [if_pos e]; exact hI
                  · rw [if_neg e]; exact hI.li ⟨hw.1.mn tz_li (Nat.le_refl _), hw.2⟩ tz_li hb (fun _ y => y)
                by_cases e : T k = 43
                · rw [if_pos e]; exact hs
                · rw [if_neg e]
                  exact hs.li (B := tq_sk A) ⟨⟨hs.2.2.2.1.1.1, hs.2.2.2.1.1.2⟩, Or.inl trivial⟩ (fun _ _ y => y) hs.2.2.2.2.1 (fun _ y => y)
            · have hp : tr_pl (T k) := ⟨c1, c2, c3, fun y => c4 (Or.inl y), fun y => c4 (Or.inr (Or.inl y)), fun y => c4 (Or.inr (Or.inr y))⟩
              by_cases c5 : np = 400
              · subst c5; rw [tr_run.fu hk' hp] at h; cases h
              · cases hsg : tr_sg T n k with
                | inl j => rw [tr_run.pb hk' hp c5 hsg] at h; cases h
                | inr q =>
                  obtain ⟨j, m⟩ := q
                  rw [tr_run.p hk' hp c5 hsg] at h
                  refine ih _ _ _ _ _ _ _ _ _ z ?_ h
                  obtain ⟨h1, h2, h3, h4, h6, h7⟩ := hf
                  refine ⟨by omega, fun p hp => ?_, fun d hd => ?_, ⟨⟨fun x hx => ⟨?_, x, hx, tz_ld.rf⟩, fun t ht => ?_⟩, Or.inr ⟨np, rfl⟩⟩, fun p q y => ?_, fun p hp => ?_⟩
                  · by_cases e : p = np
                    · subst e
                      rw [tr_ups]
                      exact (tr_sg.ok hk' hsg).2.2
                    · rw [tr_upn e]
                      exact h2 p (by omega)
                  · obtain ⟨x1, x2, x3⟩ := h3 d hd
                    exact ⟨x1.mn (fun _ _ y => y) (Nat.le_succ _), x2.mn (fun _ _ y => y) (Nat.le_succ _), x3⟩
                  · have : x = np := hx
                    omega
                  · have : t = np := ht
                    omega
                  · have := h6 p q y
                    omega
                  · by_cases e : p = np
                    · exact Or.inr ⟨p, e, tz_ld.rf⟩
                    · rcases h7 p (by omega) with y | ⟨t, y, _⟩
                      · exact Or.inl y
                      · exact y.elim
theorem tz_all {T : Nat → Int32} {n : Nat} {z : tr_Z} (h : tr_all T n = Sum.inr z) : tz_G z :=
  tz_run _ _ _ _ _ _ _ _ _ _ z ⟨by decide, fun p hp => absurd hp (Nat.not_lt_zero _), fun d _ => ⟨tz_e0, tz_e1⟩, tz_e1, fun _ _ y => y.elim, fun p hp => absurd hp (Nat.not_lt_zero _)⟩ h
