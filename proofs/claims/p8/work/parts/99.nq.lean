/-! ===== texts in their order (shorter first, then byte by byte), as numbers ===== -/
def tk_co : List Nat → Nat → Nat
  | [], x => x
  | b :: w, x => tk_co w (128 * x + b + 1)
theorem tk_co0 {x : Nat} : tk_co [] x = x := rfl
theorem tk_co1 {x b : Nat} {w : List Nat} : tk_co (b :: w) x = tk_co w (128 * x + b + 1) := rfl
theorem tk_co.ap {b : Nat} : ∀ (w : List Nat) (x : Nat), tk_co (w ++ [b]) x = 128 * tk_co w x + b + 1
  | [], x => rfl
  | c :: w, x => by
    rw [List.cons_append, tk_co1, tk_co1]
    exact tk_co.ap w _
theorem tk_tap {w : List Nat} {b : Nat} (h : tp_t (w ++ [b])) : tp_t w ∧ b < 128 := ⟨fun c hc => h c (List.mem_append_left _ hc), h b (List.mem_append_right _ List.mem_cons_self)⟩
theorem tk_tap2 {w : List Nat} {b : Nat} (h : tp_t w) (hb : b < 128) : tp_t (w ++ [b]) := fun c hc => by
  rcases List.mem_append.mp hc with v | v
  · exact h c v
  · rw [List.mem_singleton.mp v]; exact hb
theorem tk_ec (l : List Nat) : l = [] ∨ ∃ u b, l = u ++ [b] := by
  rcases List.eq_nil_or_concat l with h | ⟨u, b, h⟩
  · exact Or.inl h
  · exact Or.inr ⟨u, b, by rw [h, List.concat_eq_append]⟩
theorem tk_co.inj : ∀ (n : Nat) (v w : List Nat), v.length ≤ n → tp_t v → tp_t w → tk_co v 0 = tk_co w 0 → v = w := by
  intro n
  induction n with
  | zero =>
    intro v w hl _ _ e
    have ev : v = [] := List.eq_nil_of_length_eq_zero (by omega)
    subst ev
    rcases tk_ec w with e2 | ⟨u, b, e2⟩
    · exact e2.symm
    · rw [e2, tk_co.ap, tk_co0] at e; omega
  | succ n ih =>
    intro v w hl hv hw e
    rcases tk_ec v with e1 | ⟨u1, b1, e1⟩ <;> rcases tk_ec w with e2 | ⟨u2, b2, e2⟩
    · rw [e1, e2]
    · rw [e1, e2, tk_co.ap, tk_co0] at e; omega
    · rw [e1, e2, tk_co.ap, tk_co0] at e; omega
    · subst e1; subst e2
      rw [tk_co.ap, tk_co.ap] at e
      have a := tk_tap hv
      have b := tk_tap hw
      have eb : b1 = b2 := by omega
      have eu : u1 = u2 := ih u1 u2 (by rw [List.length_append] at hl; simp only [List.length_cons, List.length_nil] at hl; omega) a.1 b.1 (by omega)
      rw [eb, eu]
def tk_rn (dl : Nat → Nat → Nat) : List Nat → Nat → Nat
  | [], s => s
  | b :: w, s => tk_rn dl w (dl s b)
theorem tk_rn.ap {dl : Nat → Nat → Nat} {b : Nat} : ∀ (w : List Nat) (s : Nat), tk_rn dl (w ++ [b]) s = dl (tk_rn dl w s) b
  | [], s => rfl
  | c :: w, s => tk_rn.ap w _
/-- THE TEXT: the first one with a property -/
def tk_Ff (Kp : List Nat → Prop) (w : List Nat) : Prop := tp_t w ∧ Kp w ∧ ∀ v, tp_t v → Kp v → tk_co w 0 ≤ tk_co v 0
theorem tk_Ff.eq {Kp : List Nat → Prop} {v w : List Nat} (h : tk_Ff Kp v) (g : tk_Ff Kp w) : v = w :=
  tk_co.inj v.length v w (Nat.le_refl _) h.1 g.1 (Nat.le_antisymm (h.2.2 w g.1 g.2.1) (g.2.2 v h.1 h.2.1))
def tk_No (Kp : List Nat → Prop) : Prop := ∀ v, tp_t v → ¬ Kp v
/-- a search in breadth: found n, from the i-th on, with the bytes below c; O and B: whence and by which byte; C: the first text's number -/
def tk_Bq (dl : Nat → Nat → Nat) (q0 lo : Nat) (P C O B : Nat → Nat) (n i c : Nat) : Prop :=
  (P 0 = q0 ∧ C 0 = 0 ∧ 1 ≤ n ∧ lo ≤ 1) ∧
  (∀ j, 1 ≤ j → j < n → O j < j ∧ B j < 128 ∧ C j = 128 * C (O j) + B j + 1 ∧ P j = dl (P (O j)) (B j) ∧ (O j < i ∨ (O j = i ∧ B j < c))) ∧
  (∀ j k, j < k → k < n → C j < C k) ∧
  (∀ j b, b < 128 → j < n → (j < i ∨ (j = i ∧ b < c)) → ∃ k, lo ≤ k ∧ k < n ∧ P k = dl (P j) b ∧ C k ≤ 128 * C j + b + 1)
section BF
variable {dl : Nat → Nat → Nat} {q0 lo n i c : Nat} {P C O B P2 C2 O2 B2 : Nat → Nat}
theorem tk_Bq.beg (h0 : P 0 = q0) (hl : lo ≤ 1) : tk_Bq dl q0 lo P (fun _ => 0) O B 1 0 0 :=
  ⟨⟨h0, rfl, Nat.le_refl _, hl⟩, fun j h1 h2 => absurd h2 (by omega), fun j k h1 h2 => absurd h2 (by omega), fun j b _ _ h => absurd h (by omega)⟩
theorem tk_Bq.mo (h : tk_Bq dl q0 lo P C O B n i c) {j k : Nat} (hk : k < n) (hj : j < n) : C j ≤ C k ↔ j ≤ k := by
  rcases Nat.lt_trichotomy j k with e | e | e
  · have := h.2.2.1 j k e hk; omega
  · subst e; omega
  · have := h.2.2.1 k j e hj; omega
/-- all that is found lies before the next -/
theorem tk_Bq.lt (h : tk_Bq dl q0 lo P C O B n i c) (hi : i < n) {k : Nat} (hk : k < n) : C k < 128 * C i + c + 1 := by
  by_cases e : k = 0
  · rw [e, h.1.2.1]; omega
  · obtain ⟨a1, a2, a3, _, a5⟩ := h.2.1 k (by omega) hk
    rcases a5 with w | ⟨w1, w2⟩
    · have := h.2.2.1 _ _ w hi; omega
    · rw [w1] at a3; omega
theorem tk_Bq.old (h : tk_Bq dl q0 lo P C O B n i c) (hi : i < n) (hk : ∃ k, lo ≤ k ∧ k < n ∧ P k = dl (P i) c) : tk_Bq dl q0 lo P C O B n i (c + 1) := by
  refine ⟨h.1, fun j h1 h2 => ?_, h.2.2.1, fun j b hb hj ht => ?_⟩
  · obtain ⟨a1, a2, a3, a4, a5⟩ := h.2.1 j h1 h2
    exact ⟨a1, a2, a3, a4, by omega⟩
  · by_cases e : j = i ∧ b = c
    · obtain ⟨k, k1, k2, k3⟩ := hk
      rw [e.1, e.2]
      exact ⟨k, k1, k2, k3, Nat.le_of_lt (h.lt hi k2)⟩
    · exact h.2.2.2 j b hb hj (by omega)
theorem tk_Bq.new (h : tk_Bq dl q0 lo P C O B n i c) (hi : i < n) (hc : c < 128) (e1 : ∀ j, j < n → P2 j = P j ∧ C2 j = C j) (e2 : ∀ j, 1 ≤ j → j < n → O2 j = O j ∧ B2 j = B j) (e3 : P2 n = dl (P i) c) (e4 : C2 n = 128 * C i + c + 1) (e5 : O2 n = i ∧ B2 n = c) : tk_Bq dl q0 lo P2 C2 O2 B2 (n + 1) i (c + 1) := by
  have n1 := h.1.2.2.1
  refine ⟨⟨(e1 0 (by omega)).1.trans h.1.1, (e1 0 (by omega)).2.trans h.1.2.1, by omega, h.1.2.2.2⟩, fun j h1 h2 => ?_, fun j k h1 h2 => ?_, fun j b hb hj ht => ?_⟩
  · by_cases e : j = n
    · rw [e, e5.1, e5.2, e3, e4, (e1 i hi).1, (e1 i hi).2]
      exact ⟨hi, hc, rfl, rfl, Or.inr ⟨rfl, by omega⟩⟩
    · obtain ⟨a1, a2, a3, a4, a5⟩ := h.2.1 j h1 (by omega)
      rw [(e2 j h1 (by omega)).1, (e2 j h1 (by omega)).2, (e1 j (by omega)).1, (e1 j (by omega)).2, (e1 (O j) (by omega)).1, (e1 (O j) (by omega)).2]
      exact ⟨a1, a2, a3, a4, by omega⟩
  · by_cases e : k = n
    · rw [e, e4, (e1 j (by omega)).2]
      exact h.lt hi (by omega)
    · rw [(e1 j (by omega)).2, (e1 k (by omega)).2]
      exact h.2.2.1 j k h1 (by omega)
  · have jn : j < n := by omega
    rw [(e1 j jn).1, (e1 j jn).2]
    by_cases e : j = i ∧ b = c
    · rw [e.1, e.2]
      exact ⟨n, by have := h.1.2.2.2; omega, by omega, e3, by omega⟩
    · obtain ⟨k, k1, k2, k3, k4⟩ := h.2.2.2 j b hb jn (by omega)
      exact ⟨k, k1, by omega, by rw [(e1 k k2).1]; exact k3, by rw [(e1 k k2).2]; exact k4⟩
theorem tk_Bq.row (h : tk_Bq dl q0 lo P C O B n i 128) : tk_Bq dl q0 lo P C O B n (i + 1) 0 := by
  refine ⟨h.1, fun j h1 h2 => ?_, h.2.2.1, fun j b hb hj ht => h.2.2.2 j b hb hj (by omega)⟩
  obtain ⟨a1, a2, a3, a4, a5⟩ := h.2.1 j h1 h2
  exact ⟨a1, a2, a3, a4, by omega⟩
/-- bytes that go where smaller ones go -/
theorem tk_Bq.more (h : tk_Bq dl q0 lo P C O B n i c) (hi : i < n) {c2 : Nat} (hc : c ≤ c2) (hb : ∀ b, c ≤ b → b < c2 → b < 128 → ∃ b0, b0 < c ∧ dl (P i) b = dl (P i) b0) : tk_Bq dl q0 lo P C O B n i c2 := by
  refine ⟨h.1, fun j h1 h2 => ?_, h.2.2.1, fun j b hb2 hj ht => ?_⟩
  · obtain ⟨a1, a2, a3, a4, a5⟩ := h.2.1 j h1 h2
    exact ⟨a1, a2, a3, a4, by omega⟩
  · by_cases e : j < i ∨ (j = i ∧ b < c)
    · exact h.2.2.2 j b hb2 hj e
    · have ej : j = i := by omega
      obtain ⟨b0, w1, w2⟩ := hb b (by omega) (by omega) hb2
      obtain ⟨k, k1, k2, k3, k4⟩ := h.2.2.2 i b0 (by omega) hi (Or.inr ⟨rfl, w1⟩)
      rw [ej, w2]
      exact ⟨k, k1, k2, k3, by omega⟩
/-- every text before X is come to -/
theorem tk_Bq.reach (h : tk_Bq dl q0 lo P C O B n i c) {X : Nat} (hX : ∀ j b, j < n → b < 128 → 128 * C j + b + 1 < X → (j < i ∨ (j = i ∧ b < c))) : ∀ (m : Nat) (v : List Nat), v.length ≤ m → tp_t v → tk_co v 0 < X → ∃ k, k < n ∧ (v = [] ∨ lo ≤ k) ∧ P k = tk_rn dl v q0 ∧ C k ≤ tk_co v 0 := by
  intro m
  induction m with
  | zero =>
    intro v hl _ _
    have ev : v = [] := List.eq_nil_of_length_eq_zero (by omega)
    subst ev
    exact ⟨0, by have := h.1.2.2.1; omega, Or.inl rfl, h.1.1, by rw [h.1.2.1]; exact Nat.zero_le _⟩
  | succ m ih =>
    intro v hl hv hX2
    rcases tk_ec v with e1 | ⟨u, b, e1⟩
    · subst e1
      exact ⟨0, by have := h.1.2.2.1; omega, Or.inl rfl, h.1.1, by rw [h.1.2.1]; exact Nat.zero_le _⟩
    · subst e1
      have a := tk_tap hv
      rw [tk_co.ap] at hX2
      obtain ⟨k, k1, _, k3, k4⟩ := ih u (by rw [List.length_append] at hl; simp only [List.length_cons, List.length_nil] at hl; omega) a.1 (by omega)
      obtain ⟨q, q1, q2, q3, q4⟩ := h.2.2.2 k b a.2 k1 (hX k b k1 a.2 (by omega))
      refine ⟨q, q2, Or.inr q1, ?_, ?_⟩
      · rw [q3, k3, tk_rn.ap]
      · rw [tk_co.ap]; omega
theorem tk_Bq.front (h : tk_Bq dl q0 lo P C O B n i c) (hi : i < n) {j b : Nat} (hj : j < n) (hb : b < 128) (hc : c ≤ 128) (hX : 128 * C j + b + 1 < 128 * C i + c + 1) : j < i ∨ (j = i ∧ b < c) := by
  by_cases e : C j < C i
  · left
    refine Classical.byContradiction (fun w => ?_)
    have := (h.mo hj hi).mpr (by omega)
    omega
  · have e2 : C j = C i := by omega
    have e3 : j = i := Nat.le_antisymm ((h.mo hi hj).mp (by omega)) ((h.mo hj hi).mp (by omega))
    right
    exact ⟨e3, by omega⟩
/-- a path back: the bytes from the last on -/
def tk_Pv (O B : Nat → Nat) : List Nat → Nat → Prop
  | [], j => j = 0
  | b :: r, j => 1 ≤ j ∧ B j = b ∧ tk_Pv O B r (O j)
theorem tk_Bq.pt (h : tk_Bq dl q0 lo P C O B n i c) : ∀ m j, j ≤ m → j < n → ∃ r, tk_Pv O B r j ∧ tp_t r.reverse ∧ tk_co r.reverse 0 = C j ∧ tk_rn dl r.reverse q0 = P j := by
  intro m
  induction m with
  | zero =>
    intro j hj _
    have e : j = 0 := by omega
    subst e
    exact ⟨[], rfl, fun b hb => absurd hb List.not_mem_nil, h.1.2.1.symm, h.1.1.symm⟩
  | succ m ih =>
    intro j hj hn
    by_cases e : j = 0
    · subst e
      exact ⟨[], rfl, fun b hb => absurd hb List.not_mem_nil, h.1.2.1.symm, h.1.1.symm⟩
    · obtain ⟨a1, a2, a3, a4, _⟩ := h.2.1 j (by omega) hn
      obtain ⟨r, r1, r2, r3, r4⟩ := ih (O j) (by omega) (by omega)
      refine ⟨B j :: r, ⟨by omega, rfl, r1⟩, ?_, ?_, ?_⟩
      · rw [List.reverse_cons]; exact tk_tap2 r2 a2
      · rw [List.reverse_cons, tk_co.ap, r3, a3]
      · rw [List.reverse_cons, tk_rn.ap, r4, a4]
end BF
section BG
variable {dl : Nat → Nat → Nat} {q0 n i c : Nat} {P C O B : Nat → Nat} {Kp : List Nat → Prop} {wd : Nat → Prop}
/-- the reference: looked at in their order -/
theorem tk_Bq.fst0 (h : tk_Bq dl q0 0 P C O B n i 0) (hi : i < n) (hK : ∀ v, tp_t v → (Kp v ↔ wd (tk_rn dl v q0))) (hn : ∀ j, j < i → ¬ wd (P j)) (hw : wd (P i)) {r : List Nat} (h1 : tp_t r.reverse) (h2 : tk_co r.reverse 0 = C i) (h3 : tk_rn dl r.reverse q0 = P i) : tk_Ff Kp r.reverse := by
  refine ⟨h1, (hK _ h1).mpr (by rw [h3]; exact hw), fun v hv kv => ?_⟩
  rw [h2]
  refine Classical.byContradiction (fun w => ?_)
  obtain ⟨k, k1, _, k3, k4⟩ := h.reach (X := 128 * C i + 0 + 1) (fun j b hj hb hX => h.front hi hj hb (by decide) hX) v.length v (Nat.le_refl _) hv (by omega)
  have ki : k < i := Classical.byContradiction (fun e => by have := (h.mo k1 hi).mpr (by omega); omega)
  exact hn k ki (by rw [k3]; exact (hK v hv).mp kv)
theorem tk_Bq.none0 (h : tk_Bq dl q0 0 P C O B n n 0) (hK : ∀ v, tp_t v → (Kp v ↔ wd (tk_rn dl v q0))) (hn : ∀ j, j < n → ¬ wd (P j)) : tk_No Kp := fun v hv kv => by
  obtain ⟨k, k1, _, k3, _⟩ := h.reach (X := tk_co v 0 + 1) (fun j b hj _ _ => Or.inl hj) v.length v (Nat.le_refl _) hv (by omega)
  exact hn k k1 (by rw [k3]; exact (hK v hv).mp kv)
/-- the class: looked at as they are found; the empty text apart -/
theorem tk_Bq.fst1 (h : tk_Bq dl q0 1 P C O B (n + 1) i (c + 1)) (hn1 : 1 ≤ n) (hc : c < 128) (ho : O n = i ∧ B n = c) (hK : ∀ v, tp_t v → v ≠ [] → (Kp v ↔ wd (tk_rn dl v q0))) (h0 : ¬ Kp []) (hn : ∀ j, 1 ≤ j → j < n → ¬ wd (P j)) (hw : wd (P n)) {r : List Nat} (hp : tk_Pv O B r n) (h1 : tp_t r.reverse) (h2 : tk_co r.reverse 0 = C n) (h3 : tk_rn dl r.reverse q0 = P n) : tk_Ff Kp r.reverse := by
  obtain ⟨a1, a2, a3, a4, a5⟩ := h.2.1 n hn1 (Nat.lt_succ_self _)
  rw [ho.1, ho.2] at a3
  rw [ho.1] at a1
  have hne : r.reverse ≠ [] := fun e => by
    have : r = [] := List.reverse_eq_nil_iff.mp e
    subst this
    have : n = 0 := hp
    omega
  refine ⟨h1, (hK _ h1 hne).mpr (by rw [h3]; exact hw), fun v hv kv => ?_⟩
  rw [h2]
  refine Classical.byContradiction (fun w => ?_)
  have vne : v ≠ [] := fun e => h0 (by rw [← e]; exact kv)
  obtain ⟨k, k1, k2, k3, k4⟩ := h.reach (X := 128 * C i + (c + 1) + 1) (fun j b hj hb hX => h.front (by omega) hj hb (by omega) hX) v.length v (Nat.le_refl _) hv (by omega)
  have kn : k < n := Classical.byContradiction (fun e => by
    have e2 : k = n := by omega
    rw [e2] at k4
    omega)
  exact hn k (k2.resolve_left vne) kn (by rw [k3]; exact (hK v hv vne).mp kv)
theorem tk_Bq.none1 (h : tk_Bq dl q0 1 P C O B n n 0) (hK : ∀ v, tp_t v → v ≠ [] → (Kp v ↔ wd (tk_rn dl v q0))) (h0 : ¬ Kp []) (hn : ∀ j, 1 ≤ j → j < n → ¬ wd (P j)) : tk_No Kp := fun v hv kv => by
  have vne : v ≠ [] := fun e => h0 (by rw [← e]; exact kv)
  obtain ⟨k, k1, k2, k3, _⟩ := h.reach (X := tk_co v 0 + 1) (fun j b hj _ _ => Or.inl hj) v.length v (Nat.le_refl _) hv (by omega)
  exact hn k (k2.resolve_left vne) k1 (by rw [k3]; exact (hK v hv vne).mp kv)
end BG
/-- a kind of text -/
def tk_kp (k : Int32) (a b : Prop) : Prop := if k = 0 then ¬ (a ↔ b) else if k = 1 then a ∧ ¬ b else if k = 2 then b ∧ ¬ a else if k = 3 then a ∧ b else ¬ a ∧ ¬ b
def tk_Kd (k : Int32) (LA LB : List Nat → Prop) : List Nat → Prop := fun w => tk_kp k (LA w) (LB w)
