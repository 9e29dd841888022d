/-! ===== a pattern's bytes: what is read of them ===== -/
/-- which bytes a place takes: 0 .. 63, 64 .. 127 -/
abbrev tr_M : Type := Int64 × Int64
def tr_b1 (c : Int32) : Int64 := (1 : Int64) <<< (c.toInt64 &&& 63)
def tr_set (m : tr_M) (c : Int32) : tr_M := if c.toInt < 64 then (m.1 ||| tr_b1 c, m.2) else (m.1, m.2 ||| tr_b1 (c - 64))
def tr_inc : Nat → tr_M → Int32 → tr_M
  | 0, m, _ => m
  | j + 1, m, c => tr_inc j (tr_set m c) (c + 1)
def tr_by (T : Nat → Int32) (n k : Nat) : Int32 := if k < n then T k else -1
def tr_e13 : List Int := [47, 92, 124, 42, 43, 63, 40, 41, 91, 46, 93, 45, 94]
def tr_e9 : List Int := [47, 124, 42, 43, 63, 40, 41, 91, 46]
def tr_e3 : List Int := [47, 93, 45]
def tr_esc (c : Int32) : Int32 := if c = 110 then 10 else if c = 116 then 9 else if c = 114 then 13 else if c.toInt ∈ tr_e13 then c else -1
def tr_sy (T : Nat → Int32) (n : Nat) (B : List Int) (k : Nat) : Int32 × Nat :=
  if tr_by T n k = 92 then (if tr_esc (tr_by T n (k + 1)) = -1 then (-1, k + 1) else (tr_esc (tr_by T n (k + 1)), k + 2))
  else if (tr_by T n k).toInt < 32 ∨ 126 < (tr_by T n k).toInt ∨ (tr_by T n k).toInt ∈ B then (-1, k) else (tr_by T n k, k + 1)
abbrev tr_O : Type := Nat ⊕ (Nat × tr_M)
def tr_pt (T : Nat → Int32) (n k : Nat) (m : tr_M) : tr_O :=
  if (tr_sy T n tr_e3 k).1 = -1 then Sum.inl (tr_sy T n tr_e3 k).2
  else if tr_by T n (tr_sy T n tr_e3 k).2 = 45 then
    (if (tr_sy T n tr_e3 ((tr_sy T n tr_e3 k).2 + 1)).1 = -1 then Sum.inl (tr_sy T n tr_e3 ((tr_sy T n tr_e3 k).2 + 1)).2
    else if (tr_sy T n tr_e3 ((tr_sy T n tr_e3 k).2 + 1)).1.toInt < (tr_sy T n tr_e3 k).1.toInt then Sum.inl ((tr_sy T n tr_e3 k).2 + 1)
    else Sum.inr ((tr_sy T n tr_e3 ((tr_sy T n tr_e3 k).2 + 1)).2, tr_inc ((tr_sy T n tr_e3 ((tr_sy T n tr_e3 k).2 + 1)).1.toInt - (tr_sy T n tr_e3 k).1.toInt + 1).toNat m (tr_sy T n tr_e3 k).1))
  else Sum.inr ((tr_sy T n tr_e3 k).2, tr_inc 1 m (tr_sy T n tr_e3 k).1)
def tr_ps (T : Nat → Int32) (n : Nat) : Nat → Nat → tr_M → tr_O
  | 0, k, _ => Sum.inl k
  | f + 1, k, m => match tr_pt T n k m with
    | Sum.inl j => Sum.inl j
    | Sum.inr (j, m') => if tr_by T n j = 93 then Sum.inr (j + 1, m') else tr_ps T n f j m'
def tr_br (T : Nat → Int32) (n k : Nat) : tr_O :=
  if tr_by T n (k + 1) = 94 then (match tr_ps T n (n + 1) (k + 2) (0, 0) with
    | Sum.inl j => Sum.inl j
    | Sum.inr (j, m) => Sum.inr (j, (m.1 ^^^ (-1), m.2 ^^^ (-1))))
  else tr_ps T n (n + 1) (k + 1) (0, 0)
def tr_any : tr_M := (-1025, -1)
def tr_sg (T : Nat → Int32) (n k : Nat) : tr_O :=
  if T k = 91 then tr_br T n k
  else if T k = 46 then Sum.inr (k + 1, tr_any)
  else if (tr_sy T n tr_e9 k).1 = -1 then Sum.inl (tr_sy T n tr_e9 k).2
  else Sum.inr ((tr_sy T n tr_e9 k).2, tr_set (0, 0) (tr_sy T n tr_e9 k).1)
def tr_up {α : Type} (f : Nat → α) (k : Nat) (x : α) : Nat → α := fun j => if j = k then x else f j
/-- what a whole pattern says: how many places, what each takes, how it begins and ends, what may follow -/
abbrev tr_Z : Type := Nat × (Nat → tr_M) × tq_E × (Nat → Nat → Prop)
abbrev tr_Res : Type := Nat ⊕ tr_Z
/-- the reading from k on: depth, places so far, whether an atom stands ahead, the levels, the atom, what may follow -/
def tr_run (T : Nat → Int32) (n : Nat) : Nat → Nat → Nat → Nat → (Nat → tr_M) → Bool → (Nat → tq_E) → (Nat → tq_E) → tq_E → (Nat → Nat → Prop) → tr_Res
  | 0, k, _, _, _, _, _, _, _, _ => Sum.inl k
  | f + 1, k, dp, np, mf, pd, ce, se, A, F =>
    if n ≤ k then (if dp = 0 then Sum.inr (np, mf, tq_or (ce 0) (tq_ap (se 0) A), tq_li F (se 0) A) else Sum.inl n)
    else if T k = 40 then (if dp = 40 then Sum.inl k else tr_run T n f (k + 1) (dp + 1) np mf false (tr_up ce (dp + 1) tq_e0) (tr_up (tr_up se dp (tq_ap (se dp) A)) (dp + 1) tq_e1) tq_e1 (tq_li F (se dp) A))
    else if T k = 41 then (if dp = 0 then Sum.inl k else tr_run T n f (k + 1) (dp - 1) np mf true ce se (tq_or (ce dp) (tq_ap (se dp) A)) (tq_li F (se dp) A))
    else if T k = 124 then tr_run T n f (k + 1) dp np mf false (tr_up ce dp (tq_or (ce dp) (tq_ap (se dp) A))) (tr_up se dp tq_e1) tq_e1 (tq_li F (se dp) A)
    else if T k = 42 ∨ T k = 43 ∨ T k = 63 then (if pd = false then Sum.inl k else tr_run T n f (k + 1) dp np mf true ce se (if T k = 43 then A else tq_sk A) (if T k = 63 then F else tq_li F A A))
    else if np = 400 then Sum.inl k
    else match tr_sg T n k with
      | Sum.inl j => Sum.inl j
      | Sum.inr (j, m) => tr_run T n f j dp (np + 1) (tr_up mf np m) true ce (tr_up se dp (tq_ap (se dp) A)) (tq_ep np) (tq_li F (se dp) A)
def tr_all (T : Nat → Int32) (n : Nat) : tr_Res := tr_run T n (n + 1) 0 0 0 (fun _ => (0, 0)) false (fun _ => tq_e0) (fun _ => tq_e1) tq_e1 (fun _ _ => False)
/-! one byte's step, by name -/
theorem tr_run.z {T : Nat → Int32} {n f k np : Nat} {mk : Nat → tr_M} {pd : Bool} {ce se : Nat → tq_E} {A : tq_E} {F : Nat → Nat → Prop} (h : n ≤ k) : tr_run T n (f + 1) k 0 np mk pd ce se A F = Sum.inr (np, mk, tq_or (ce 0) (tq_ap (se 0) A), tq_li F (se 0) A) := by
  rw [tr_run, if_pos h, if_pos rfl]
theorem tr_run.zb {T : Nat → Int32} {n f k dp np : Nat} {mk : Nat → tr_M} {pd : Bool} {ce se : Nat → tq_E} {A : tq_E} {F : Nat → Nat → Prop} (h : n ≤ k) (hd : dp ≠ 0) : tr_run T n (f + 1) k dp np mk pd ce se A F = Sum.inl n := by
  rw [tr_run, if_pos h, if_neg hd]
theorem tr_run.lp {T : Nat → Int32} {n f k dp np : Nat} {mk : Nat → tr_M} {pd : Bool} {ce se : Nat → tq_E} {A : tq_E} {F : Nat → Nat → Prop} (h : k < n) (hc : T k = 40) (hd : dp ≠ 40) : tr_run T n (f + 1) k dp np mk pd ce se A F = tr_run T n f (k + 1) (dp + 1) np mk false (tr_up ce (dp + 1) tq_e0) (tr_up (tr_up se dp (tq_ap (se dp) A)) (dp + 1) tq_e1) tq_e1 (tq_li F (se dp) A) := by
  rw [tr_run, if_neg (Nat.not_le.mpr h), if_pos hc, if_neg hd]
theorem tr_run.lpb {T : Nat → Int32} {n f k dp np : Nat} {mk : Nat → tr_M} {pd : Bool} {ce se : Nat → tq_E} {A : tq_E} {F : Nat → Nat → Prop} (h : k < n) (hc : T k = 40) (hd : dp = 40) : tr_run T n (f + 1) k dp np mk pd ce se A F = Sum.inl k := by
  rw [tr_run, if_neg (Nat.not_le.mpr h), if_pos hc, if_pos hd]
theorem tr_run.rp {T : Nat → Int32} {n f k dp np : Nat} {mk : Nat → tr_M} {pd : Bool} {ce se : Nat → tq_E} {A : tq_E} {F : Nat → Nat → Prop} (h : k < n) (hc : T k = 41) (hd : dp ≠ 0) : tr_run T n (f + 1) k dp np mk pd ce se A F = tr_run T n f (k + 1) (dp - 1) np mk true ce se (tq_or (ce dp) (tq_ap (se dp) A)) (tq_li F (se dp) A) := by
  rw [tr_run, if_neg (Nat.not_le.mpr h), if_neg (by rw [hc]; decide), if_pos hc, if_neg hd]
theorem tr_run.rpb {T : Nat → Int32} {n f k np : Nat} {mk : Nat → tr_M} {pd : Bool} {ce se : Nat → tq_E} {A : tq_E} {F : Nat → Nat → Prop} (h : k < n) (hc : T k = 41) : tr_run T n (f + 1) k 0 np mk pd ce se A F = Sum.inl k := by
  rw [tr_run, if_neg (Nat.not_le.mpr h), if_neg (by rw [hc]; decide), if_pos hc, if_pos rfl]
theorem tr_run.bar {T : Nat → Int32} {n f k dp np : Nat} {mk : Nat → tr_M} {pd : Bool} {ce se : Nat → tq_E} {A : tq_E} {F : Nat → Nat → Prop} (h : k < n) (hc : T k = 124) : tr_run T n (f + 1) k dp np mk pd ce se A F = tr_run T n f (k + 1) dp np mk false (tr_up ce dp (tq_or (ce dp) (tq_ap (se dp) A))) (tr_up se dp tq_e1) tq_e1 (tq_li F (se dp) A) := by
  rw [tr_run, if_neg (Nat.not_le.mpr h), if_neg (by rw [hc]; decide), if_neg (by rw [hc]; decide), if_pos hc]
theorem tr_run.sgn {T : Nat → Int32} {n f k dp np : Nat} {mk : Nat → tr_M} {ce se : Nat → tq_E} {A : tq_E} {F : Nat → Nat → Prop} (h : k < n) (hc : T k = 42 ∨ T k = 43 ∨ T k = 63) : tr_run T n (f + 1) k dp np mk true ce se A F = tr_run T n f (k + 1) dp np mk true ce se (if T k = 43 then A else tq_sk A) (if T k = 63 then F else tq_li F A A) := by
  have n1 : T k ≠ 40 := fun z => by rw [z] at hc; revert hc; decide
  have n2 : T k ≠ 41 := fun z => by rw [z] at hc; revert hc; decide
  have n3 : T k ≠ 124 := fun z => by rw [z] at hc; revert hc; decide
  rw [tr_run, if_neg (Nat.not_le.mpr h), if_neg n1, if_neg n2, if_neg n3, if_pos hc, if_neg (by decide)]
theorem tr_run.sgb {T : Nat → Int32} {n f k dp np : Nat} {mk : Nat → tr_M} {ce se : Nat → tq_E} {A : tq_E} {F : Nat → Nat → Prop} (h : k < n) (hc : T k = 42 ∨ T k = 43 ∨ T k = 63) : tr_run T n (f + 1) k dp np mk false ce se A F = Sum.inl k := by
  have n1 : T k ≠ 40 := fun z => by rw [z] at hc; revert hc; decide
  have n2 : T k ≠ 41 := fun z => by rw [z] at hc; revert hc; decide
  have n3 : T k ≠ 124 := fun z => by rw [z] at hc; revert hc; decide
  rw [tr_run, if_neg (Nat.not_le.mpr h), if_neg n1, if_neg n2, if_neg n3, if_pos hc, if_pos rfl]
/-- a byte that begins a place, if it may -/
def tr_pl (c : Int32) : Prop := c ≠ 40 ∧ c ≠ 41 ∧ c ≠ 124 ∧ c ≠ 42 ∧ c ≠ 43 ∧ c ≠ 63
theorem tr_run.fu {T : Nat → Int32} {n f k dp : Nat} {mk : Nat → tr_M} {pd : Bool} {ce se : Nat → tq_E} {A : tq_E} {F : Nat → Nat → Prop} (h : k < n) (hc : tr_pl (T k)) : tr_run T n (f + 1) k dp 400 mk pd ce se A F = Sum.inl k := by
  obtain ⟨n1, n2, n3, n4, n5, n6⟩ := hc
  rw [tr_run, if_neg (Nat.not_le.mpr h), if_neg n1, if_neg n2, if_neg n3, if_neg (fun z => z.elim n4 (fun z => z.elim n5 n6)), if_pos rfl]
theorem tr_run.pb {T : Nat → Int32} {n f k dp np j : Nat} {mk : Nat → tr_M} {pd : Bool} {ce se : Nat → tq_E} {A : tq_E} {F : Nat → Nat → Prop} (h : k < n) (hc : tr_pl (T k)) (hp : np ≠ 400) (hs : tr_sg T n k = Sum.inl j) : tr_run T n (f + 1) k dp np mk pd ce se A F = Sum.inl j := by
  obtain ⟨n1, n2, n3, n4, n5, n6⟩ := hc
  rw [tr_run, if_neg (Nat.not_le.mpr h), if_neg n1, if_neg n2, if_neg n3, if_neg (fun z => z.elim n4 (fun z => z.elim n5 n6)), if_neg hp, hs]
theorem tr_run.p {T : Nat → Int32} {n f k dp np j : Nat} {m : tr_M} {mk : Nat → tr_M} {pd : Bool} {ce se : Nat → tq_E} {A : tq_E} {F : Nat → Nat → Prop} (h : k < n) (hc : tr_pl (T k)) (hp : np ≠ 400) (hs : tr_sg T n k = Sum.inr (j, m)) : tr_run T n (f + 1) k dp np mk pd ce se A F = tr_run T n f j dp (np + 1) (tr_up mk np m) true ce (tr_up se dp (tq_ap (se dp) A)) (tq_ep np) (tq_li F (se dp) A) := by
  obtain ⟨n1, n2, n3, n4, n5, n6⟩ := hc
  rw [tr_run, if_neg (Nat.not_le.mpr h), if_neg n1, if_neg n2, if_neg n3, if_neg (fun z => z.elim n4 (fun z => z.elim n5 n6)), if_neg hp, hs]
theorem tr_ups {α : Type} {f : Nat → α} {k : Nat} {x : α} : tr_up f k x k = x := if_pos rfl
theorem tr_upn {α : Type} {f : Nat → α} {k j : Nat} {x : α} (h : j ≠ k) : tr_up f k x j = f j := if_neg h
theorem tr_upu {α : Type} {f : Nat → α} {k : Nat} {x y : α} : tr_up (tr_up f k x) k y = tr_up f k y := funext fun j => by
  unfold tr_up
  by_cases h : j = k
  · rw [if_pos h, if_pos h]
  · rw [if_neg h, if_neg h, if_neg h]
/-- the atom joined with what stands ahead of it: nothing else changes, but that no sign may follow -/
theorem tr_run.fold {T : Nat → Int32} {n k : Nat} (hk : n ≤ k ∨ ¬ (T k = 42 ∨ T k = 43 ∨ T k = 63)) {f dp np : Nat} {mk : Nat → tr_M} {ce se : Nat → tq_E} {A : tq_E} {F : Nat → Nat → Prop} : tr_run T n (f + 1) k dp np mk true ce se A F = tr_run T n (f + 1) k dp np mk false ce (tr_up se dp (tq_ap (se dp) A)) tq_e1 (tq_li F (se dp) A) := by
  have e1 : tr_up se dp (tq_ap (se dp) A) dp = tq_ap (se dp) A := tr_ups
  have e2 : tq_ap (tq_ap (se dp) A) tq_e1 = tq_ap (se dp) A := tq_ap1 _
  have e3 : tq_li (tq_li F (se dp) A) (tq_ap (se dp) A) tq_e1 = tq_li F (se dp) A := tq_li1 _ _
  by_cases h : n ≤ k
  · by_cases hd : dp = 0
    · subst hd
      rw [tr_run.z h, tr_run.z h, e1, e2, e3]
    · rw [tr_run.zb h hd, tr_run.zb h hd]
  · have h' : k < n := Nat.not_le.mp h
    have hs : ¬ (T k = 42 ∨ T k = 43 ∨ T k = 63) := hk.resolve_left h
    by_cases c1 : T k = 40
    · by_cases hd : dp = 40
      · rw [tr_run.lpb h' c1 hd, tr_run.lpb h' c1 hd]
      · rw [tr_run.lp h' c1 hd, tr_run.lp h' c1 hd, e1, e2, e3, tr_upu]
    · by_cases c2 : T k = 41
      · by_cases hd : dp = 0
        · subst hd
          rw [tr_run.rpb h' c2, tr_run.rpb h' c2]
        · rw [tr_run.rp h' c2 hd, tr_run.rp h' c2 hd, e1, e2, e3]
          have key : ∀ (f k d np : Nat) (mk : Nat → tr_M) (pd : Bool) (ce s1 s2 : Nat → tq_E) (A : tq_E) (F : Nat → Nat → Prop), (∀ i, i ≤ d → s1 i = s2 i) → tr_run T n f k d np mk pd ce s1 A F = tr_run T n f k d np mk pd ce s2 A F := by
            intro f
            induction f with
            | zero => intros; rfl
            | succ f ih =>
              intro k d np mk pd ce s1 s2 A F hs
              rw [tr_run, tr_run, hs 0 (Nat.zero_le _), hs d (Nat.le_refl _)]
              have u1 : ∀ x i, i ≤ d → tr_up s1 d x i = tr_up s2 d x i := fun x i hi => by
                unfold tr_up
                by_cases e : i = d
                · rw [if_pos e, if_pos e]
                · rw [if_neg e, if_neg e, hs i hi]
              have u2 : ∀ x y i, i ≤ d + 1 → tr_up (tr_up s1 d x) (d + 1) y i = tr_up (tr_up s2 d x) (d + 1) y i := fun x y i hi => by
                by_cases e : i = d + 1
                · subst e; rw [tr_ups, tr_ups]
                · rw [tr_upn e, tr_upn e, u1 x i (by omega)]
              rw [ih (k + 1) (d + 1) np mk false _ _ _ tq_e1 _ (u2 _ _), ih (k + 1) d np mk false _ _ _ tq_e1 _ (u1 _), ih (k + 1) (d - 1) np mk true ce s1 s2 _ _ (fun i hi => hs i (by omega)), ih (k + 1) d np mk true ce s1 s2 _ _ hs]
              have u3 : ∀ j m, tr_run T n f j d (np + 1) (tr_up mk np m) true ce (tr_up s1 d (tq_ap (s2 d) A)) (tq_ep np) (tq_li F (s2 d) A) = tr_run T n f j d (np + 1) (tr_up mk np m) true ce (tr_up s2 d (tq_ap (s2 d) A)) (tq_ep np) (tq_li F (s2 d) A) := fun j m => ih _ _ _ _ _ _ _ _ _ _ (u1 _)
              cases hsg : tr_sg T n k with
              | inl j => rfl
              | inr q =>
                obtain ⟨j, m⟩ := q
                simp only [u3]
          exact key _ _ _ _ _ _ _ _ _ _ _ (fun i hi => (tr_upn (by omega)).symm)
      · by_cases c3 : T k = 124
        · rw [tr_run.bar h' c3, tr_run.bar h' c3, e1, e2, e3, tr_upu]
        · have hp : tr_pl (T k) := ⟨c1, c2, c3, fun z => hs (Or.inl z), fun z => hs (Or.inr (Or.inl z)), fun z => hs (Or.inr (Or.inr z))⟩
          by_cases c4 : np = 400
          · subst c4
            rw [tr_run.fu h' hp, tr_run.fu h' hp]
          · cases hsg : tr_sg T n k with
            | inl j => rw [tr_run.pb h' hp c4 hsg, tr_run.pb h' hp c4 hsg]
            | inr q =>
              obtain ⟨j, m⟩ := q
              rw [tr_run.p h' hp c4 hsg, tr_run.p h' hp c4 hsg, e1, e2, e3, tr_upu]
/-! bits -/
def tr_bt (x : Int64) (i : Nat) : Prop := x.toBitVec.getLsbD i = true
def tr_in (m : tr_M) (b : Nat) : Prop := if b < 64 then tr_bt m.1 b else tr_bt m.2 (b - 64)
theorem tr_bt.or {x y : Int64} {i : Nat} : tr_bt (x ||| y) i ↔ tr_bt x i ∨ tr_bt y i := by
  unfold tr_bt
  rw [Int64.toBitVec_or, BitVec.getLsbD_or, Bool.or_eq_true]
theorem tr_bt.and {x y : Int64} {i : Nat} : tr_bt (x &&& y) i ↔ tr_bt x i ∧ tr_bt y i := by
  unfold tr_bt
  rw [Int64.toBitVec_and, BitVec.getLsbD_and, Bool.and_eq_true]
theorem tr_bt.not {x : Int64} {i : Nat} (hi : i < 64) : tr_bt (~~~ x) i ↔ ¬ tr_bt x i := by
  unfold tr_bt
  rw [Int64.toBitVec_not, BitVec.getLsbD_not]
  simp [hi]
theorem tr_bt.xn {x : Int64} {i : Nat} (hi : i < 64) : tr_bt (x ^^^ (-1)) i ↔ ¬ tr_bt x i := by
  have h : ∀ i : Fin 64, (-1 : Int64).toBitVec.getLsbD i.1 = true := by decide +kernel
  unfold tr_bt
  rw [Int64.toBitVec_xor, BitVec.getLsbD_xor, h ⟨i, hi⟩]
  cases x.toBitVec.getLsbD i <;> simp
theorem tr_bt.z {i : Nat} : ¬ tr_bt 0 i := by
  unfold tr_bt
  simp
theorem tr_bt.ge {x : Int64} {i : Nat} (h : 64 ≤ i) : ¬ tr_bt x i := by
  unfold tr_bt
  rw [BitVec.getLsbD_of_ge _ _ h]
  exact Bool.false_ne_true
theorem tr_bt.ext {x y : Int64} (h : ∀ i, i < 64 → (tr_bt x i ↔ tr_bt y i)) : x = y := by
  apply Int64.toBitVec_inj.mp
  apply BitVec.eq_of_getLsbD_eq
  intro i hi
  have := h i hi
  unfold tr_bt at this
  cases a : x.toBitVec.getLsbD i <;> cases b : y.toBitVec.getLsbD i <;> simp_all
