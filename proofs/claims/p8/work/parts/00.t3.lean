/-! ===== counting; automata without names ===== -/
theorem tp_le {α : Type} : ∀ (L M : List α), L.Nodup → (∀ x ∈ L, x ∈ M) → L.length ≤ M.length
  | [], _, _, _ => Nat.zero_le _
  | a :: L, M, hn, h => by
    obtain ⟨s, t, rfl⟩ := List.append_of_mem (h a List.mem_cons_self)
    obtain ⟨h1, h2⟩ := List.nodup_cons.mp hn
    have := tp_le L (s ++ t) h2 (fun x hx => by
      have := h x (List.mem_cons_of_mem _ hx)
      rcases List.mem_append.mp this with z | z
      · exact List.mem_append_left _ z
      · rcases List.mem_cons.mp z with z | z
        · subst z; exact absurd hx h1
        · exact List.mem_append_right _ z)
    simp only [List.length_cons, List.length_append] at this ⊢
    omega
/-- a list of those below n -/
theorem tp_ub {n : Nat} {L : List Nat} (h1 : L.Nodup) (h2 : ∀ x ∈ L, x < n) : L.length ≤ n := by
  have := tp_le L (List.range n) h1 (fun x hx => List.mem_range.mpr (h2 x hx))
  rwa [List.length_range] at this
/-- what is come to: from the starts d0 b, by d, with bytes below 128 -/
def tp_R {α : Type} (d0 : Nat → α) (d : α → Nat → α) (x : α) : Prop := ∀ Q : α → Prop, (∀ b, b < 128 → Q (d0 b)) → (∀ y b, b < 128 → Q y → Q (d y b)) → Q x
theorem tp_R.go {α : Type} {d0 : Nat → α} {d : α → Nat → α} {x : α} {b : Nat} (h : tp_R d0 d x) (hb : b < 128) : tp_R d0 d (d x b) := fun Q h1 h2 => h2 x b hb (h Q h1 h2)
theorem tp_R.s {α : Type} {d0 : Nat → α} {d : α → Nat → α} {b : Nat} (hb : b < 128) : tp_R d0 d (d0 b) := fun _ h1 _ => h1 b hb
/-- a list that is whole: all that is come to, nothing else, nothing twice -/
def tp_A {α : Type} (d0 : Nat → α) (d : α → Nat → α) (L : List α) : Prop := L.Nodup ∧ (∀ x ∈ L, tp_R d0 d x) ∧ (∀ b, b < 128 → d0 b ∈ L) ∧ ∀ x ∈ L, ∀ b, b < 128 → d x b ∈ L
theorem tp_A.m {α : Type} {d0 : Nat → α} {d : α → Nat → α} {L : List α} (h : tp_A d0 d L) (x : α) : x ∈ L ↔ tp_R d0 d x := ⟨h.2.1 x, fun z => z (fun y => y ∈ L) h.2.2.1 (fun y b hb hy => h.2.2.2 y hy b hb)⟩
theorem tp_A.len {α : Type} {d0 : Nat → α} {d : α → Nat → α} {L M : List α} (h : tp_A d0 d L) (g : tp_A d0 d M) : L.length = M.length :=
  Nat.le_antisymm (tp_le L M h.1 (fun x hx => (g.m x).mpr ((h.m x).mp hx))) (tp_le M L g.1 (fun x hx => (h.m x).mpr ((g.m x).mp hx)))
/-- more than a whole list has, none is -/
theorem tp_A.lt {α : Type} {d0 : Nat → α} {d : α → Nat → α} {L M : List α} (h : tp_A d0 d L) (h1 : M.Nodup) (h2 : ∀ x ∈ M, tp_R d0 d x) : M.length ≤ L.length := tp_le M L h1 (fun x hx => (h.m x).mpr (h2 x hx))
/-! states told apart by texts -/
def tp_run {β : Type} (d : β → Nat → β) (x : β) (w : List Nat) : β := w.foldl d x
def tp_t (w : List Nat) : Prop := ∀ b ∈ w, b < 128
def tp_q {β : Type} (d : β → Nat → β) (ac : β → Prop) (x y : β) : Prop := ∀ w, tp_t w → (ac (tp_run d x w) ↔ ac (tp_run d y w))
def tp_l {β : Type} (d : β → Nat → β) (ac : β → Prop) (x : β) : Prop := ∃ w, tp_t w ∧ ac (tp_run d x w)
theorem tp_q.rf {β : Type} {d : β → Nat → β} {ac : β → Prop} {x : β} : tp_q d ac x x := fun _ _ => Iff.rfl
theorem tp_q.sy {β : Type} {d : β → Nat → β} {ac : β → Prop} {x y : β} (h : tp_q d ac x y) : tp_q d ac y x := fun w hw => (h w hw).symm
theorem tp_q.tr {β : Type} {d : β → Nat → β} {ac : β → Prop} {x y z : β} (h : tp_q d ac x y) (g : tp_q d ac y z) : tp_q d ac x z := fun w hw => (h w hw).trans (g w hw)
theorem tp_q.go {β : Type} {d : β → Nat → β} {ac : β → Prop} {x y : β} {b : Nat} (h : tp_q d ac x y) (hb : b < 128) : tp_q d ac (d x b) (d y b) := fun w hw => h (b :: w) (List.forall_mem_cons.mpr ⟨hb, hw⟩)
theorem tp_q.ac {β : Type} {d : β → Nat → β} {ac : β → Prop} {x y : β} (h : tp_q d ac x y) : ac x ↔ ac y := h [] (fun _ h => absurd h List.not_mem_nil)
theorem tp_q.l {β : Type} {d : β → Nat → β} {ac : β → Prop} {x y : β} (h : tp_q d ac x y) : tp_l d ac x ↔ tp_l d ac y := ⟨fun ⟨w, h1, h2⟩ => ⟨w, h1, (h w h1).mp h2⟩, fun ⟨w, h1, h2⟩ => ⟨w, h1, (h w h1).mpr h2⟩⟩
/-- what stays within V and splits no further -/
theorem tp_q.of {β : Type} {d : β → Nat → β} {ac : β → Prop} {V : β → Prop} {f : β → Nat} (hV : ∀ x b, b < 128 → V x → V (d x b)) (h1 : ∀ x y, V x → V y → f x = f y → (ac x ↔ ac y)) (h2 : ∀ x y b, b < 128 → V x → V y → f x = f y → f (d x b) = f (d y b)) :
    ∀ (w : List Nat) (x y : β), tp_t w → V x → V y → f x = f y → (ac (tp_run d x w) ↔ ac (tp_run d y w))
  | [], x, y, _, hx, hy, e => h1 x y hx hy e
  | b :: w, x, y, hw, hx, hy, e => by
    obtain ⟨hb, hw⟩ := List.forall_mem_cons.mp hw
    exact tp_q.of hV h1 h2 w (d x b) (d y b) hw (hV x b hb hx) (hV y b hb hy) (h2 x y b hb hx hy e)
/-- f numbers the classes of the living ones of V, by the numbers below n, each of them used -/
def tp_N {β : Type} (d : β → Nat → β) (ac : β → Prop) (V : β → Prop) (f : β → Nat) (n : Nat) : Prop := (∀ x y, V x → V y → tp_l d ac x → tp_l d ac y → (f x = f y ↔ tp_q d ac x y)) ∧ (∀ x, V x → tp_l d ac x → f x < n) ∧ ∀ k, k < n → ∃ x, V x ∧ tp_l d ac x ∧ f x = k
/-- a list of living ones no two of which are alike -/
def tp_D {β : Type} (d : β → Nat → β) (ac : β → Prop) (V : β → Prop) (L : List β) : Prop := (∀ x ∈ L, V x ∧ tp_l d ac x) ∧ L.Pairwise (fun x y => ¬ tp_q d ac x y)
theorem tp_N.ub {β : Type} {d : β → Nat → β} {ac : β → Prop} {V : β → Prop} {f : β → Nat} {n : Nat} {L : List β} (h : tp_N d ac V f n) (g : tp_D d ac V L) : L.length ≤ n := by
  have h1 : (L.map f).Nodup := by
    refine List.pairwise_map.mpr (List.Pairwise.imp_of_mem ?_ g.2)
    intro x y hx hy hne e
    obtain ⟨a1, a2⟩ := g.1 x hx
    obtain ⟨b1, b2⟩ := g.1 y hy
    exact hne ((h.1 x y a1 b1 a2 b2).mp e)
  have := tp_ub (n := n) h1 (fun k hk => by
    obtain ⟨x, hx, rfl⟩ := List.mem_map.mp hk
    obtain ⟨a1, a2⟩ := g.1 x hx
    exact h.2.1 x a1 a2)
  rwa [List.length_map] at this
theorem tp_N.reps {β : Type} {d : β → Nat → β} {ac : β → Prop} {V : β → Prop} {f : β → Nat} {n : Nat} (h : tp_N d ac V f n) : ∀ m, m ≤ n → ∃ L : List β, L.length = m ∧ tp_D d ac V L ∧ ∀ x ∈ L, f x < m
  | 0, _ => ⟨[], rfl, ⟨fun _ h => absurd h List.not_mem_nil, List.Pairwise.nil⟩, fun _ h => absurd h List.not_mem_nil⟩
  | m + 1, hm => by
    obtain ⟨L, h1, h2, h3⟩ := tp_N.reps h m (by omega)
    obtain ⟨x, x1, x2, x3⟩ := h.2.2 m (by omega)
    refine ⟨x :: L, by rw [List.length_cons, h1], ⟨List.forall_mem_cons.mpr ⟨⟨x1, x2⟩, h2.1⟩, List.Pairwise.cons (fun y hy hq => ?_) h2.2⟩, List.forall_mem_cons.mpr ⟨by omega, fun y hy => by have := h3 y hy; omega⟩⟩
    obtain ⟨y1, y2⟩ := h2.1 y hy
    have := (h.1 x y x1 y1 x2 y2).mpr hq
    have := h3 y hy
    omega
/-- two numberings: one number -/
theorem tp_N.eq {β : Type} {d : β → Nat → β} {ac : β → Prop} {V : β → Prop} {f g : β → Nat} {n m : Nat} (h : tp_N d ac V f n) (k : tp_N d ac V g m) : n = m := by
  obtain ⟨L, a1, a2, -⟩ := h.reps n (Nat.le_refl _)
  obtain ⟨M, b1, b2, -⟩ := k.reps m (Nat.le_refl _)
  have := k.ub a2
  have := h.ub b2
  omega
