/-! ===== sets of places; which of them live; the answer ===== -/
abbrev tz_S : Type := Nat → Prop
def tz_d0 (z : tr_Z) (b : Nat) : tz_S := fun q => z.2.2.1.1 q ∧ tr_in (z.2.1 q) b
def tz_d (z : tr_Z) (X : tz_S) (b : Nat) : tz_S := fun q => ∃ p, X p ∧ z.2.2.2 p q ∧ tr_in (z.2.1 q) b
def tz_e (z : tr_Z) : Option tz_S → Nat → Option tz_S
  | none, b => some (tz_d0 z b)
  | some X, b => some (tz_d z X b)
def tz_ac (z : tr_Z) : Option tz_S → Prop
  | none => False
  | some X => ∃ p, X p ∧ z.2.2.1.2.2 p
def tz_V (z : tr_Z) : Option tz_S → Prop
  | none => True
  | some X => tp_R (tz_d0 z) (tz_d z) X
theorem tz_lv {z : tr_Z} (hG : tz_G z) {p : Nat} {X : tz_S} (hX : X p) (hp : p < z.1) : tp_l (tz_e z) (tz_ac z) (some X) := by
  obtain ⟨t, ht, hl⟩ := hG.2.2.2.2.2 p hp
  refine hl (fun q => ∀ Y : tz_S, Y q → tp_l (tz_e z) (tz_ac z) (some Y)) (fun Y hY => ⟨[], fun _ h => absurd h List.not_mem_nil, t, hY, ht⟩) (fun a b hab hb Y hY => ?_) X hX
  obtain ⟨c, hc, hm⟩ := hG.2.1 b (hG.2.2.2.2.1 a b hab).2
  obtain ⟨w, hw, ha⟩ := hb (tz_d z Y c) ⟨a, hY, hab, hm⟩
  exact ⟨c :: w, List.forall_mem_cons.mpr ⟨hc, hw⟩, ha⟩
theorem tz_dd {z : tr_Z} : ∀ (w : List Nat) {X : tz_S}, (¬ ∃ p, X p) → ¬ tz_ac z (tp_run (tz_e z) (some X) w)
  | [], X, h => fun ⟨p, hp, _⟩ => h ⟨p, hp⟩
  | b :: w, X, h => tz_dd w (X := tz_d z X b) (fun ⟨_, p, hp, _⟩ => h ⟨p, hp⟩)
theorem tz_mem {z : tr_Z} (hG : tz_G z) {X : tz_S} (hX : tp_R (tz_d0 z) (tz_d z) X) : ∀ p, X p → p < z.1 :=
  hX (fun Y => ∀ p, Y p → p < z.1) (fun _ _ p hp => hG.2.2.1 p hp.1) (fun _ _ _ _ _ ⟨a, _, hF, _⟩ => (hG.2.2.2.2.1 a _ hF).2)
theorem tz_lvS {z : tr_Z} (hG : tz_G z) {X : tz_S} (hX : tp_R (tz_d0 z) (tz_d z) X) : tp_l (tz_e z) (tz_ac z) (some X) ↔ ∃ p, X p :=
  ⟨fun ⟨w, _, h⟩ => Classical.byContradiction (fun y => tz_dd w y h), fun ⟨p, hp⟩ => tz_lv hG hp (tz_mem hG hX p hp)⟩
theorem tz_lvN {z : tr_Z} (hG : tz_G z) : tp_l (tz_e z) (tz_ac z) none ↔ ∃ h, z.2.2.1.1 h := by
  constructor
  · rintro ⟨w, _, h⟩
    refine Classical.byContradiction (fun y => ?_)
    cases w with
    | nil => exact h
    | cons b w => exact tz_dd w (X := tz_d0 z b) (fun ⟨p, hp, _⟩ => y ⟨p, hp⟩) h
  · rintro ⟨h, hh⟩
    obtain ⟨c, hc, hm⟩ := hG.2.1 h (hG.2.2.1 h hh)
    obtain ⟨w, hw, ha⟩ := tz_lv hG (X := tz_d0 z c) ⟨hh, hm⟩ (hG.2.2.1 h hh)
    exact ⟨c :: w, List.forall_mem_cons.mpr ⟨hc, hw⟩, ha⟩
/-- one of each: living, no two alike, all -/
def tp_Wl {β : Type} (d : β → Nat → β) (ac : β → Prop) (V : β → Prop) (M : List β) : Prop := tp_D d ac V M ∧ ∀ x, V x → tp_l d ac x → ∃ y ∈ M, tp_q d ac x y
theorem tp_rl {β : Type} {q : β → β → Prop} (hs : ∀ x y, q x y → q y x) (ht : ∀ x y z, q x y → q y z → q x z) : ∀ (L M : List β), L.Pairwise (fun x y => ¬ q x y) → (∀ x ∈ L, ∃ y ∈ M, q x y) → L.length ≤ M.length
  | [], _, _, _ => Nat.zero_le _
  | a :: L, M, hn, h => by
    obtain ⟨y, hy, ha⟩ := h a List.mem_cons_self
    obtain ⟨s, t, rfl⟩ := List.append_of_mem hy
    obtain ⟨h1, h2⟩ := List.pairwise_cons.mp hn
    have := tp_rl hs ht L (s ++ t) h2 (fun x hx => by
      obtain ⟨y', hy', hx'⟩ := h x (List.mem_cons_of_mem _ hx)
      rcases List.mem_append.mp hy' with z | z
      · exact ⟨y', List.mem_append_left _ z, hx'⟩
      · rcases List.mem_cons.mp z with z | z
        · subst z; exact absurd (ht _ _ _ ha (hs _ _ hx')) (h1 x hx)
        · exact ⟨y', List.mem_append_right _ z, hx'⟩)
    simp only [List.length_cons, List.length_append] at this ⊢
    omega
theorem tp_Wl.ub {β : Type} {d : β → Nat → β} {ac : β → Prop} {V : β → Prop} {L M : List β} (h : tp_Wl d ac V M) (g : tp_D d ac V L) : L.length ≤ M.length :=
  tp_rl (q := tp_q d ac) (fun _ _ h => h.sy) (fun _ _ _ h g => h.tr g) L M g.2 (fun x hx => h.2 x (g.1 x hx).1 (g.1 x hx).2)
/-- more sets than may be -/
def tz_big (z : tr_Z) : Prop := ∃ L : List tz_S, L.Nodup ∧ L.length = 401 ∧ ∀ x ∈ L, tp_R (tz_d0 z) (tz_d z) x
/-- what set has to answer: -2 - k broken at k, -1 beyond a limit, else the number of states -/
def tz_ans (R : tr_Res) (u : Int) : Prop := match R with
  | Sum.inl k => u = -2 - (k : Int)
  | Sum.inr z => (tz_big z ∧ u = -1) ∨ ((∃ L, tp_A (tz_d0 z) (tz_d z) L ∧ L.length ≤ 400) ∧ ((∃ M, tp_D (tz_e z) (tz_ac z) (tz_V z) M ∧ M.length = 201 ∧ u = -1) ∨ ∃ M, tp_Wl (tz_e z) (tz_ac z) (tz_V z) M ∧ M.length ≤ 200 ∧ u = (M.length : Int)))
theorem tz_ans.eq {R : tr_Res} {u v : Int} (h : tz_ans R u) (g : tz_ans R v) : u = v := by
  cases R with
  | inl k => exact (show u = _ from h).trans (show v = _ from g).symm
  | inr z =>
    have bw : tz_big z → (∃ L, tp_A (tz_d0 z) (tz_d z) L ∧ L.length ≤ 400) → False := fun ⟨L, a1, a2, a3⟩ ⟨M, b1, b2⟩ => by
      have := b1.lt a1 a3
      omega
    rcases h with ⟨h1, h2⟩ | ⟨h1, h2⟩ <;> rcases g with ⟨g1, g2⟩ | ⟨g1, g2⟩
    · exact h2.trans g2.symm
    · exact (bw h1 g1).elim
    · exact (bw g1 h1).elim
    · rcases h2 with ⟨M, m1, m2, m3⟩ | ⟨M, m1, m2, m3⟩ <;> rcases g2 with ⟨L, l1, l2, l3⟩ | ⟨L, l1, l2, l3⟩
      · exact m3.trans l3.symm
      · have := l1.ub m1; omega
      · have := m1.ub l1; omega
      · have := m1.ub l1.1; have := l1.ub m1.1; omega
/-! numbered states: bs says what the state of a number is -/
theorem tp_run.n {β : Type} {d : β → Nat → β} {bs : Nat → β} {N : Nat} {nx : Nat → Nat → Nat} (hn : ∀ s b, s < N → b < 128 → nx s b < N ∧ d (bs s) b = bs (nx s b)) {s b : Nat} (w : List Nat) (hs : s < N) (hb : b < 128) : tp_run d (bs s) (b :: w) = tp_run d (bs (nx s b)) w := by
  show tp_run d (d (bs s) b) w = _
  rw [(hn s b hs hb).2]
theorem tp_lc {β : Type} {d : β → Nat → β} {ac : β → Prop} {bs : Nat → β} {N : Nat} {nx : Nat → Nat → Nat} (hn : ∀ s b, s < N → b < 128 → nx s b < N ∧ d (bs s) b = bs (nx s b)) {lv : Nat → Prop} (h0 : ∀ s, s < N → ac (bs s) → lv s) (h1 : ∀ s b, s < N → b < 128 → lv (nx s b) → lv s) : ∀ (w : List Nat) (s : Nat), s < N → tp_t w → ac (tp_run d (bs s) w) → lv s
  | [], s, hs, _, h => h0 s hs h
  | b :: w, s, hs, hw, h => by
    obtain ⟨hb, hw⟩ := List.forall_mem_cons.mp hw
    rw [tp_run.n hn w hs hb] at h
    exact h1 s b hs hb (tp_lc hn h0 h1 w (nx s b) (hn s b hs hb).1 hw h)
/-- living: what accepts, what leads to it -/
theorem tp_ls {β : Type} {d : β → Nat → β} {ac : β → Prop} {bs : Nat → β} {N : Nat} {nx : Nat → Nat → Nat} (hn : ∀ s b, s < N → b < 128 → nx s b < N ∧ d (bs s) b = bs (nx s b)) {s b : Nat} (hs : s < N) (hb : b < 128) (h : tp_l d ac (bs (nx s b))) : tp_l d ac (bs s) := by
  obtain ⟨w, hw, h⟩ := h
  exact ⟨b :: w, List.forall_mem_cons.mpr ⟨hb, hw⟩, by rw [tp_run.n hn w hs hb]; exact h⟩
/-- what no step tells apart -/
theorem tp_qi {β : Type} {d : β → Nat → β} {ac : β → Prop} {bs : Nat → β} {N : Nat} {nx : Nat → Nat → Nat} (hn : ∀ s b, s < N → b < 128 → nx s b < N ∧ d (bs s) b = bs (nx s b)) {f : Nat → Int} (h1 : ∀ s t, s < N → t < N → f s = f t → (ac (bs s) ↔ ac (bs t))) (h2 : ∀ s t b, b < 128 → s < N → t < N → f s = f t → f (nx s b) = f (nx t b)) :
    ∀ (w : List Nat) (s t : Nat), tp_t w → s < N → t < N → f s = f t → (ac (tp_run d (bs s) w) ↔ ac (tp_run d (bs t) w))
  | [], s, t, _, hs, ht, e => h1 s t hs ht e
  | b :: w, s, t, hw, hs, ht, e => by
    obtain ⟨hb, hw⟩ := List.forall_mem_cons.mp hw
    rw [tp_run.n hn w hs hb, tp_run.n hn w ht hb]
    exact tp_qi hn h1 h2 w _ _ hw (hn s b hs hb).1 (hn t b ht hb).1 (h2 s t b hb hs ht e)
theorem tp_qs {β : Type} {d : β → Nat → β} {ac : β → Prop} {bs : Nat → β} {N : Nat} {nx : Nat → Nat → Nat} (hn : ∀ s b, s < N → b < 128 → nx s b < N ∧ d (bs s) b = bs (nx s b)) {s t b : Nat} (hs : s < N) (ht : t < N) (hb : b < 128) (h : tp_q d ac (bs s) (bs t)) : tp_q d ac (bs (nx s b)) (bs (nx t b)) := by
  have := h.go hb
  rwa [(hn s b hs hb).2, (hn t b ht hb).2] at this
/-- all numbers below n come: none comes twice -/
theorem tp_si {n : Nat} {f : Nat → Nat} (hs : ∀ j, j < n → ∃ k, k < n ∧ f k = j) {k k' : Nat} (hk : k < n) (hk' : k' < n) (e : f k = f k') : k = k' := by
  refine Classical.byContradiction (fun ne => ?_)
  have h := tp_le (List.range n) (((List.range n).erase k').map f) List.nodup_range (fun j hj => by
    obtain ⟨i, hi, ei⟩ := hs j (List.mem_range.mp hj)
    by_cases x : i = k'
    · subst x
      exact List.mem_map.mpr ⟨k, (List.mem_erase_of_ne ne).mpr (List.mem_range.mpr hk), e.trans ei⟩
    · exact List.mem_map.mpr ⟨i, (List.mem_erase_of_ne x).mpr (List.mem_range.mpr hi), ei⟩)
  rw [List.length_map, List.length_erase_of_mem (List.mem_range.mpr hk'), List.length_range] at h
  omega
/-- a list of one for each number -/
theorem tp_mkD {β : Type} {d : β → Nat → β} {ac : β → Prop} {V : β → Prop} {bs : Nat → β} {N n : Nat} {g : Nat → Nat} (hV : ∀ s, s < N → V (bs s)) (hu : ∀ k, k < n → ∃ s, s < N ∧ tp_l d ac (bs s) ∧ g s = k) (hq : ∀ s t, s < N → t < N → tp_l d ac (bs s) → tp_q d ac (bs s) (bs t) → g s = g t) : ∀ m, m ≤ n → ∃ M : List β, tp_D d ac V M ∧ M.length = m ∧ (∀ k, k < m → ∃ s, s < N ∧ g s = k ∧ tp_l d ac (bs s) ∧ bs s ∈ M) ∧ ∀ x ∈ M, ∃ s, s < N ∧ g s < m ∧ x = bs s
  | 0, _ => ⟨[], ⟨fun _ h => absurd h List.not_mem_nil, List.Pairwise.nil⟩, rfl, fun k hk => absurd hk (Nat.not_lt_zero _), fun _ h => absurd h List.not_mem_nil⟩
  | m + 1, hm => by
    obtain ⟨M, h1, h2, h3, h4⟩ := tp_mkD hV hu hq m (by omega)
    obtain ⟨s, s1, s2, s3⟩ := hu m (by omega)
    refine ⟨bs s :: M, ⟨List.forall_mem_cons.mpr ⟨⟨hV s s1, s2⟩, h1.1⟩, List.Pairwise.cons (fun y hy hq' => ?_) h1.2⟩, by rw [List.length_cons, h2], fun k hk => ?_, List.forall_mem_cons.mpr ⟨⟨s, s1, by omega, rfl⟩, fun x hx => ?_⟩⟩
    · obtain ⟨t, t1, t2, rfl⟩ := h4 y hy
      have := hq s t s1 t1 s2 hq'
      omega
    · by_cases e : k = m
      · subst e
        exact ⟨s, s1, s3, s2, List.mem_cons_self⟩
      · obtain ⟨t, t1, t2, t3, t4⟩ := h3 k (by omega)
        exact ⟨t, t1, t2, t3, List.mem_cons_of_mem _ t4⟩
    · obtain ⟨t, t1, t2, t3⟩ := h4 x hx
      exact ⟨t, t1, by omega, t3⟩
theorem tp_mkW {β : Type} {d : β → Nat → β} {ac : β → Prop} {V : β → Prop} {bs : Nat → β} {N n : Nat} {g : Nat → Nat} (hV : ∀ s, s < N → V (bs s)) (hc : ∀ x, V x → ∃ s, s < N ∧ x = bs s) (hu : ∀ k, k < n → ∃ s, s < N ∧ tp_l d ac (bs s) ∧ g s = k) (hb : ∀ s, s < N → tp_l d ac (bs s) → g s < n) (hq : ∀ s t, s < N → t < N → tp_l d ac (bs s) → tp_q d ac (bs s) (bs t) → g s = g t) (hs : ∀ s t, s < N → t < N → tp_l d ac (bs s) → tp_l d ac (bs t) → g s = g t → tp_q d ac (bs s) (bs t)) : ∃ M : List β, tp_Wl d ac V M ∧ M.length = n := by
  obtain ⟨M, h1, h2, h3, h4⟩ := tp_mkD hV hu hq n (Nat.le_refl _)
  refine ⟨M, ⟨h1, fun x hx hl => ?_⟩, h2⟩
  obtain ⟨s, s1, rfl⟩ := hc x hx
  obtain ⟨t, t1, t2, t3, t4⟩ := h3 (g s) (hb s s1 hl)
  exact ⟨bs t, t4, hs s t s1 t1 hl t3 t2.symm⟩
/-! one round of telling apart: fk are the first of each new number -/
def tp_al (f : Nat → Int) (nx : Nat → Nat → Nat) (s t : Nat) : Prop := f s = f t ∧ ∀ b, b < 128 → f (nx s b) = f (nx t b)
theorem tp_al.rf {f : Nat → Int} {nx : Nat → Nat → Nat} {s : Nat} : tp_al f nx s s := ⟨rfl, fun _ _ => rfl⟩
theorem tp_al.sy {f : Nat → Int} {nx : Nat → Nat → Nat} {s t : Nat} (h : tp_al f nx s t) : tp_al f nx t s := ⟨h.1.symm, fun b hb => (h.2 b hb).symm⟩
theorem tp_al.tr {f : Nat → Int} {nx : Nat → Nat → Nat} {s t u : Nat} (h : tp_al f nx s t) (g : tp_al f nx t u) : tp_al f nx s u := ⟨h.1.trans g.1, fun b hb => (h.2 b hb).trans (g.2 b hb)⟩
/-- as many new numbers as old ones: nothing was told apart -/
theorem tp_stab {N m : Nat} {lv : Nat → Prop} {f : Nat → Int} {nx : Nat → Nat → Nat} {nk fk : Nat → Nat} (hf : ∀ s, s < N → lv s → 0 ≤ f s) (hu : m ≤ 1 ∨ ((∀ j, j < m → ∃ s, s < N ∧ lv s ∧ f s = (j : Int)) ∧ ∀ s, s < N → lv s → f s < (m : Int))) (hk : ∀ s, s < N → lv s → nk s < m ∧ tp_al f nx (fk (nk s)) s) {s t : Nat} (hs : s < N) (ht : t < N) (ls : lv s) (lt : lv t) (e : f s = f t) : tp_al f nx s t := by
  obtain ⟨s1, s2⟩ := hk s hs ls
  obtain ⟨t1, t2⟩ := hk t ht lt
  have key : nk s = nk t := by
    rcases hu with hu | ⟨hu, hv⟩
    · omega
    · refine tp_si (n := m) (f := fun k => (f (fk k)).toNat) (fun j hj => ?_) s1 t1 ?_
      · obtain ⟨u, u1, u2, u3⟩ := hu j hj
        obtain ⟨v1, v2⟩ := hk u u1 u2
        refine ⟨nk u, v1, ?_⟩
        show (f (fk (nk u))).toNat = j
        rw [v2.1, u3]
        rfl
      · show (f (fk (nk s))).toNat = (f (fk (nk t))).toNat
        rw [s2.1, t2.1, e]
  rw [key] at s2
  exact s2.sy.tr t2
