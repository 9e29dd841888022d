/-! ===== the reference's program while it is laid: f what, g how far, of mn instructions with mk masks; depth D, at each depth a group, a choice and the jumps that wait (a list, the chain runs through g) ===== -/
def pq_li (g : Nat → Int32) : List Nat → Int32 → Prop
  | [], x => x = -1
  | i :: t, x => x.toInt = (i : Int) ∧ pq_li g t (g i)
theorem pq_li.congr {g g2 : Nat → Int32} : ∀ (L : List Nat) (x : Int32), pq_li g L x → (∀ i ∈ L, g2 i = g i) → pq_li g2 L x
  | [], _, h, _ => h
  | i :: t, x, h, he => ⟨h.1, by
      rw [he i List.mem_cons_self]
      exact pq_li.congr t _ h.2 (fun j hj => he j (List.mem_cons_of_mem _ hj))⟩
def pq_de : List Nat → Prop
  | [] => True
  | i :: t => (∀ j ∈ t, j < i) ∧ pq_de t
theorem pq_li.cn {lo : Int} {g : Nat → Int32} : ∀ (L : List Nat) (x : Int32), pq_li g L x → pq_de L → (∀ i ∈ L, lo ≤ (i : Int)) → pq_cn lo g L.length x
  | [], _, h, _, _ => h
  | i :: t, x, h, hd, hl => by
    have h1 := hl i List.mem_cons_self
    have hx : 0 ≤ x.toInt := by rw [h.1]; omega
    have ei : x.toNatClampNeg = i := by have := pq_cl hx; have := h.1; omega
    refine Or.inr ⟨hx, by rw [h.1]; exact h1, ?_, ?_⟩
    · rw [ei, h.1]
      match t, h.2, hd with
      | [], h2, _ => rw [show g i = -1 from h2]; have : (-1 : Int32).toInt = -1 := rfl; omega
      | j :: t2, h2, hd => have h3 := hd.1 j List.mem_cons_self; have := h2.1; omega
    · rw [ei]
      exact pq_li.cn t _ h.2 hd.2 (fun j hj => hl j (List.mem_cons_of_mem _ hj))
/-- an instruction at i that may stand there -/
def pq_ik (f g : Nat → Int32) (P : Nat → Prop) (mn mk : Nat) (i : Nat) : Prop := (f i = 0 ∧ 0 ≤ (g i).toInt ∧ (g i).toInt < (mk : Int)) ∨ (f i = 1 ∧ 0 ≤ (i : Int) + (g i).toInt ∧ (i : Int) + (g i).toInt ≤ (mn : Int)) ∨ (f i = 2 ∧ ((0 ≤ (i : Int) + (g i).toInt ∧ (i : Int) + (g i).toInt ≤ (mn : Int)) ∨ P i))
def pq_Pi (f g G C N : Nat → Int32) (Ls : Nat → List Nat) (D mn mk : Nat) : Prop :=
  (∀ d, d ≤ D → 0 ≤ (G d).toInt ∧ (G d).toInt ≤ (C d).toInt ∧ (C d).toInt ≤ (mn : Int)) ∧ (∀ d, d < D → (C d).toInt ≤ (G (d + 1)).toInt) ∧
  (∀ d, d ≤ D → pq_li g (Ls d) (N d) ∧ (∀ i ∈ Ls d, (G d).toInt ≤ (i : Int) ∧ (i : Int) < (C d).toInt ∧ f i = 2) ∧ pq_de (Ls d)) ∧
  (∀ i, i < mn → pq_ik f g (fun i => ∃ d, d ≤ D ∧ i ∈ Ls d) mn mk i) ∧ (∀ p, p < mk → ∃ i, i < mn ∧ f i = 0 ∧ (g i).toInt = (p : Int)) ∧ pq_z f mn ≤ mk
theorem pq_z_congr {f f2 : Nat → Int32} : ∀ n, (∀ i, i < n → f2 i = f i) → pq_z f2 n = pq_z f n
  | 0, _ => rfl
  | n + 1, h => by simp only [pq_z, h n (by omega), pq_z_congr n (fun i hi => h i (by omega))]
section PI
variable {f g G C N f2 g2 : Nat → Int32} {Ls : Nat → List Nat} {D mn mk : Nat}
theorem pq_Pi.mono (H : pq_Pi f g G C N Ls D mn mk) {d : Nat} (hd : d ≤ D) : ∀ e, d + e ≤ D → (C d).toInt ≤ (C (d + e)).toInt
  | 0, _ => Int.le_refl _
  | e + 1, h => by
    have h1 := H.mono hd e (by omega)
    have h2 := H.2.1 (d + e) (by omega)
    have h3 := H.1 (d + e + 1) (by omega)
    show (C d).toInt ≤ (C (d + e + 1)).toInt
    omega
/-- what waits lies below the innermost choice -/
theorem pq_Pi.below (H : pq_Pi f g G C N Ls D mn mk) {d i : Nat} (hd : d ≤ D) (hi : i ∈ Ls d) : (i : Int) < (C D).toInt := by
  have h1 := ((H.2.2.1 d hd).2.1 i hi).2.1
  have h2 := H.mono hd (D - d) (by omega)
  rw [show d + (D - d) = D by omega] at h2
  omega
/-- one more instruction at the end -/
theorem pq_Pi.lay (H : pq_Pi f g G C N Ls D mn mk) (h1 : ∀ i, i < mn → f2 i = f i ∧ g2 i = g i) {mk2 : Nat} (hw : (f2 mn = 0 ∧ (g2 mn).toInt = (mk : Int) ∧ mk2 = mk + 1) ∨ ((f2 mn = 1 ∨ f2 mn = 2) ∧ 0 ≤ (mn : Int) + (g2 mn).toInt ∧ (mn : Int) + (g2 mn).toInt ≤ (mn : Int) + 1 ∧ mk2 = mk)) : pq_Pi f2 g2 G C N Ls D (mn + 1) mk2 := by
  have hk : mk ≤ mk2 := by rcases hw with h | h <;> omega
  have z1 : pq_z f2 mn = pq_z f mn := pq_z_congr mn (fun i hi => (h1 i hi).1)
  refine ⟨fun d hd => ?_, H.2.1, fun d hd => ?_, fun i hi => ?_, fun p hp => ?_, ?_⟩
  · have := H.1 d hd; omega
  · obtain ⟨a1, a2, a3⟩ := H.2.2.1 d hd
    have lt : ∀ i ∈ Ls d, i < mn := fun i hi => by have := H.below hd hi; have := H.1 D (Nat.le_refl _); omega
    exact ⟨a1.congr _ _ (fun i hi => (h1 i (lt i hi)).2), fun i hi => ⟨(a2 i hi).1, (a2 i hi).2.1, by rw [(h1 i (lt i hi)).1]; exact (a2 i hi).2.2⟩, a3⟩
  · by_cases e : i = mn
    · subst e
      rcases hw with ⟨w1, w2, w3⟩ | ⟨w1, w2, w3, -⟩
      · exact Or.inl ⟨w1, by omega, by omega⟩
      · rcases w1 with w1 | w1
        · exact Or.inr (Or.inl ⟨w1, w2, by omega⟩)
        · exact Or.inr (Or.inr ⟨w1, Or.inl ⟨w2, by omega⟩⟩)
    · have hi2 : i < mn := by omega
      have := H.2.2.2.1 i hi2
      unfold pq_ik at this ⊢
      rw [(h1 i hi2).1, (h1 i hi2).2]
      rcases this with a | a | ⟨a, b | b⟩
      · exact Or.inl ⟨a.1, a.2.1, by omega⟩
      · exact Or.inr (Or.inl ⟨a.1, a.2.1, by omega⟩)
      · exact Or.inr (Or.inr ⟨a, Or.inl ⟨b.1, by omega⟩⟩)
      · exact Or.inr (Or.inr ⟨a, Or.inr b⟩)
  · by_cases e : p < mk
    · obtain ⟨i, a1, a2, a3⟩ := H.2.2.2.2.1 p e
      exact ⟨i, by omega, by rw [(h1 i a1).1]; exact a2, by rw [(h1 i a1).2]; exact a3⟩
    · rcases hw with ⟨w1, w2, w3⟩ | ⟨-, -, -, w3⟩
      · exact ⟨mn, by omega, w1, by omega⟩
      · omega
  · have hz := H.2.2.2.2.2
    simp only [pq_z, z1]
    rcases hw with ⟨w1, w2, w3⟩ | ⟨w1, -, -, w3⟩
    · rw [if_pos w1]; omega
    · rw [if_neg (by rcases w1 with w1 | w1 <;> rw [w1] <;> decide)]; omega
theorem pq_z_ins {f f2 : Nat → Int32} {q : Nat} (h1 : ∀ i, i < q → f2 i = f i) (h2 : ¬ f2 q = 0) : ∀ n, (∀ i, q ≤ i → i < q + n → f2 (i + 1) = f i) → pq_z f2 (q + n + 1) = pq_z f (q + n)
  | 0, _ => by simp only [Nat.add_zero, pq_z, if_neg h2, pq_z_congr q h1]
  | n + 1, h => by
    have ih := pq_z_ins h1 h2 n (fun i hi hj => h i hi (by omega))
    show pq_z f2 (q + n + 1) + (if f2 (q + n + 1) = 0 then 1 else 0) = pq_z f (q + n) + (if f (q + n) = 0 then 1 else 0)
    rw [ih, h (q + n) (by omega) (by omega)]
/-- a split put in at q, behind all that waits: what stands from q on moves by one -/
theorem pq_Pi.ins (H : pq_Pi f g G C N Ls D mn mk) {q : Nat} (hq : (C D).toInt ≤ (q : Int)) (hq2 : q ≤ mn) (h1 : ∀ i, i < q → f2 i = f i ∧ g2 i = g i) (h2 : ∀ i, q ≤ i → i < mn → f2 (i + 1) = f i ∧ g2 (i + 1) = g i) (h3 : f2 q = 1) {mm : Nat} (hm : mn + 1 ≤ mm) (h4 : (q : Int) + (g2 q).toInt ≤ (mm : Int)) (h5 : 0 ≤ (q : Int) + (g2 q).toInt)
    (hmm : ∀ i, mn + 1 ≤ i → i < mm → (f2 i = 2 ∧ 0 ≤ (i : Int) + (g2 i).toInt ∧ (i : Int) + (g2 i).toInt ≤ (mm : Int))) : pq_Pi f2 g2 G C N Ls D mm mk := by
  have hlow : ∀ d, d ≤ D → ∀ i ∈ Ls d, i < q := fun d hd i hi => by have := H.below hd hi; omega
  refine ⟨fun d hd => ?_, H.2.1, fun d hd => ?_, fun i hi => ?_, fun p hp => ?_, ?_⟩
  · have := H.1 d hd; omega
  · obtain ⟨a1, a2, a3⟩ := H.2.2.1 d hd
    exact ⟨a1.congr _ _ (fun i hi => (h1 i (hlow d hd i hi)).2), fun i hi => ⟨(a2 i hi).1, (a2 i hi).2.1, by rw [(h1 i (hlow d hd i hi)).1]; exact (a2 i hi).2.2⟩, a3⟩
  · by_cases c1 : i < q
    · have := H.2.2.2.1 i (by omega)
      unfold pq_ik at this ⊢
      rw [(h1 i c1).1, (h1 i c1).2]
      rcases this with a | a | ⟨a, b | b⟩
      · exact Or.inl a
      · exact Or.inr (Or.inl ⟨a.1, a.2.1, by omega⟩)
      · exact Or.inr (Or.inr ⟨a, Or.inl ⟨b.1, by omega⟩⟩)
      · exact Or.inr (Or.inr ⟨a, Or.inr b⟩)
    · by_cases c2 : i = q
      · subst c2
        exact Or.inr (Or.inl ⟨h3, h5, h4⟩)
      · by_cases c3 : i < mn + 1
        · obtain ⟨j, rfl⟩ : ∃ j, i = j + 1 := ⟨i - 1, by omega⟩
          obtain ⟨e1, e2⟩ := h2 j (by omega) (by omega)
          have := H.2.2.2.1 j (by omega)
          unfold pq_ik at this ⊢
          rw [e1, e2]
          rcases this with a | a | ⟨a, b | b⟩
          · exact Or.inl a
          · exact Or.inr (Or.inl ⟨a.1, by omega, by omega⟩)
          · exact Or.inr (Or.inr ⟨a, Or.inl ⟨by omega, by omega⟩⟩)
          · obtain ⟨d, hd, hj⟩ := b
            have := hlow d hd j hj
            omega
        · obtain ⟨b1, b2, b3⟩ := hmm i (by omega) hi
          exact Or.inr (Or.inr ⟨b1, Or.inl ⟨b2, b3⟩⟩)
  · obtain ⟨i, a1, a2, a3⟩ := H.2.2.2.2.1 p hp
    by_cases c1 : i < q
    · exact ⟨i, by omega, by rw [(h1 i c1).1]; exact a2, by rw [(h1 i c1).2]; exact a3⟩
    · obtain ⟨e1, e2⟩ := h2 i (by omega) a1
      exact ⟨i + 1, by omega, by rw [e1]; exact a2, by rw [e2]; exact a3⟩
  · have hz := H.2.2.2.2.2
    have e1 := pq_z_ins (fun i hi => (h1 i hi).1) (by rw [h3]; decide) (mn - q) (fun i a b => (h2 i a (by omega)).1)
    rw [show q + (mn - q) = mn by omega] at e1
    have e2 : ∀ k, mn + 1 + k ≤ mm → pq_z f2 (mn + 1 + k) = pq_z f2 (mn + 1) := by
      intro k
      induction k with
      | zero => intro _; rfl
      | succ k ih =>
        intro hk
        show pq_z f2 (mn + 1 + k) + (if f2 (mn + 1 + k) = 0 then 1 else 0) = _
        rw [if_neg (by rw [(hmm (mn + 1 + k) (by omega) (by omega)).1]; decide), ih (by omega)]
        rfl
    have e3 := e2 (mm - (mn + 1)) (by omega)
    rw [show mn + 1 + (mm - (mn + 1)) = mm by omega] at e3
    rw [e3, e1]; exact hz
/-- another choice: a jump that waits is laid behind it -/
theorem pq_Pi.alt (H : pq_Pi f g G C N Ls D mn mk) (h1 : ∀ i, i < mn → f2 i = f i ∧ g2 i = g i) (h2 : f2 mn = 2) (h3 : g2 mn = N D) {x y : Int32} (hx : x.toInt = (mn : Int)) (hy : y.toInt = (mn : Int) + 1) : pq_Pi f2 g2 G (upd C D y) (upd N D x) (fun d => if d = D then mn :: Ls D else Ls d) D (mn + 1) mk := by
  have hin : ∀ d, d ≤ D → ∀ i ∈ Ls d, i < mn := fun d hd i hi => by have := H.below hd hi; have := H.1 D (Nat.le_refl _); omega
  refine ⟨fun d hd => ?_, fun d hd => ?_, fun d hd => ?_, fun i hi => ?_, fun p hp => ?_, ?_⟩
  · have := H.1 d hd
    by_cases e : d = D
    · subst e; rw [pk_us]; omega
    · rw [pk_un e]; omega
  · rw [pk_un (show d ≠ D by omega)]; exact H.2.1 d hd
  · obtain ⟨a1, a2, a3⟩ := H.2.2.1 d hd
    have a1' : pq_li g2 (Ls d) (N d) := a1.congr _ _ (fun i hi => (h1 i (hin d hd i hi)).2)
    have b := H.1 d hd
    by_cases e : d = D
    · subst e
      (try dsimp only); rw [pk_us, pk_us, if_pos rfl]
      refine ⟨⟨hx, by rw [h3]; exact a1'⟩, fun i hi => ?_, fun j hj => hin d hd j hj, a3⟩
      rcases List.mem_cons.mp hi with e | hi
      · subst e; exact ⟨by omega, by omega, h2⟩
      · obtain ⟨c1, c2, c3⟩ := a2 i hi
        exact ⟨c1, by omega, by rw [(h1 i (hin d hd i hi)).1]; exact c3⟩
    · (try dsimp only); rw [pk_un e, pk_un e, if_neg e]
      exact ⟨a1', fun i hi => ⟨(a2 i hi).1, (a2 i hi).2.1, by rw [(h1 i (hin d hd i hi)).1]; exact (a2 i hi).2.2⟩, a3⟩
  · have up : ∀ j, (∃ d, d ≤ D ∧ j ∈ Ls d) → ∃ d, d ≤ D ∧ j ∈ (if d = D then mn :: Ls D else Ls d) := fun j ⟨d, hd, hj⟩ => ⟨d, hd, by
      by_cases e : d = D
      · (try dsimp only); rw [if_pos e]; rw [e] at hj; exact List.mem_cons_of_mem _ hj
      · (try dsimp only); rw [if_neg e]; exact hj⟩
    by_cases e : i = mn
    · subst e
      exact Or.inr (Or.inr ⟨h2, Or.inr ⟨D, Nat.le_refl _, by (try dsimp only); rw [if_pos rfl]; exact List.mem_cons_self⟩⟩)
    · have hi2 : i < mn := by omega
      have := H.2.2.2.1 i hi2
      unfold pq_ik at this ⊢
      rw [(h1 i hi2).1, (h1 i hi2).2]
      rcases this with a | a | ⟨a, b | b⟩
      · exact Or.inl a
      · exact Or.inr (Or.inl ⟨a.1, a.2.1, by omega⟩)
      · exact Or.inr (Or.inr ⟨a, Or.inl ⟨b.1, by omega⟩⟩)
      · exact Or.inr (Or.inr ⟨a, Or.inr (up i b)⟩)
  · obtain ⟨i, a1, a2, a3⟩ := H.2.2.2.2.1 p hp
    exact ⟨i, by omega, by rw [(h1 i a1).1]; exact a2, by rw [(h1 i a1).2]; exact a3⟩
  · have hz := H.2.2.2.2.2
    simp only [pq_z, pq_z_congr mn (fun i hi => (h1 i hi).1)]
    rw [if_neg (by rw [h2]; decide)]; omega
theorem pq_Pi.opn (H : pq_Pi f g G C N Ls D mn mk) {x : Int32} (hx : x.toInt = (mn : Int)) : pq_Pi f g (upd G (D + 1) x) (upd C (D + 1) x) (upd N (D + 1) (-1)) (fun d => if d = D + 1 then [] else Ls d) (D + 1) mn mk := by
  refine ⟨fun d hd => ?_, fun d hd => ?_, fun d hd => ?_, fun i hi => ?_, H.2.2.2.2.1, H.2.2.2.2.2⟩
  · by_cases e : d = D + 1
    · subst e; rw [pk_us, pk_us]; omega
    · rw [pk_un e, pk_un e]; exact H.1 d (by omega)
  · rw [pk_un (show d ≠ D + 1 by omega)]
    by_cases e : d = D
    · subst e; rw [pk_us]; have := H.1 d (Nat.le_refl _); omega
    · rw [pk_un (show d + 1 ≠ D + 1 by omega)]; exact H.2.1 d (by omega)
  · by_cases e : d = D + 1
    · subst e
      (try dsimp only); rw [pk_us, if_pos rfl]
      exact ⟨rfl, fun i hi => absurd hi List.not_mem_nil, trivial⟩
    · (try dsimp only); rw [pk_un e, pk_un e, pk_un e, if_neg e]; exact H.2.2.1 d (by omega)
  · have := H.2.2.2.1 i hi
    unfold pq_ik at this ⊢
    rcases this with a | a | ⟨a, b | ⟨d, hd, hj⟩⟩
    · exact Or.inl a
    · exact Or.inr (Or.inl a)
    · exact Or.inr (Or.inr ⟨a, Or.inl b⟩)
    · exact Or.inr (Or.inr ⟨a, Or.inr ⟨d, by omega, by (try dsimp only); rw [if_neg (show d ≠ D + 1 by omega)]; exact hj⟩⟩)
/-- what waits at the innermost depth lands -/
theorem pq_Pi.land (H : pq_Pi f g G C N Ls D mn mk) (h1 : ∀ i, i ∉ Ls D → g2 i = g i) (h2 : ∀ i ∈ Ls D, (i : Int) + (g2 i).toInt = (mn : Int)) : (∀ i, i < mn → pq_ik f g2 (fun i => ∃ d, d < D ∧ i ∈ Ls d) mn mk i) ∧ (∀ p, p < mk → ∃ i, i < mn ∧ f i = 0 ∧ (g2 i).toInt = (p : Int)) ∧ ∀ d, d < D → pq_li g2 (Ls d) (N d) := by
  have dis : ∀ d, d < D → ∀ i ∈ Ls d, i ∉ Ls D := fun d hd i hi hj => by
    have a := ((H.2.2.1 d (by omega)).2.1 i hi).2.1
    have b := ((H.2.2.1 D (Nat.le_refl _)).2.1 i hj).1
    have c := H.mono (d := d) (by omega) (D - 1 - d) (by omega)
    rw [show d + (D - 1 - d) = D - 1 by omega] at c
    have e := H.2.1 (D - 1) (by omega)
    rw [show D - 1 + 1 = D by omega] at e
    omega
  have is2 : ∀ i ∈ Ls D, f i = 2 := fun i hi => ((H.2.2.1 D (Nat.le_refl _)).2.1 i hi).2.2
  refine ⟨fun i hi => ?_, fun p hp => ?_, fun d hd => ?_⟩
  · have := H.2.2.2.1 i hi
    unfold pq_ik at this ⊢
    by_cases e : i ∈ Ls D
    · have k := h2 i e
      exact Or.inr (Or.inr ⟨is2 i e, Or.inl ⟨by omega, by omega⟩⟩)
    · rw [h1 i e]
      rcases this with a | a | ⟨a, b | ⟨d, hd, hj⟩⟩
      · exact Or.inl a
      · exact Or.inr (Or.inl a)
      · exact Or.inr (Or.inr ⟨a, Or.inl b⟩)
      · by_cases e2 : d = D
        · subst e2; exact absurd hj e
        · exact Or.inr (Or.inr ⟨a, Or.inr ⟨d, by omega, hj⟩⟩)
  · obtain ⟨i, a1, a2, a3⟩ := H.2.2.2.2.1 p hp
    refine ⟨i, a1, a2, ?_⟩
    rw [h1 i (fun e => by have := is2 i e; rw [a2] at this; exact absurd this (by decide))]; exact a3
  · exact ((H.2.2.1 d (by omega)).1).congr _ _ (fun i hi => h1 i (dis d hd i hi))
theorem pq_Pi.close (H : pq_Pi f g G C N Ls (D + 1) mn mk) (h1 : ∀ i, i ∉ Ls (D + 1) → g2 i = g i) (h2 : ∀ i ∈ Ls (D + 1), (i : Int) + (g2 i).toInt = (mn : Int)) : pq_Pi f g2 G C N Ls D mn mk := by
  obtain ⟨k1, k2, k3⟩ := H.land h1 h2
  refine ⟨fun d hd => H.1 d (by omega), fun d hd => H.2.1 d (by omega), fun d hd => ⟨k3 d (by omega), (H.2.2.1 d (by omega)).2⟩, fun i hi => ?_, k2, H.2.2.2.2.2⟩
  have := k1 i hi
  unfold pq_ik at this ⊢
  rcases this with a | a | ⟨a, b | ⟨d, hd, hj⟩⟩
  · exact Or.inl a
  · exact Or.inr (Or.inl a)
  · exact Or.inr (Or.inr ⟨a, Or.inl b⟩)
  · exact Or.inr (Or.inr ⟨a, Or.inr ⟨d, by omega, hj⟩⟩)
/-- all that is said of a whole program: jumps stay within, each mask has its byte, and behind each byte something stands -/
def pq_Pf (f g : Nat → Int32) (n mk : Nat) : Prop := pq_pw f g n (mk : Int) ∧ pq_z f n ≤ mk ∧ ∀ p, p < mk → (∃ i, i + 1 < n ∧ f i = 0 ∧ (g i).toInt = (p : Int)) ∧ ∀ i, i < n → f i = 0 → i + 1 < n
theorem pq_Pi.fin (H : pq_Pi f g G C N Ls 0 mn mk) {g3 f3 : Nat → Int32} (h1 : ∀ i, i ∉ Ls 0 → g2 i = g i) (h2 : ∀ i ∈ Ls 0, (i : Int) + (g2 i).toInt = (mn : Int)) (h3 : ∀ i, i < mn → f3 i = f i ∧ g3 i = g2 i) (h4 : f3 mn = 3) : pq_Pf f3 g3 (mn + 1) mk := by
  obtain ⟨k1, k2, -⟩ := H.land h1 h2
  refine ⟨fun i hi => ?_, ?_, fun p hp => ⟨?_, fun i hi hz => ?_⟩⟩
  · by_cases e : i = mn
    · subst e
      exact ⟨fun z => absurd (h4.symm.trans z) (by decide), fun _ z => absurd h4 z⟩
    · have hi2 : i < mn := by omega
      have := k1 i hi2
      unfold pq_ik at this
      rw [(h3 i hi2).1, (h3 i hi2).2]
      rcases this with ⟨a, b⟩ | ⟨a, b⟩ | ⟨a, b | ⟨d, hd, -⟩⟩
      · exact ⟨fun _ => b, fun z => absurd a z⟩
      · exact ⟨fun z => absurd (a.symm.trans z) (by decide), fun _ _ => ⟨b.1, by omega, fun _ => by omega⟩⟩
      · exact ⟨fun z => absurd (a.symm.trans z) (by decide), fun _ _ => ⟨b.1, by omega, fun z => absurd (a.symm.trans z) (by decide)⟩⟩
      · omega
  · have hz := H.2.2.2.2.2
    simp only [pq_z, pq_z_congr mn (fun i hi => (h3 i hi).1)]
    rw [if_neg (by rw [h4]; decide)]; omega
  · obtain ⟨i, a1, a2, a3⟩ := k2 p hp
    exact ⟨i, by omega, by rw [(h3 i a1).1]; exact a2, by rw [(h3 i a1).2]; exact a3⟩
  · by_cases e : i = mn
    · rw [e, h4] at hz; exact absurd hz (by decide)
    · omega
theorem pq_Pi.start {x y : Int32} (hx : x.toInt = 0) : pq_Pi f g (upd G 0 x) (upd C 0 x) (upd N 0 (-1)) (fun _ => []) 0 0 0 := by
  refine ⟨fun d hd => ?_, fun d hd => absurd hd (Nat.not_lt_zero _), fun d hd => ?_, fun i hi => absurd hi (Nat.not_lt_zero _), fun p hp => absurd hp (Nat.not_lt_zero _), Nat.le_refl _⟩
  · have e : d = 0 := by omega
    subst e
    rw [pk_us, pk_us]; omega
  · have e : d = 0 := by omega
    subst e
    rw [pk_us]
    exact ⟨rfl, fun i hi => absurd hi List.not_mem_nil, trivial⟩
end PI

set_option maxHeartbeats 4000000 in
set_option maxRecDepth 100000 in
theorem k_X11_landR (l : Launch) (D : va_G) (cy : Nat → ClassId) (S : HS) (a : Nat) (ha : pq_R S a 14) (dp : Int32) (hdp0 : 0 ≤ dp.toInt) (hdp1 : dp.toInt ≤ 40) (aa ac mn : Nat) (Lw : List Nat) (y : Int32) (f5 : hO S a 5 = .ref aa) (haa : pq_R S aa 121) (f6 : hO S a 6 = .int y) (hy : y.toInt = (mn : Int)) (hmn : mn ≤ 8192) (hle : mn ≤ hN S aa) (f15 : hO S a 15 = .ref ac) (hac : pq_R S ac 124) (hLw : pq_li (hI S aa) Lw (hI S ac dp.toNatClampNeg)) (hde : pq_de Lw) (hlm : ∀ i ∈ Lw, i < mn) : pq_C l D cy yX11_land cX11_land 4 (none) 1 0 0 S [.ref a, .int dp] (fun v S2 => v = none ∧ pq_Fr [(121, 0)] S S2 ∧ ((∀ i, i ∉ Lw → hI S2 aa i = hI S aa i) ∧ ∀ i ∈ Lw, (i : Int) + (hI S2 aa i).toInt = (mn : Int))) := by
  refine pq_start (by decide) (Nat.le_of_ble_eq_true rfl) ?_
  intro p e s m args below meth c A F hr hlk hnm hA
  have lqm1 : (-1 : Int32).toInt = -1 := rfl
  have lq0 : (0 : Int32).toInt = 0 := rfl
  have lq1 : (1 : Int32).toInt = 1 := rfl
  have L7 : ∀  (fu : Nat) (S1 : HS) (j : Int32) (L1 : List Nat) (hF : pq_Fr [(121, 0)] S S1) (hL1 : pq_li (hI S1 aa) L1 j) (hd1 : pq_de L1) (hsub : ∀ i ∈ L1, i ∈ Lw) (h1 : ∀ i, i ∉ Lw → hI S1 aa i = hI S aa i) (h2 : ∀ i ∈ Lw, i ∉ L1 → (i : Int) + (hI S1 aa i).toInt = (mn : Int)), L1.length < fu → pq_At p l e (pq_rm 1 0 0) s m args below meth c (pq_Z below args s D cy S 0 0 (fun v S2 => v = none ∧ pq_Fr [(121, 0)] S S2 ∧ ((∀ i, i ∉ Lw → hI S2 aa i = hI S aa i) ∧ ∀ i ∈ Lw, (i : Int) + (hI S2 aa i).toInt = (mn : Int)))) D cy A 4 0 0 7 S1 [some (.ref a), some (.int dp), some (.int j), none] [] := by
    intro  fu
    induction fu with
    | zero => intro S1 j L1 hF hL1 hd1 hsub h1 h2 hm; exact absurd hm (Nat.not_lt_zero _)
    | succ fu ih =>
      intro S1 j L1 hF hL1 hd1 hsub h1 h2 hm
      have haL := hF.R ha (by first | decide | omega)
      have f5L := hF.O ha (by decide) (by decide) f5
      have haaL := hF.R haa (by decide)
      have f6L := hF.O ha (by decide) (by decide) f6
      have hNa : hN S1 aa = hN S aa := (hF.1 aa 121 haa (by decide)).2
      refine pq_iload_n F dX11_land_7 rfl rfl ?_
      refine pq_iconst (v := -1) F dX11_land_8 (by decide) ?_
      refine pq_icmp_eq (tgt := 36) F dX11_land_9 (by decide) (fun c9 => ?_) (fun c9 => ?_)
      · skip
        exact pq_vret F hr hlk hA (Nat.le_refl _) (Nat.le_refl _) (⟨rfl, hF, h1, fun i hi => h2 i hi (by cases L1 with | nil => exact List.not_mem_nil | cons i9 t9 => exact absurd hL1.1 (by rw [c9]; have : (-1 : Int32).toInt = -1 := rfl; omega))⟩) dX11_land_36
      · skip
        obtain ⟨i9, t9, rfl⟩ : ∃ i9 t9, L1 = i9 :: t9 := (by cases L1 with | nil => exact absurd hL1 c9 | cons i9 t9 => exact ⟨i9, t9, rfl⟩)
        obtain ⟨hj9, hL9⟩ := hL1
        have hi9 := hlm i9 (hsub i9 List.mem_cons_self)
        have ej : j.toNatClampNeg = i9 := (by have := pq_cl (x := j) (by focus ((try clear hLw); (try clear hde); (try clear hlm); (try clear hL1); (try clear hd1); (try clear hsub); (try clear h1); (try clear h2); (try clear hL9); (try clear hd9); (try clear hsub9); simp only [vp_in_iff, Int32.lt_iff_toInt_lt, Int32.le_iff_toInt_le, ← Int32.toInt_inj, Int32.toInt_add, Int32.toInt_sub, Int32.toInt_mul, Int32.toInt_neg, pq_NuO, pq_NuI, pq_NuJ, pq_NuR, pq_shr6, pq_shr7, pq_shr8, lqm1, lq0, lq1] at *; (try simp (disch := omega) only [pq_bm] at *); all_goals omega)); focus ((try clear hLw); (try clear hde); (try clear hlm); (try clear hL1); (try clear hd1); (try clear hsub); (try clear h1); (try clear h2); (try clear hL9); (try clear hd9); (try clear hsub9); simp only [vp_in_iff, Int32.lt_iff_toInt_lt, Int32.le_iff_toInt_le, ← Int32.toInt_inj, Int32.toInt_add, Int32.toInt_sub, Int32.toInt_mul, Int32.toInt_neg, pq_NuO, pq_NuI, pq_NuJ, pq_NuR, pq_shr6, pq_shr7, pq_shr8, lqm1, lq0, lq1] at *; (try simp (disch := omega) only [pq_bm] at *); all_goals omega))
        refine pq_aload_n F dX11_land_12 rfl rfl ?_
        refine pq_get F haL (by decide) lk_X11_20 f5L dX11_land_13 ?_
        refine pq_iload_n F dX11_land_16 rfl rfl ?_
        refine pq_iald F haaL (by decide) (by decide) rfl (fun n1_17 n2_17 => (by focus ((try clear hLw); (try clear hde); (try clear hlm); (try clear hL1); (try clear hd1); (try clear hsub); (try clear h1); (try clear h2); (try clear hL9); (try clear hd9); (try clear hsub9); simp only [vp_in_iff, Int32.lt_iff_toInt_lt, Int32.le_iff_toInt_le, ← Int32.toInt_inj, Int32.toInt_add, Int32.toInt_sub, Int32.toInt_mul, Int32.toInt_neg, pq_NuO, pq_NuI, pq_NuJ, pq_NuR, pq_shr6, pq_shr7, pq_shr8, lqm1, lq0, lq1] at *; (try simp (disch := omega) only [pq_bm] at *); all_goals omega))) dX11_land_17 (fun x17 e17 l17 u17 => ?_)
        refine pq_istore_n F dX11_land_18 rfl (by decide) ?_
        refine pq_aload_n F dX11_land_19 rfl rfl ?_
        refine pq_get F haL (by decide) lk_X11_20 f5L dX11_land_20 ?_
        refine pq_iload_n F dX11_land_23 rfl rfl ?_
        refine pq_aload_n F dX11_land_24 rfl rfl ?_
        refine pq_get F haL (by decide) lk_X11_7 f6L dX11_land_25 ?_
        refine pq_iload_n F dX11_land_28 rfl rfl ?_
        refine pq_isub F dX11_land_29 ?_
        refine pq_iast F haaL (by decide) (by decide) rfl (fun n1_30 n2_30 => (by focus ((try clear hLw); (try clear hde); (try clear hlm); (try clear hL1); (try clear hd1); (try clear hsub); (try clear h1); (try clear h2); (try clear hL9); (try clear hd9); (try clear hsub9); simp only [vp_in_iff, Int32.lt_iff_toInt_lt, Int32.le_iff_toInt_le, ← Int32.toInt_inj, Int32.toInt_add, Int32.toInt_sub, Int32.toInt_mul, Int32.toInt_neg, pq_NuO, pq_NuI, pq_NuJ, pq_NuR, pq_shr6, pq_shr7, pq_shr8, lqm1, lq0, lq1] at *; (try simp (disch := omega) only [pq_bm] at *); all_goals omega))) (⟨pq_any1 _, pq_any2 _⟩) dX11_land_30 ?_
        refine pq_iload_n F dX11_land_31 rfl rfl ?_
        refine pq_istore_n F dX11_land_32 rfl (by decide) ?_
        refine pq_goto (tgt := 7) F dX11_land_33 (by decide) ?_
        exact pq_fgm [true, true, true, false] (ih _ _ t9 (hF.uI haaL (by first | decide | exact List.mem_cons_self)) (by simp only [pq_IuO, pq_IuJ, pq_Iu, pq_JuO, pq_JuI, pq_Ju, pq_RuO, pq_RuJ, pq_RuI, if_true, if_false]; rw [ej, e17, ej]; exact hL9.congr _ _ (fun i hi => pk_un (Nat.ne_of_lt (hd1.1 i hi)))) hd1.2 (fun i hi => hsub i (List.mem_cons_of_mem _ hi)) (fun i hi => (by simp only [pq_IuO, pq_IuJ, pq_Iu, pq_JuO, pq_JuI, pq_Ju, pq_RuO, pq_RuJ, pq_RuI, if_true, if_false]; rw [ej, pk_un (show i ≠ i9 from fun e => hi (by rw [e]; exact hsub i9 List.mem_cons_self))]; exact h1 i hi)) (fun i hi hj => (by simp only [pq_IuO, pq_IuJ, pq_Iu, pq_JuO, pq_JuI, pq_Ju, pq_RuO, pq_RuJ, pq_RuI, if_true, if_false]; rw [ej]; by_cases e : i = i9; (subst e; rw [pk_us]; focus ((try clear hLw); (try clear hde); (try clear hlm); (try clear hL1); (try clear hd1); (try clear hsub); (try clear h1); (try clear h2); (try clear hL9); (try clear hd9); (try clear hsub9); simp only [vp_in_iff, Int32.lt_iff_toInt_lt, Int32.le_iff_toInt_le, ← Int32.toInt_inj, Int32.toInt_add, Int32.toInt_sub, Int32.toInt_mul, Int32.toInt_neg, pq_NuO, pq_NuI, pq_NuJ, pq_NuR, pq_shr6, pq_shr7, pq_shr8, lqm1, lq0, lq1] at *; (try simp (disch := omega) only [pq_bm] at *); all_goals omega)); (rw [pk_un e]; exact h2 i hi (fun z => (by rcases List.mem_cons.mp z with z | z; exact e z; exact hj z))))) (by simp only [List.length_cons] at hm; omega))
  refine pq_aload_n F dX11_land_0 rfl rfl ?_
  refine pq_get F ha (by decide) lk_X11_78 f15 dX11_land_1 ?_
  refine pq_iload_n F dX11_land_4 rfl rfl ?_
  refine pq_iald F hac (by decide) (by decide) rfl (fun n1_5 n2_5 => (by focus ((try clear hLw); (try clear hde); (try clear hlm); (try clear hL1); (try clear hd1); (try clear hsub); (try clear h1); (try clear h2); (try clear hL9); (try clear hd9); (try clear hsub9); simp only [vp_in_iff, Int32.lt_iff_toInt_lt, Int32.le_iff_toInt_le, ← Int32.toInt_inj, Int32.toInt_add, Int32.toInt_sub, Int32.toInt_mul, Int32.toInt_neg, pq_NuO, pq_NuI, pq_NuJ, pq_NuR, pq_shr6, pq_shr7, pq_shr8, lqm1, lq0, lq1] at *; (try simp (disch := omega) only [pq_bm] at *); all_goals omega))) dX11_land_5 (fun x5 e5 l5 u5 => ?_)
  refine pq_istore_n F dX11_land_6 rfl (by decide) ?_
  exact pq_fgm [true, true, true, false] (L7 (Lw.length + 1) _ _ Lw pq_Fr.rf (by rw [e5]; exact hLw) hde (fun i hi => hi) (fun i _ => rfl) (fun i hi hj => absurd hi hj) (Nat.lt_succ_self _))

