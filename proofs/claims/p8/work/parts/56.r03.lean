/-! ===== parse: what holds at each byte ===== -/
theorem pq_Pi.chg {f g G C N g2 : Nat → Int32} {Ls : Nat → List Nat} {D mn mk : Nat} (H : pq_Pi f g G C N Ls D mn mk) {q : Nat} (hf : f q = 1) (h1 : ∀ i, i ≠ q → g2 i = g i) (h2 : 0 ≤ (q : Int) + (g2 q).toInt) (h3 : (q : Int) + (g2 q).toInt ≤ (mn : Int)) : pq_Pi f g2 G C N Ls D mn mk := by
  refine ⟨H.1, H.2.1, fun d hd => ?_, fun i hi => ?_, fun p hp => ?_, H.2.2.2.2.2⟩
  · obtain ⟨a1, a2, a3⟩ := H.2.2.1 d hd
    refine ⟨a1.congr _ _ (fun i hi => h1 i (fun e => ?_)), a2, a3⟩
    have := (a2 i hi).2.2
    rw [e, hf] at this
    exact absurd this (by decide)
  · by_cases e : i = q
    · subst e; exact Or.inr (Or.inl ⟨hf, h2, h3⟩)
    · have := H.2.2.2.1 i hi
      unfold pq_ik at this ⊢
      rw [h1 i e]; exact this
  · obtain ⟨i, a1, a2, a3⟩ := H.2.2.2.2.1 p hp
    refine ⟨i, a1, a2, ?_⟩
    rw [h1 i (fun e => by rw [e, hf] at a2; exact absurd a2 (by decide))]; exact a3
/-- another choice: a split ahead of it, a jump that waits behind it -/
theorem pq_Pi.alt2 {f g G C N f2 g2 : Nat → Int32} {Ls : Nat → List Nat} {D mn mk : Nat} (H : pq_Pi f g G C N Ls D mn mk) {q : Nat} (hq : (q : Int) = (C D).toInt) (h1 : ∀ i, i < q → f2 i = f i ∧ g2 i = g i) (h2 : ∀ i, q ≤ i → i < mn → f2 (i + 1) = f i ∧ g2 (i + 1) = g i) (h3 : f2 q = 1) (h4 : (q : Int) + (g2 q).toInt = (mn : Int) + 2) (h5 : f2 (mn + 1) = 2) (h6 : g2 (mn + 1) = N D) {x y : Int32} (hx : x.toInt = (mn : Int) + 1) (hy : y.toInt = (mn : Int) + 2) (hm : mn ≤ 100000) : pq_Pi f2 g2 G (upd C D y) (upd N D x) (fun d => if d = D then (mn + 1) :: Ls D else Ls d) D (mn + 2) mk := by
  have hb := H.1 D (Nat.le_refl _)
  have hqm : q ≤ mn := by omega
  have e1 : (g2 q - 1).toInt = (g2 q).toInt - 1 := by
    rw [Int32.toInt_sub, show (1 : Int32).toInt = 1 from rfl]
    exact pq_bm (by omega) (by omega)
  have ne1 : mn + 1 ≠ q := by omega
  have A1 : pq_Pi f2 (upd g2 q (g2 q - 1)) G C N Ls D (mn + 1) mk := H.ins (q := q) (by omega) hqm (fun i hi => ⟨(h1 i hi).1, by rw [pk_un (show i ≠ q by omega)]; exact (h1 i hi).2⟩) (fun i a b => ⟨(h2 i a b).1, by rw [pk_un (show i + 1 ≠ q by omega)]; exact (h2 i a b).2⟩) h3 (Nat.le_refl _) (by rw [pk_us, e1]; omega) (by rw [pk_us, e1]; omega) (fun i a b => by omega)
  have A2 := A1.alt (f2 := f2) (g2 := upd g2 q (g2 q - 1)) (fun i _ => ⟨rfl, rfl⟩) h5 (by rw [pk_un ne1]; exact h6) (x := x) (y := y) (by omega) (by omega)
  exact A2.chg (q := q) h3 (fun i e => by rw [pk_un e]) (by omega) (by omega)
theorem pq_mz (mn L : Nat) : ∃ m1 z1 : Nat, (¬ mn < L → 2 ≤ m1 ∧ 4 * mn ≤ z1) ∧ ((mn < L ∧ m1 = 0 ∧ z1 = 0) ∨ (¬ mn < L ∧ m1 = 2 ∧ z1 = 4 * mn)) := by
  by_cases h : mn < L
  · exact ⟨0, 0, fun z => absurd h z, Or.inl ⟨h, rfl, rfl⟩⟩
  · exact ⟨2, 4 * mn, fun _ => ⟨Nat.le_refl _, Nat.le_refl _⟩, Or.inr ⟨h, rfl, rfl⟩⟩
theorem pq_if2 {c : Prop} [Decidable c] {x a b : Nat} (h : x = if c then a else b) : (c ∧ x = a) ∨ (¬ c ∧ x = b) := by
  by_cases hc : c
  · rw [if_pos hc] at h; exact Or.inl ⟨hc, h⟩
  · rw [if_neg hc] at h; exact Or.inr ⟨hc, h⟩
theorem pq_bud {mn L L0 L2 tn cc zz m1 z1 : Nat} (h1 : L0 ≤ L) (h2 : L = L0 ∨ L ≤ 4 * tn + 4) (h3 : zz + 4 * L0 ≤ 4 * L) (h4 : cc + L0 ≤ L) (h5 : mn ≤ 2 * tn + 2) (h6 : 256 ≤ L) (h7 : mn ≤ L) (hz : (mn < L ∧ m1 = 0 ∧ z1 = 0) ∨ (¬ mn < L ∧ m1 = 2 ∧ z1 = 4 * mn)) (h8 : (mn < L ∧ L2 = L) ∨ (¬ mn < L ∧ L2 = 2 * mn)) : (L0 ≤ L2 ∧ (L2 = L0 ∨ L2 ≤ 4 * tn + 4) ∧ zz + z1 + 4 * L0 ≤ 4 * L2 ∧ cc + m1 + L0 ≤ L2) ∧ cc + m1 ≤ 4 * tn + 4 ∧ zz + z1 ≤ 16 * tn + 16 := by omega
def pq_Ps (S : HS) (a gr co ch ao aa mn mk L0 tn cc zz : Nat) (Ls : Nat → List Nat) (dp am at1 y k : Int32) : Prop :=
  ((hO S a 4 = .ref ao ∧ pq_R S ao 120 ∧ hO S a 5 = .ref aa ∧ pq_R S aa 121) ∧ hO S a 6 = .int y ∧ hO S a 9 = .int k ∧ hO S a 10 = .int at1) ∧
  (y.toInt = (mn : Int) ∧ k.toInt = (mk : Int) ∧ mk ≤ 400 ∧ (mn : Int) ≤ 2 * at1.toInt ∧ 0 ≤ at1.toInt ∧ at1.toInt ≤ (tn : Int)) ∧
  (hN S aa = hN S ao ∧ mn ≤ hN S ao ∧ L0 ≤ hN S ao ∧ (hN S ao = L0 ∨ hN S ao ≤ 4 * tn + 4) ∧ zz + 4 * L0 ≤ 4 * hN S ao ∧ cc + L0 ≤ hN S ao) ∧
  (0 ≤ dp.toInt ∧ dp.toInt ≤ 40 ∧ (am = -1 ∨ ((hI S co dp.toNatClampNeg).toInt ≤ am.toInt ∧ am.toInt ≤ (mn : Int)))) ∧
  pq_Pi (hI S ao) (hI S aa) (hI S gr) (hI S co) (hI S ch) Ls dp.toNatClampNeg mn mk

