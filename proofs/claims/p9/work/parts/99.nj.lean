/-! ===== a side's table, with the number of its states ===== -/
def tk_Sn (en ld : Nat → Int32) (f N : Nat) (L : List Nat → Prop) : Prop := (1 ≤ N ∧ N ≤ 402) ∧ (∀ s, s < N → en (f + s) = 0 ∨ en (f + s) = 1) ∧ (∀ s b, s < N → b < 128 → ∃ t : Nat, t < N ∧ (ld (128 * (f + s) + b)).toInt = (t : Int)) ∧ ∀ w, tp_t w → (L w ↔ en (f + tk_rr ld f w 0) = 1)
theorem tk_Sn.d {en ld : Nat → Int32} {f N : Nat} {L : List Nat → Prop} (h : tk_Sn en ld f N L) : tk_Sd en ld f L := ⟨N, h⟩
def tk_Sw (en ld : Nat → Int32) (sv : Int32) (f : Nat) (L : List Nat → Prop) : Prop := ∃ N : Nat, tk_Sn en ld f N L ∧ sv.toInt = (N : Int)
theorem tk_Sw.d {en ld : Nat → Int32} {sv : Int32} {f : Nat} {L : List Nat → Prop} (h : tk_Sw en ld sv f L) : tk_Sd en ld f L := by
  obtain ⟨N, h, _⟩ := h
  exact h.d
section SN
variable {z : tr_Z} {se : Nat → Int64} {nx lb lv en ld : Nat → Int32} {ns f : Nat} {is lost : Int32}
theorem tk_Sn.mk (hB : tk_B z se nx lb ns ns) (hv : tk_lvs z se lv ns) (h1 : 1 ≤ ns) (h4 : ns ≤ 401) (his : is = 0 ∨ is = 1) (hem : is = 1 ↔ z.2.2.1.2.1) (he : ∀ t, t < ns → en (f + t) = if t = 0 then is else if lb t = -1 then 0 else 1) (hen : en (f + ns) = 0) (hd : ∀ t b, t < ns → b < 128 → ld (128 * (f + t) + b) = if lv (nx (128 * t + b)).toInt.toNat = 0 then lost else nx (128 * t + b)) (hdn : ∀ b, b < 128 → ld (128 * (f + ns) + b) = lost) (hl : lost.toInt = (ns : Int)) : tk_Sn en ld f (ns + 1) (tk_Lg z) := by
  refine ⟨⟨by omega, by omega⟩, fun s hs => ?_, fun s b hs hb => ?_, fun w hw => ?_⟩
  · by_cases e : s = ns
    · rw [e, hen]; exact Or.inl rfl
    · rw [he s (by omega)]
      by_cases e0 : s = 0
      · rw [if_pos e0]; exact his
      · rw [if_neg e0]
        by_cases e1 : lb s = -1
        · rw [if_pos e1]; exact Or.inl rfl
        · rw [if_neg e1]; exact Or.inr rfl
  · by_cases e : s = ns
    · rw [e, hdn b hb]; exact ⟨ns, by omega, hl⟩
    · rw [hd s b (by omega) hb]
      by_cases c : lv (nx (128 * s + b)).toInt.toNat = 0
      · rw [if_pos c]; exact ⟨ns, by omega, hl⟩
      · rw [if_neg c]
        obtain ⟨u, u1, _, u3, _⟩ := hB.2.2.1 s b (by omega) hb
        exact ⟨u, by omega, u1⟩
  · cases w with
    | nil =>
      show z.2.2.1.2.1 ↔ en (f + 0) = 1
      rw [he 0 (by omega), if_pos rfl, hem]
    | cons b v =>
      rw [tk_Sd.run hB hv he hen hd hdn hl (b :: v) 0 (by omega) (Or.inr (fun w => by cases w)) hw]
      exact Iff.rfl
theorem tk_Fj.sn {en0 ld0 : Nat → Int32} (h : tk_Fj is lost nx lb lv en ld en0 ld0 f ns 128) (hB : tk_B z se nx lb ns ns) (hv : tk_lvs z se lv ns) (h1 : 1 ≤ ns) (h4 : ns ≤ 401) (his : is = 0 ∨ is = 1) (hem : is = 1 ↔ z.2.2.1.2.1) (hl : lost.toInt = (ns : Int)) : tk_Sn en ld f (ns + 1) (tk_Lg z) := tk_Sn.mk hB hv h1 h4 his hem h.1.1 h.2.1 (fun t b ht hb => h.1.2.1 t b hb (Or.inl ht)) h.2.2 hl
end SN
theorem tk_Sw.cg {en ld en2 ld2 : Nat → Int32} {sv : Int32} {f : Nat} {L : List Nat → Prop} (h : tk_Sw en ld sv f L) (he : ∀ i, f ≤ i → i < f + 402 → en2 i = en i) (hl : ∀ i, 128 * f ≤ i → i < 128 * (f + 402) → ld2 i = ld i) : tk_Sw en2 ld2 sv f L := by
  obtain ⟨N, ⟨hN, h1, h2, h3⟩, hs⟩ := h
  refine ⟨N, ⟨hN, fun s hs => ?_, fun s b hs hb => ?_, fun w hw => ?_⟩, hs⟩
  · rw [he _ (by omega) (by omega)]; exact h1 s hs
  · rw [hl _ (by omega) (by omega)]; exact h2 s b hs hb
  · have a := tk_rr.cg hN.2 h2 hl w 0 hw (by omega)
    rw [a.1, he _ (by omega) (by have := a.2; omega)]
    exact h3 w hw
/-- the ways of the reference behind k rounds -/
def tk_Wr (w : Nat → Int64) (en ld : Nat → Int32) (f N k : Nat) : Prop := ∀ s, s < N → w s = tk_ct k (tk_rf en ld f s)
theorem tk_Wr.fin {w : Nat → Int64} {en ld : Nat → Int32} {f N k : Nat} {L : List Nat → Prop} (h : tk_Wr w en ld f N k) (hS : tk_Sn en ld f N L) : w 0 = tk_ct k L := by
  rw [h 0 (by have := hS.1.1; omega)]
  exact tk_ct.cg k _ _ (fun v hv => (hS.2.2.2 v hv).symm)
theorem tk_sdK {T en ld en0 ld0 ss ss0 : Nat → Int32} {x : Int32} {tn wn : Nat} (ha : tz_ans (tr_all T tn) x.toInt) (hs : (x.toInt < 0 ∧ en = en0 ∧ ld = ld0 ∧ ss = ss0) ∨ (0 ≤ x.toInt ∧ ∃ z : tr_Z, tr_all T tn = Sum.inr z ∧ tk_Sw en ld (ss wn) (402 * wn) (tk_Lg z) ∧ (∀ i, i ≠ wn → ss i = ss0 i) ∧ (∀ i, (i < 402 * wn ∨ 402 * wn + 402 ≤ i) → en i = en0 i) ∧ ∀ i, (i < 128 * (402 * wn) ∨ 128 * (402 * wn + 402) ≤ i) → ld i = ld0 i)) (hn : tn = 0) : tk_Sw en ld (ss wn) (402 * wn) tk_L0 ∧ (∀ i, i ≠ wn → ss i = ss0 i) ∧ (∀ i, (i < 402 * wn ∨ 402 * wn + 402 ≤ i) → en i = en0 i) ∧ ∀ i, (i < 128 * (402 * wn) ∨ 128 * (402 * wn + 402) ≤ i) → ld i = ld0 i := by
  subst hn
  have hz : ∃ z, tr_all T 0 = Sum.inr z := ⟨_, tr_run.z (Nat.le_refl _)⟩
  obtain ⟨z, hz⟩ := hz
  rw [hz] at ha
  have h0 := tk_ans0 hz ha
  rcases hs with ⟨w, _⟩ | ⟨_, z2, w1, w2, w3, w4, w5⟩
  · omega
  · rw [tk_Lg0 w1] at w2
    exact ⟨w2, w3, w4, w5⟩
/-! the law's words -/
theorem tk_sww {en ld ss : Nat → Int32} {LA LB : List Nat → Prop} {pw : Int32} (hA : tk_Sw en ld (ss 0) 0 LA) (hB : tk_Sw en ld (ss 1) 402 LB) (hw : pw = 0 ∨ pw = 1) : tk_Sw en ld (ss pw.toInt.toNat) (402 * pw.toInt.toNat) (if pw = 0 then LA else LB) := by
  rcases hw with w | w
  · subst w; rw [if_pos rfl]; exact hA
  · subst w; rw [if_neg (by decide)]; exact hB
theorem tk_law9 {S2 : HS} {a : Nat} {pw x : Int32} {LA LB : List Nat → Prop} {R : tr_Res} {en2 en0 ld2 ld0 ss2 ss0 : Nat → Int32} {T1 T2 : Int → Prop} {T3 : Prop} (h0 : tk_Sw en0 ld0 (ss0 0) 0 LA) (h1 : tk_Sw en0 ld0 (ss0 1) 402 LB) (hc : (x = 1 ∧ ¬ (pw = 0 ∨ pw = 1) ∧ tk_As S2 a LA LB) ∨ ((pw = 0 ∨ pw = 1) ∧ ∃ u : Int, tz_ans R u ∧ x = tk_cd u ∧ ((u < 0 ∧ tk_As S2 a LA LB) ∨ (0 ≤ u ∧ ∃ z : tr_Z, R = Sum.inr z ∧ tk_As S2 a (if pw = 0 then tk_Lg z else LA) (if pw = 1 then tk_Lg z else LB))))) (hr : (¬ (pw = 0 ∨ pw = 1) ∧ T3 ∧ en2 = en0 ∧ ld2 = ld0 ∧ ss2 = ss0) ∨ ((pw = 0 ∨ pw = 1) ∧ ∃ u : Int, tz_ans R u ∧ T1 u ∧ T2 u ∧ ((u < 0 ∧ en2 = en0 ∧ ld2 = ld0 ∧ ss2 = ss0) ∨ (0 ≤ u ∧ ∃ z : tr_Z, R = Sum.inr z ∧ tk_Sw en2 ld2 (ss2 pw.toInt.toNat) (402 * pw.toInt.toNat) (tk_Lg z) ∧ (∀ i, i ≠ pw.toInt.toNat → ss2 i = ss0 i) ∧ (∀ i, (i < 402 * pw.toInt.toNat ∨ 402 * pw.toInt.toNat + 402 ≤ i) → en2 i = en0 i) ∧ ∀ i, (i < 128 * (402 * pw.toInt.toNat) ∨ 128 * (402 * pw.toInt.toNat + 402) ≤ i) → ld2 i = ld0 i)))) : ∃ LA2 LB2 : List Nat → Prop, tk_As S2 a LA2 LB2 ∧ tk_Sw en2 ld2 (ss2 0) 0 LA2 ∧ tk_Sw en2 ld2 (ss2 1) 402 LB2 := by
  rcases hc with ⟨_, c2, c3⟩ | ⟨c1, u, c2, _, c4⟩ <;> rcases hr with ⟨r1, _, r3, r4, r5⟩ | ⟨r1, v, r2, _, _, r4⟩
  · exact ⟨LA, LB, c3, by rw [r3, r4, r5]; exact h0, by rw [r3, r4, r5]; exact h1⟩
  · exact absurd r1 c2
  · exact absurd c1 r1
  · have e := c2.eq r2
    subst e
    rcases c4 with ⟨c5, c6⟩ | ⟨c5, z, c6, c9⟩ <;> rcases r4 with ⟨r5, r6, r7, r8⟩ | ⟨r5, z2, r6, r7, rs, r8, r9⟩
    · exact ⟨LA, LB, c6, by rw [r6, r7, r8]; exact h0, by rw [r6, r7, r8]; exact h1⟩
    · omega
    · omega
    · have ez : z = z2 := Sum.inr.inj (c6.symm.trans r6)
      subst ez
      rcases c1 with w | w
      · subst w
        rw [if_pos rfl, if_neg (by decide)] at c9
        exact ⟨tk_Lg z, LB, c9, r7, by rw [rs 1 (by decide)]; exact h1.cg (fun i i1 _ => r8 i (Or.inr i1)) (fun i i1 _ => r9 i (Or.inr i1))⟩
      · subst w
        rw [if_neg (by decide), if_pos rfl] at c9
        exact ⟨LA, tk_Lg z, c9, by rw [rs 0 (by decide)]; exact h0.cg (fun i _ i2 => r8 i (Or.inl i2)) (fun i _ i2 => r9 i (Or.inl i2)), r7⟩
theorem tk_law9c {G I1 I2 : Prop} {x : Int32} {j0 y ct : Int64} {o : Value} (hc : (x = 0 ∧ G ∧ I1 ∧ j0 = ct) ∨ (x = 1 ∧ ¬ G ∧ I2)) (hr : (¬ G ∧ o = .int 1) ∨ (G ∧ o = .int 0 ∧ y = ct)) : o = .int x ∧ (x = 0 → j0 = y) := by
  rcases hc with ⟨c1, c2, _, c4⟩ | ⟨c1, c2, _⟩ <;> rcases hr with ⟨r1, r2⟩ | ⟨r1, r2, r3⟩
  · exact absurd c2 r1
  · exact ⟨by rw [r2, c1], fun _ => c4.trans r3.symm⟩
  · exact ⟨by rw [r2, c1], fun w => absurd (c1.symm.trans w) (by decide)⟩
  · exact absurd r1 c2
