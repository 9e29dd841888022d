/-! ===== the law's words for a pattern's texts ===== -/
theorem tk_sdw {en ld : Nat → Int32} {LA LB : List Nat → Prop} {pw : Int32} (hA : tk_Sd en ld 0 LA) (hB : tk_Sd en ld 402 LB) (hw : pw = 0 ∨ pw = 1) : tk_Sd en ld (402 * pw.toInt.toNat) (if pw = 0 then LA else LB) := by
  rcases hw with w | w
  · subst w; rw [if_pos rfl]; exact hA
  · subst w; rw [if_neg (by decide)]; exact hB
theorem tk_law6 {S2 : HS} {a : Nat} {pw x : Int32} {LA LB : List Nat → Prop} {R : tr_Res} {en2 en0 ld2 ld0 : Nat → Int32} {T1 T2 : Int → Prop} {T3 : Prop} (h0 : tk_Sd en0 ld0 0 LA) (h1 : tk_Sd en0 ld0 402 LB) (hc : (x = 1 ∧ ¬ (pw = 0 ∨ pw = 1) ∧ tk_As S2 a LA LB) ∨ ((pw = 0 ∨ pw = 1) ∧ ∃ u : Int, tz_ans R u ∧ x = tk_cd u ∧ ((u < 0 ∧ tk_As S2 a LA LB) ∨ (0 ≤ u ∧ ∃ z : tr_Z, R = Sum.inr z ∧ tk_As S2 a (if pw = 0 then tk_Lg z else LA) (if pw = 1 then tk_Lg z else LB))))) (hr : (¬ (pw = 0 ∨ pw = 1) ∧ T3 ∧ en2 = en0 ∧ ld2 = ld0) ∨ ((pw = 0 ∨ pw = 1) ∧ ∃ u : Int, tz_ans R u ∧ T1 u ∧ T2 u ∧ ((u < 0 ∧ en2 = en0 ∧ ld2 = ld0) ∨ (0 ≤ u ∧ ∃ z : tr_Z, R = Sum.inr z ∧ tk_Sd en2 ld2 (402 * pw.toInt.toNat) (tk_Lg z) ∧ (∀ i, (i < 402 * pw.toInt.toNat ∨ 402 * pw.toInt.toNat + 402 ≤ i) → en2 i = en0 i) ∧ ∀ i, (i < 128 * (402 * pw.toInt.toNat) ∨ 128 * (402 * pw.toInt.toNat + 402) ≤ i) → ld2 i = ld0 i)))) : ∃ LA2 LB2 : List Nat → Prop, tk_As S2 a LA2 LB2 ∧ tk_Sd en2 ld2 0 LA2 ∧ tk_Sd en2 ld2 402 LB2 := by
  rcases hc with ⟨_, c2, c3⟩ | ⟨c1, u, c2, _, c4⟩ <;> rcases hr with ⟨r1, _, r3, r4⟩ | ⟨r1, v, r2, _, _, r4⟩
  · exact ⟨LA, LB, c3, by rw [r3, r4]; exact h0, by rw [r3, r4]; exact h1⟩
  · exact absurd r1 c2
  · exact absurd c1 r1
  · have e := c2.eq r2
    subst e
    rcases c4 with ⟨c5, c6⟩ | ⟨c5, z, c6, c9⟩ <;> rcases r4 with ⟨r5, r6, r7⟩ | ⟨r5, z2, r6, r7, r8, r9⟩
    · exact ⟨LA, LB, c6, by rw [r6, r7]; exact h0, by rw [r6, r7]; exact h1⟩
    · omega
    · omega
    · have ez : z = z2 := Sum.inr.inj (c6.symm.trans r6)
      subst ez
      rcases c1 with w | w
      · subst w
        rw [if_pos rfl, if_neg (by decide)] at c9
        exact ⟨tk_Lg z, LB, c9, r7, h1.cg (fun i i1 _ => r8 i (Or.inr i1)) (fun i i1 _ => r9 i (Or.inr i1))⟩
      · subst w
        rw [if_neg (by decide), if_pos rfl] at c9
        exact ⟨LA, tk_Lg z, c9, h0.cg (fun i _ i2 => r8 i (Or.inl i2)) (fun i _ i2 => r9 i (Or.inl i2)), r7⟩
theorem tk_law6f {W FT I1 I2 : Prop} {x y : Int32} {j0 : Int64} {o : Value} (hy : y = 0 ∨ y = 1) (hc : (x = 0 ∧ W ∧ I1 ∧ ((FT ∧ j0 = 1) ∨ (¬ FT ∧ j0 = 0))) ∨ (x = 1 ∧ ¬ W ∧ I2)) (hr : (¬ W ∧ o = .int 1) ∨ (W ∧ o = .int 0 ∧ (y = 1 ↔ FT))) : o = .int x ∧ (x = 0 → (y = 1 ∧ j0 = 1) ∨ (y = 0 ∧ j0 = 0)) := by
  rcases hc with ⟨c1, c2, _, c4⟩ | ⟨c1, c2, _⟩ <;> rcases hr with ⟨r1, r2⟩ | ⟨r1, r2, r3⟩
  · exact absurd c2 r1
  · refine ⟨by rw [r2, c1], fun _ => ?_⟩
    rcases c4 with ⟨w1, w2⟩ | ⟨w1, w2⟩
    · exact Or.inl ⟨r3.mpr w1, w2⟩
    · exact Or.inr ⟨hy.resolve_right (fun v => w1 (r3.mp v)), w2⟩
  · exact ⟨by rw [r2, c1], fun w => absurd (c1.symm.trans w) (by decide)⟩
  · exact absurd r1 c2
