/-! ===== the law's words for the empty text ===== -/
theorem tk_law5 {S2 : HS} {a : Nat} {pw x za zb : Int32} {R : tr_Res} {en2 en0 ld2 ld0 : Nat → Int32} {T1 T2 : Int → Prop} {T3 : Prop} (hza : za = 0 ∨ za = 1) (hzb : zb = 0 ∨ zb = 1) (h0 : en0 0 = za) (h1 : en0 402 = zb) (hc : (x = 1 ∧ ¬ (pw = 0 ∨ pw = 1) ∧ tk_He S2 a za zb) ∨ ((pw = 0 ∨ pw = 1) ∧ ∃ u : Int, tz_ans R u ∧ x = tk_cd u ∧ ((u < 0 ∧ tk_He S2 a za zb) ∨ (0 ≤ u ∧ ∃ (z : tr_Z) (zz : Int32), R = Sum.inr z ∧ (zz = 0 ∨ zz = 1) ∧ (z.2.2.1.2.1 ↔ zz = 1) ∧ tk_He S2 a (if pw = 0 then zz else za) (if pw = 1 then zz else zb))))) (hr : (¬ (pw = 0 ∨ pw = 1) ∧ T3 ∧ en2 = en0 ∧ ld2 = ld0) ∨ ((pw = 0 ∨ pw = 1) ∧ ∃ u : Int, tz_ans R u ∧ T1 u ∧ T2 u ∧ ((u < 0 ∧ en2 = en0 ∧ ld2 = ld0) ∨ (0 ≤ u ∧ ∃ z : tr_Z, R = Sum.inr z ∧ tk_Sd en2 ld2 (402 * pw.toInt.toNat) (tk_Lg z) ∧ (∀ i, (i < 402 * pw.toInt.toNat ∨ 402 * pw.toInt.toNat + 402 ≤ i) → en2 i = en0 i) ∧ ∀ i, (i < 128 * (402 * pw.toInt.toNat) ∨ 128 * (402 * pw.toInt.toNat + 402) ≤ i) → ld2 i = ld0 i)))) : ∃ za2 zb2 : Int32, tk_He S2 a za2 zb2 ∧ (za2 = 0 ∨ za2 = 1) ∧ (zb2 = 0 ∨ zb2 = 1) ∧ en2 0 = za2 ∧ en2 402 = zb2 := by
  rcases hc with ⟨_, c2, c3⟩ | ⟨c1, u, c2, _, c4⟩ <;> rcases hr with ⟨r1, _, r3, _⟩ | ⟨r1, v, r2, _, _, r4⟩
  · exact ⟨za, zb, c3, hza, hzb, by rw [r3]; exact h0, by rw [r3]; exact h1⟩
  · exact absurd r1 c2
  · exact absurd c1 r1
  · have e := c2.eq r2
    subst e
    rcases c4 with ⟨c5, c6⟩ | ⟨c5, z, zz, c6, c7, c8, c9⟩ <;> rcases r4 with ⟨r5, r6, _⟩ | ⟨r5, z2, r6, r7, r8, _⟩
    · exact ⟨za, zb, c6, hza, hzb, by rw [r6]; exact h0, by rw [r6]; exact h1⟩
    · omega
    · omega
    · have ez : z = z2 := Sum.inr.inj (c6.symm.trans r6)
      subst ez
      have e0 := r7.e0
      have key : en2 (402 * pw.toInt.toNat) = zz := by
        have i1 : en2 (402 * pw.toInt.toNat) = 1 ↔ zz = 1 := e0.2.trans c8
        rcases e0.1 with w | w <;> rcases c7 with y | y
        · rw [w, y]
        · exact absurd (i1.mpr y) (by rw [w]; decide)
        · exact absurd (i1.mp w) (by rw [y]; decide)
        · rw [w, y]
      rcases c1 with w | w
      · subst w
        rw [if_pos rfl, if_neg (by decide)] at c9
        exact ⟨zz, zb, c9, c7, hzb, key, (r8 402 (Or.inr (by decide))).trans h1⟩
      · subst w
        rw [if_neg (by decide), if_pos rfl] at c9
        exact ⟨za, zz, c9, hza, c7, (r8 0 (Or.inl (by decide))).trans h0, key⟩
theorem tk_law5e {pw x y za zb : Int32} {j0 : Int64} {o : Value} {en0 : Nat → Int32} {I1 I2 : Prop} (hza : za = 0 ∨ za = 1) (hzb : zb = 0 ∨ zb = 1) (hy : y = 0 ∨ y = 1) (h0 : en0 0 = za) (h1 : en0 402 = zb) (hc : (x = 0 ∧ (pw = 0 ∨ pw = 1) ∧ I1 ∧ (((if pw = 0 then za else zb) = 1 ∧ j0 = 1) ∨ ((if pw = 0 then za else zb) = 0 ∧ j0 = 0))) ∨ (x = 1 ∧ ¬ (pw = 0 ∨ pw = 1) ∧ I2)) (hr : (¬ (pw = 0 ∨ pw = 1) ∧ o = .int 1) ∨ ((pw = 0 ∨ pw = 1) ∧ o = .int 0 ∧ (y = 1 ↔ en0 (402 * pw.toInt.toNat) ≠ 0))) : o = .int x ∧ (x = 0 → (y = 1 ∧ j0 = 1) ∨ (y = 0 ∧ j0 = 0)) := by
  rcases hc with ⟨c1, c2, _, c4⟩ | ⟨c1, c2, _⟩ <;> rcases hr with ⟨r1, r2⟩ | ⟨r1, r2, r3⟩
  · exact absurd c2 r1
  · refine ⟨by rw [r2, c1], fun _ => ?_⟩
    have key : en0 (402 * pw.toInt.toNat) = if pw = 0 then za else zb := by
      rcases c2 with w | w
      · subst w; rw [if_pos rfl]; exact h0
      · subst w; rw [if_neg (by decide)]; exact h1
    rw [key] at r3
    rcases c4 with ⟨w1, w2⟩ | ⟨w1, w2⟩
    · exact Or.inl ⟨r3.mpr (by rw [w1]; decide), w2⟩
    · rw [w1] at r3
      exact Or.inr ⟨hy.resolve_right (fun v => absurd rfl (r3.mp v)), w2⟩
  · exact ⟨by rw [r2, c1], fun w => absurd (c1.symm.trans w) (by decide)⟩
  · exact absurd r1 c2
