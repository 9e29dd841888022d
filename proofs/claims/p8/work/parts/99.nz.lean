/-! ===== the law's words for first ===== -/
theorem tk_law7 {G T1 : Prop} {Kp : List Nat → Prop} {T2 : List Nat → Prop} {x y9 : Int32} {j0 : Int64} {o : Value} (hc : (x = 0 ∧ G ∧ ∃ (y : Int32) (w : List Nat), tk_Aw Kp y w ∧ j0 = y.toInt64) ∨ (x = 1 ∧ ¬ G)) (hr : (¬ G ∧ o = .int 1 ∧ T1) ∨ (G ∧ o = .int 0 ∧ ∃ w : List Nat, tk_Aw Kp y9 w ∧ T2 w)) : o = .int x ∧ (x = 0 → j0 = y9.toInt64) := by
  rcases hc with ⟨c1, c2, y, w, c3, c4⟩ | ⟨c1, c2⟩ <;> rcases hr with ⟨r1, r2, _⟩ | ⟨r1, r2, v, r3, _⟩
  · exact absurd c2 r1
  · exact ⟨by rw [r2, c1], fun _ => by rw [c4, (c3.eq r3).1]⟩
  · exact ⟨by rw [r2, c1], fun w => absurd (c1.symm.trans w) (by decide)⟩
  · exact absurd r1 c2
