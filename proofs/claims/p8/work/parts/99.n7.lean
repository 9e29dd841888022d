/-- the empty tape's pattern: no place, the empty text -/
theorem tk_z0 {T : Nat → Int32} {z : tr_Z} (h : tr_all T 0 = Sum.inr z) : (∀ q, ¬ z.2.2.1.1 q) ∧ z.2.2.1.2.1 := by
  unfold tr_all at h
  rw [tr_run.z (Nat.le_refl _), tq_ap1] at h
  rw [← Sum.inr.inj h]
  exact ⟨fun q w => w.elim id id, Or.inr trivial⟩
theorem tk_ans0 {T : Nat → Int32} {z : tr_Z} (h : tr_all T 0 = Sum.inr z) {u : Int} (ha : tz_ans (Sum.inr z) u) : u = 0 := by
  have hG := tz_all h
  have h0 := tk_all0 h
  have hz := tk_z0 h
  have e0 : ∀ b, tz_d0 z b = fun _ => False := fun b => funext fun q => propext ⟨fun w => hz.1 q w.1, False.elim⟩
  have e1 : ∀ b, tz_d z (fun _ => False) b = fun _ => False := fun b => funext fun q => propext ⟨fun w => w.elim (fun _ v => v.1.elim), False.elim⟩
  refine ha.eq (show tz_ans (Sum.inr z) 0 from Or.inr ⟨⟨[fun _ => False], ⟨List.nodup_cons.mpr ⟨List.not_mem_nil, List.nodup_nil⟩, fun x hx => ?_, fun b _ => ?_, fun x hx b _ => ?_⟩, by decide⟩, Or.inr ⟨[], ⟨⟨fun x hx => absurd hx List.not_mem_nil, List.Pairwise.nil⟩, fun x hx l => ?_⟩, Nat.zero_le _, rfl⟩⟩)
  · rw [List.mem_singleton.mp hx, ← e0 0]; exact tp_R.s (by decide)
  · rw [e0 b]; exact List.mem_cons_self
  · rw [List.mem_singleton.mp hx, e1 b]; exact List.mem_cons_self
  · cases x with
    | none =>
      obtain ⟨q, w⟩ := (tz_lvN hG).mp l
      exact absurd w (hz.1 q)
    | some X =>
      obtain ⟨p, w⟩ := (tz_lvS hG hx).mp l
      have := tz_mem hG hx p w
      omega
theorem tk_sd0 {T en ld en0 ld0 : Nat → Int32} {x : Int32} {tn wn : Nat} (ha : tz_ans (tr_all T tn) x.toInt) (hs : (x.toInt < 0 ∧ en = en0 ∧ ld = ld0) ∨ (0 ≤ x.toInt ∧ ∃ z : tr_Z, tr_all T tn = Sum.inr z ∧ tk_Sd en ld (402 * wn) (tk_Lg z) ∧ (∀ i, (i < 402 * wn ∨ 402 * wn + 402 ≤ i) → en i = en0 i) ∧ ∀ i, (i < 128 * (402 * wn) ∨ 128 * (402 * wn + 402) ≤ i) → ld i = ld0 i)) (hn : tn = 0) : en (402 * wn) = 1 ∧ ∀ i, (i < 402 * wn ∨ 402 * wn + 402 ≤ i) → en i = en0 i := by
  subst hn
  have hz : ∃ z, tr_all T 0 = Sum.inr z := ⟨_, tr_run.z (Nat.le_refl _)⟩
  obtain ⟨z, hz⟩ := hz
  rw [hz] at ha
  have h0 := tk_ans0 hz ha
  rcases hs with ⟨w, _⟩ | ⟨_, z2, w1, w2, w3, _⟩
  · omega
  · exact ⟨w2.e0.2.mpr (tk_z0 w1).2, w3⟩

