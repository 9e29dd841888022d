/-! ===== constructors: all but the object itself stays as it was ===== -/
def pq_G (a : Nat) (S S2 : HS) : Prop := ∀ b r, pq_R S b r → b ≠ a → pq_R S2 b r ∧ hN S2 b = hN S b ∧ hO S2 b = hO S b ∧ hI S2 b = hI S b ∧ hJ S2 b = hJ S b ∧ hR S2 b = hR S b
theorem pq_G.rf {a : Nat} {S : HS} : pq_G a S S := fun _ _ h _ => ⟨h, rfl, rfl, rfl, rfl, rfl⟩
theorem pq_G.tr {a : Nat} {S S1 S2 : HS} (h : pq_G a S S1) (h1 : pq_G a S1 S2) : pq_G a S S2 := fun b r hb hne => by
  obtain ⟨a1, a2, a3, a4, a5, a6⟩ := h b r hb hne
  obtain ⟨b1, b2, b3, b4, b5, b6⟩ := h1 b r a1 hne
  exact ⟨b1, b2.trans a2, b3.trans a3, b4.trans a4, b5.trans a5, b6.trans a6⟩
theorem pq_G.nw {a q r n : Nat} {ds : Nat → Value} {S S1 : HS} (h : pq_G a S S1) (hq : q ∉ S1.1) : pq_G a S (pq_nw S1 q r n ds) := h.tr (fun b rb hb hne => by
  have e : b ≠ q := fun e => hq (e ▸ hb.1)
  exact ⟨pq_nR hq hb, va_up_ne _ _ e, va_up_ne _ _ e, va_up_ne _ _ e, va_up_ne _ _ e, va_up_ne _ _ e⟩)
theorem pq_G.uO {a k : Nat} {v : Value} {S S1 : HS} (h : pq_G a S S1) : pq_G a S (pq_uO S1 a k v) := h.tr (fun b rb hb hne => ⟨hb, rfl, va_up_ne _ _ hne, rfl, rfl, rfl⟩)
theorem pq_G.rr {a r : Nat} {S S1 : HS} (h : pq_G a S S1) : pq_G a S (pq_rr S1 a r) := h.tr (fun b rb hb hne => ⟨pq_rrO hb hne, rfl, rfl, rfl, rfl, rfl⟩)
theorem pq_nrole {S : HS} {b q r r0 : Nat} (h : pq_R S b r) (h0 : pq_R S q r0) (hne : r ≠ r0) : b ≠ q := fun e => hne (by rw [← h.2, e]; exact h0.2)
theorem pq_G.e {a b r k : Nat} {w : Value} {S S1 : HS} (h : pq_G a S S1) (hb : pq_R S b r) (hne : b ≠ a) (hw : hO S b k = w) : hO S1 b k = w := by
  rw [(h b r hb hne).2.2.1]; exact hw
/-- an object that is new in S1, made by its constructor, under a constructor of a's own -/
theorem pq_G.gn {a q r n : Nat} {ds : Nat → Value} {S S1 S2 : HS} (h : pq_G a S S1) (hq : q ∉ S1.1) (hG : pq_G q (pq_nw S1 q r n ds) S2) : pq_G a S S2 := h.tr (fun b rb hb hne => by
  have e : b ≠ q := fun e => hq (e ▸ hb.1)
  obtain ⟨b1, b2, b3, b4, b5, b6⟩ := hG b rb (pq_nR hq hb) e
  exact ⟨b1, b2.trans (va_up_ne _ _ e), b3.trans (va_up_ne _ _ e), b4.trans (va_up_ne _ _ e), b5.trans (va_up_ne _ _ e), b6.trans (va_up_ne _ _ e)⟩)
theorem pq_Fr.gn {M : List (Nat × Nat)} {q r n : Nat} {ds : Nat → Value} {S S1 S2 : HS} (h : pq_Fr M S S1) (hq : q ∉ S1.1) (hG : pq_G q (pq_nw S1 q r n ds) S2) : pq_Fr M S S2 := by
  have k : ∀ b rb, pq_R S1 b rb → pq_R S2 b rb ∧ hN S2 b = hN S1 b ∧ hO S2 b = hO S1 b ∧ hI S2 b = hI S1 b ∧ hJ S2 b = hJ S1 b ∧ hR S2 b = hR S1 b := fun b rb hb => by
    have e : b ≠ q := fun e => hq (e ▸ hb.1)
    obtain ⟨b1, b2, b3, b4, b5, b6⟩ := hG b rb (pq_nR hq hb) e
    exact ⟨b1, b2.trans (va_up_ne _ _ e), b3.trans (va_up_ne _ _ e), b4.trans (va_up_ne _ _ e), b5.trans (va_up_ne _ _ e), b6.trans (va_up_ne _ _ e)⟩
  refine ⟨fun b rb hb hr => ?_, fun b rb hb hr j hj => ?_, fun b rb hb hr hj => ?_⟩
  · obtain ⟨a1, a2⟩ := h.1 b rb hb hr
    exact ⟨(k b rb a1).1, (k b rb a1).2.1.trans a2⟩
  · rw [(k b rb (h.1 b rb hb (Or.inl hr)).1).2.2.1]; exact h.2.1 b rb hb hr j hj
  · obtain ⟨x1, x2, x3⟩ := h.2.2 b rb hb hr hj
    obtain ⟨-, -, -, y1, y2, y3⟩ := k b rb (h.1 b rb hb (Or.inr hr)).1
    exact ⟨y1.trans x1, y2.trans x2, y3.trans x3⟩
theorem pq_rrE {S : HS} {a r : Nat} : hO (pq_rr S a r) = hO S := rfl
theorem pq_nI {S : HS} {q r n : Nat} {ds : Nat → Value} : hI (pq_nw S q r n ds) q = fun _ => 0 := va_up_self _ _ _
theorem pq_nJ {S : HS} {q r n : Nat} {ds : Nat → Value} : hJ (pq_nw S q r n ds) q = fun _ => 0 := va_up_self _ _ _
theorem pq_nRf {S : HS} {q r n : Nat} {ds : Nat → Value} : hR (pq_nw S q r n ds) q = fun _ => none := va_up_self _ _ _
