/-! ===== the text that first leaves, of the reference; the law's words for octet ===== -/
def tk_Tr (S : HS) (r : Nat) (w : List Nat) : Prop := ∃ (tx : Nat) (tl : Int32), hO S r 40 = .ref tx ∧ pq_R S tx 101 ∧ hO S r 41 = .int tl ∧ tl.toInt = (w.length : Int) ∧ tk_Tx (hI S tx) w
theorem tk_Tr.fr {S S1 : HS} {r : Nat} {w : List Nat} {M : List (Nat × Nat)} (h : tk_Tr S r w) (hr : pq_R S r 14) (hF : pq_Fr M S S1) (hM : ∀ q ∈ [(14, 40), (14, 41), (101, 0)], q ∉ M) : tk_Tr S1 r w := by
  obtain ⟨tx, tl, a1, a2, a3, a4, a5⟩ := h
  exact ⟨tx, tl, hF.O hr (by decide) (hM _ (by decide)) a1, hF.R a2 (by decide), hF.O hr (by decide) (hM _ (by decide)) a3, a4, by rw [hF.I a2 (by decide) (hM _ (by decide))]; exact a5⟩
theorem tk_Tr.z {S : HS} {r tx : Nat} (h1 : hO S r 40 = .ref tx) (h2 : pq_R S tx 101) (h3 : hO S r 41 = .int 0) : tk_Tr S r [] := ⟨tx, 0, h1, h2, h3, rfl, tk_Tx.nil⟩
theorem tk_law8g {G T1 : Prop} {Kp : List Nat → Prop} {S2 : HS} {xx rr tx : Nat} {y9 : Int32} {o : Value} (hg : G) (hc : ∃ (y : Int32) (w : List Nat), tk_Aw Kp y w ∧ tk_Tq S2 xx w) (hr : (¬ G ∧ o = .int 1 ∧ T1) ∨ (G ∧ o = .int 0 ∧ ∃ w : List Nat, tk_Aw Kp y9 w ∧ (∃ tl : Int32, hO S2 rr 41 = .int tl ∧ tl.toInt = (w.length : Int)) ∧ tk_Tx (hI S2 tx) w)) (h40 : hO S2 rr 40 = .ref tx) (htx : pq_R S2 tx 101) : ∃ w : List Nat, tk_Tq S2 xx w ∧ tk_Tr S2 rr w := by
  rcases hr with ⟨r1, _⟩ | ⟨_, _, v, r3, ⟨tl, r4, r5⟩, r6⟩
  · exact absurd hg r1
  · obtain ⟨y, w, c1, c2⟩ := hc
    obtain ⟨_, e⟩ := c1.eq r3
    subst e
    exact ⟨w, c2, tx, tl, h40, htx, r4, r5, r6⟩
theorem tk_law8b {G T2 : Prop} {S S2 : HS} {rr tx : Nat} {w : List Nat} {o : Value} (hg : ¬ G) (hT : tk_Tr S rr w) (hr : (¬ G ∧ o = .int 1 ∧ hO S2 rr 41 = hO S rr 41 ∧ hI S2 tx = hI S tx) ∨ (G ∧ T2)) (f40 : hO S rr 40 = .ref tx) (h40 : hO S2 rr 40 = .ref tx) (htx : pq_R S2 tx 101) : tk_Tr S2 rr w := by
  rcases hr with ⟨_, _, r1, r2⟩ | ⟨r1, _⟩
  · obtain ⟨tx2, tl, a1, a2, a3, a4, a5⟩ := hT
    obtain rfl := tk_rj f40 a1
    exact ⟨tx, tl, h40, htx, r1.trans a3, a4, by rw [r2]; exact a5⟩
  · exact absurd r1 hg
