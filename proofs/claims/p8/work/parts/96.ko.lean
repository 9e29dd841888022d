theorem tk_So.Kn {le ko : Nat → Int32} {tk : Nat → Int64} {K : Nat} {z : tr_Z} (h : tk_So le ko tk K 128) (h1 : 1 ≤ K) (h2 : K ≤ 128) (hT : ∀ b q, b < 128 → (tk_bit tk (7 * b) q ↔ q < z.1 ∧ tr_in (z.2.1 q) b)) : tk_Kn z K (fun k => (le k).toInt.toNat) (fun b => (ko b).toInt.toNat) := by
  refine ⟨⟨h1, h2⟩, fun k hk => ?_, fun b hb => ?_⟩
  · have := h.1 k hk
    show (le k).toInt.toNat < 128
    omega
  · obtain ⟨a1, a2, a3⟩ := h.2 b hb
    refine ⟨?_, fun q hq => ?_⟩
    · show (ko b).toInt.toNat < K
      omega
    · have l := h.1 (ko b).toInt.toNat (by omega)
      have e := tk_bit.sm (r := tk) (r' := tk) (st := 7 * (le (ko b).toInt.toNat).toInt.toNat) (st' := 7 * b) a3 (q := q)
      rw [hT b q hb, hT _ q (by omega)] at e
      exact ⟨fun w => (e.mp ⟨hq, w⟩).2, fun w => (e.mpr ⟨hq, w⟩).2⟩
/-- the walk so far, or: too many sets -/
def tk_vi (z : tr_Z) (se : Nat → Int64) (sp : Nat → Int32) (K : Nat) (ls : Nat → Nat) (ns s kn : Nat) (cr nv : Int32) : Prop := (cr = 0 ∧ tk_Wi z se sp K ls ns s kn (nv = 1) ∧ (ns < 402 ∨ ¬ nv = 1)) ∨ (cr = 1 ∧ tz_big z)
def tk_vr (z : tr_Z) (se : Nat → Int64) (sp : Nat → Int32) (K : Nat) (ls : Nat → Nat) (ns s kn : Nat) (cr : Int32) (nr : Prop) : Prop := (cr = 0 ∧ tk_Wi z se sp K ls ns s kn nr) ∨ (cr = 1 ∧ tz_big z)
section VI
variable {z : tr_Z} {se se6 re tk gl : Nat → Int64} {sp : Nat → Int32} {K ns s kn m6 b : Nat} {ls : Nat → Nat} {cr cr6 nv v : Int32} {nr : Prop}
theorem tk_Wi.beg (h : ∀ i, i < K → sp i = 0) : tk_Wi z se sp K ls 2 1 0 ((0 : Int32) = 1) := by
  refine ⟨⟨Nat.le_refl _, by decide⟩, fun t a b => absurd b (by omega), fun t u a b c => absurd c (by omega), fun t k hk ht => ?_, fun w => absurd w (by decide), fun _ t k hk t1 ht => absurd ht (by omega)⟩
  have e : t = 0 := by omega
  refine ⟨0, by decide, ?_, ?_⟩
  · rw [e, Nat.mul_zero, Nat.zero_add, h k hk]; rfl
  · rw [e, tk_cb0]; unfold tk_cs; rw [if_pos rfl]
theorem tk_Hs.beg {sl : Nat → Int32} (h : ∀ i, i < 1024 → sl i = 0) : tk_Hs sl se 2 :=
  ⟨fun i hi => Or.inl (by rw [h i hi]; rfl), fun i j hi hj _ w => absurd (by rw [h i hi]; rfl) w, fun t a b => absurd b (by omega)⟩
theorem tk_Wi.le (h : tk_Wi z se sp K ls ns s 0 nr) (hs : ns ≤ s) : tk_Wi z se sp K ls ns ns 0 nr :=
  ⟨h.1, h.2.1, h.2.2.1, fun t k hk ht => h.2.2.2.1 t k hk (Or.inl (by omega)), h.2.2.2.2.1, fun w t k hk t1 ht => h.2.2.2.2.2 w t k hk t1 (Or.inl (by omega))⟩
theorem tk_vr.fin {cr2 nv2 : Int32} (h : tk_vr z se sp K ls ns s kn cr nr) (hP : nr ↔ nv2 = 1) (hc : (cr2 = 0 ∧ cr = 0 ∧ (ns < 402 ∨ ¬ nv2 = 1)) ∨ (cr2 = 1 ∧ (cr ≠ 0 ∨ (402 ≤ ns ∧ nv2 = 1)))) : tk_vi z se sp K ls ns s kn cr2 nv2 := by
  have e : nr = (nv2 = 1) := propext hP
  subst e
  rcases hc with ⟨c1, c2, c3⟩ | ⟨c1, c2⟩
  · rcases h with ⟨_, h⟩ | ⟨h, _⟩
    · exact Or.inl ⟨c1, h, c3⟩
    · rw [c2] at h; exact absurd h (by decide)
  · refine Or.inr ⟨c1, ?_⟩
    rcases h with ⟨h1, h⟩ | ⟨_, h⟩
    · rcases c2 with c2 | ⟨c2, c3⟩
      · exact absurd h1 c2
      · have e : ns = 402 := by have := h.1.2; omega
        subst e; exact h.bigz c3
    · exact h
theorem tk_vr.st (h : tk_Wi z se sp K ls ns s kn nr) (hk : kn < K) (hs1 : 1 ≤ s) (hs : s < ns) (hl : ls kn < 128) (hg : tk_B0 gl = tk_cs z se s (ls kn)) (hne : ∃ q, tk_B0 gl q) (hcr : cr = 0) (hm : m6 ≤ 402) (hC : (cr6 = 1 ∧ ns = 402 ∧ m6 = ns ∧ se6 = se ∧ ∀ t, 2 ≤ t → t < ns → tk_X se t ≠ tk_B0 gl) ∨ (cr6 = cr ∧ m6 = ns ∧ se6 = se ∧ ∃ u : Nat, v.toInt = (u : Int) ∧ 2 ≤ u ∧ u < ns ∧ tk_X se u = tk_B0 gl) ∨ (cr6 = cr ∧ m6 = ns + 1 ∧ v.toInt = (ns : Int) ∧ (∀ i, i < 7 * ns → se6 i = se i) ∧ tk_X se6 ns = tk_B0 gl ∧ ∀ t, 2 ≤ t → t < ns → tk_X se t ≠ tk_B0 gl)) : tk_vr z se6 (upd sp (K * s + kn) v) K ls m6 s (kn + 1) cr6 nr := by
  have hR : tp_R (tz_d0 z) (tz_d z) (tk_B0 gl) := by rw [hg]; exact h.st hs1 hs hl
  rcases hC with ⟨c1, c2, _, _, c5⟩ | ⟨c1, c2, c3, u, u1, u2, u3, u4⟩ | ⟨c1, c2, c3, c4, c5, c6⟩
  · subst c2; exact Or.inr ⟨c1, h.big hR c5⟩
  · rw [c2, c3]
    exact Or.inl ⟨by rw [c1, hcr], h.go hk u1 u3 (by rw [tk_cb2 u2, u4, hg]) id h.2.2.2.2.1 (fun e => by omega)⟩
  · rw [c2]
    have h2 := h.new hs (by omega) c4 c5 hR hne c6
    have e : tk_cs z se6 s (ls kn) = tk_cs z se s (ls kn) := by
      unfold tk_cs
      rw [tk_X.sm (fun w hw => c4 _ (by omega))]
    exact Or.inl ⟨by rw [c1, hcr], h2.go hk c3 (Nat.lt_succ_self _) (by rw [tk_cb2 h.1.1, c5, hg, e]) id h2.2.2.2.2.1 (fun e => by have := h.1.1; omega)⟩
theorem tk_vr.zo (h : tk_Wi z se sp K ls ns s kn nr) (hk : kn < K) (hs1 : 1 ≤ s) (hs : s < ns) (hl : ls kn < 128) (hg : tk_B0 gl = tk_cs z se s (ls kn)) (hne : ∀ q, ¬ tk_B0 gl q) (hcr : cr = 0) : tk_vr z se (upd sp (K * s + kn) 0) K ls ns s (kn + 1) cr True :=
  Or.inl ⟨hcr, h.zr hk hs1 hs hl rfl (fun q w => hne q (by rw [hg]; exact w))⟩
theorem tk_vi.w (h : tk_vi z se sp K ls ns s kn cr nv) (hc : cr = 0) : tk_Wi z se sp K ls ns s kn (nv = 1) ∧ (ns < 402 ∨ ¬ nv = 1) := h.elim (fun w => w.2) (fun w => absurd (hc.symm.trans w.1) (by decide))
theorem tk_vi.bg (h : tk_vi z se sp K ls ns s kn cr nv) (hc : cr ≠ 0) : cr = 1 ∧ tz_big z := h.elim (fun w => absurd w.1 hc) id
theorem tk_vi.row (h : tk_vi z se sp K ls ns s K cr nv) : tk_vi z se sp K ls ns (s + 1) 0 cr nv := h.imp (fun w => ⟨w.1, w.2.1.row, w.2.2⟩) id
theorem tk_re.lt (hG : tz_G z) {q : Nat} (h : tk_re z se s q) : q < z.1 := by
  unfold tk_re at h
  by_cases e : s = 1
  · rw [if_pos e] at h; exact hG.2.2.1 q h
  · rw [if_neg e] at h
    obtain ⟨p, _, w⟩ := h
    exact (hG.2.2.2.2.1 p q w).2
theorem tk_goal (hG : tz_G z) (h1 : 1 ≤ s) (hre : ∀ q, tk_bit re 0 q ↔ tk_re z se s q) (hT : ∀ q, tk_bit tk (7 * b) q ↔ q < z.1 ∧ tr_in (z.2.1 q) b) (hg : ∀ w, w < 7 → gl w = re w &&& tk (7 * b + w)) : tk_B0 gl = tk_cs z se s b := funext fun q => propext (by
  rw [tk_cs.re h1]
  show tk_bit gl 0 q ↔ _
  rw [tk_bit.and (r := re) (r2 := tk) (st1 := 0) (st2 := 7 * b) (fun w hw => by rw [Nat.zero_add, hg w hw]), hre q, hT q]
  exact ⟨fun w => ⟨w.1, w.2.2⟩, fun w => ⟨w.1, tk_re.lt hG w.1, w.2⟩⟩)
theorem tk_re.cg (h : ∀ i, i < 7 * ns → se6 i = se i) (hs : s < ns) {q : Nat} : tk_re z se6 s q ↔ tk_re z se s q := by
  unfold tk_re
  rw [tk_X.sm (fun w hw => h _ (by omega))]
theorem tk_Wi.lt (h : tk_Wi z se sp K ls ns ns 0 nr) {n s2 : Int32} (hn : n.toInt = (K : Int)) (hs : s2.toInt = (ns : Int)) : pq_lt sp (s2.toInt * n.toInt) s2.toInt := fun i hi => by
  rw [hs, hn, ← Int.natCast_mul] at hi
  have hi : i < ns * K := Int.ofNat_lt.mp hi
  have hK : 0 < K := Nat.pos_of_ne_zero (fun e => by rw [e, Nat.mul_zero] at hi; omega)
  have a := h.sk (t := i / K) (k := i % K) (Nat.div_lt_of_lt_mul (by rw [Nat.mul_comm]; exact hi)) (Nat.mod_lt _ hK)
  rw [Nat.div_add_mod] at a
  rw [a.2.2, hs]
  exact Int.ofNat_lt.mpr a.1
end VI

