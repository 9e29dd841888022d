/-! ===== what the cells hold: the types ===== -/
def pq_ftl : List (Nat × List (Nat × Int × Int)) := [(14, [(103, 0, 0), (1, 0, 2048), (1, -2147483648, 2147483647), (1, -2147483648, 2147483647), (123, 0, 0), (124, 0, 0), (1, 0, 8192), (183, 0, 0), (184, 0, 0), (1, 0, 400), (1, 0, 2048), (2, 0, 0), (2, 0, 0), (125, 0, 0), (126, 0, 0), (127, 0, 0), (203, 0, 0), (185, 0, 0), (128, 0, 0), (129, 0, 0), (1, 0, 401), (130, 0, 0), (131, 0, 0), (1, -2147483648, 2147483647), (1, -2147483648, 2147483647), (132, 0, 0), (1, 0, 400), (133, 0, 0), (186, 0, 0), (134, 0, 0), (135, 0, 0), (1, 0, 1), (204, 0, 0), (136, 0, 0), (137, 0, 0), (138, 0, 0), (1, -2147483648, 2147483647), (139, 0, 0), (140, 0, 0), (205, 0, 0), (104, 0, 0), (1, 0, 161604), (141, 0, 0), (142, 0, 0), (105, 0, 0), (187, 0, 0), (188, 0, 0)])]
def pq_all : List (Nat × Nat × Nat × Int × Int) := [(100, 2048, 2048, -128, 127), (101, 161604, 161604, -128, 127), (102, 161604, 161604, -128, 127), (120, 256, 32768, -2147483648, 2147483647), (121, 256, 32768, -2147483648, 2147483647), (122, 41, 41, -2147483648, 2147483647), (123, 41, 41, -2147483648, 2147483647), (124, 41, 41, -2147483648, 2147483647), (125, 401, 401, -2147483648, 2147483647), (126, 51328, 51328, 0, 400), (127, 256, 32768, -2147483648, 2147483647), (128, 256, 32768, -2147483648, 2147483647), (129, 400, 400, 0, 399), (130, 400, 400, -2147483648, 2147483647), (131, 1024, 1024, -1, 400), (132, 401, 401, -1, 400), (133, 401, 401, -2147483648, 2147483647), (134, 401, 401, -2147483648, 2147483647), (135, 401, 401, 0, 400), (136, 102912, 102912, 0, 401), (137, 2, 2, 0, 402), (138, 161604, 161604, 0, 161603), (139, 161604, 161604, -1, 161603), (180, 512, 512, -2147483648, 2147483647), (181, 512, 512, -2147483648, 2147483647), (182, 2807, 2807, -2147483648, 2147483647), (183, 7, 7, -2147483648, 2147483647), (184, 402, 402, -2147483648, 2147483647), (185, 402, 402, -2147483648, 2147483647), (200, 41, 41, 0, 1), (201, 401, 401, 0, 1), (202, 804, 804, 0, 1)]
def pq_ft (r k : Nat) : Nat × Int × Int := ((pq_ftl.lookup r).getD []).getD k (0, 0, 0)
def pq_al (r : Nat) : Nat × Nat × Int × Int := (pq_all.lookup r).getD (0, 2147483647, -2147483648, 2147483647)
/-- 0: anything; 1: an int within bounds; 2: a long; k + 3: a cell of role k -/
def pq_ok (t : Nat × Int × Int) (S : HS) (v : Value) : Prop := match t.1 with
  | 0 => True
  | 1 => ∃ x : Int32, v = .int x ∧ t.2.1 ≤ x.toInt ∧ x.toInt ≤ t.2.2
  | 2 => ∃ x : Int64, v = .long x
  | k + 3 => (k < 60 ∨ 100 ≤ k) ∧ ∃ b : Nat, v = .ref b ∧ pq_R S b k
/-- what an element of a row of references is -/
def pq_rk (r i : Nat) (S : HS) (v : Option Nat) : Prop :=
  (r = 220 → (i = 0 → ∃ b, v = some b ∧ pq_R S b 3) ∧ (i = 1 → ∃ b, v = some b ∧ pq_R S b 33)) ∧ (r = 230 → ∀ b, v = some b → pq_R S b 5)
def pq_T (S : HS) : Prop := (∀ a r, pq_R S a r → r < 100 → ∀ k, pq_ok (pq_ft r k) S (hO S a k)) ∧
  ∀ a r, pq_R S a r → 100 ≤ r → ((pq_al r).1 ≤ hN S a ∧ hN S a ≤ (pq_al r).2.1) ∧ ∀ i, ((pq_al r).2.2.1 ≤ (hI S a i).toInt ∧ (hI S a i).toInt ≤ (pq_al r).2.2.2) ∧ pq_rk r i S (hR S a i)
/-- what was there stays there, in its role and of its length -/
def pq_X (S S' : HS) : Prop := ∀ a r, pq_R S a r → (r < 60 ∨ 100 ≤ r) → pq_R S' a r ∧ hN S' a = hN S a
theorem pq_X.rf {S : HS} : pq_X S S := fun _ _ h _ => ⟨h, rfl⟩
theorem pq_X.tr {S S1 S2 : HS} (h : pq_X S S1) (h1 : pq_X S1 S2) : pq_X S S2 := fun a r q w => ⟨(h1 a r (h a r q w).1 w).1, ((h1 a r (h a r q w).1 w).2).trans (h a r q w).2⟩
theorem pq_ok.ext {S S' : HS} (h : pq_X S S') {t : Nat × Int × Int} {v : Value} (hv : pq_ok t S v) : pq_ok t S' v := by
  obtain ⟨t1, t2, t3⟩ := t
  match t1, hv with
  | 0, _ => trivial
  | 1, hv => exact hv
  | 2, hv => exact hv
  | k + 3, ⟨hk, b, hb, hr⟩ => exact ⟨hk, b, hb, (h b k hr hk).1⟩
theorem pq_rk.ext {S S' : HS} (h : pq_X S S') {r i : Nat} {v : Option Nat} (hv : pq_rk r i S v) : pq_rk r i S' v := by
  refine ⟨fun e => ⟨fun q => ?_, fun q => ?_⟩, fun e b q => ?_⟩
  · obtain ⟨b, h1, h2⟩ := (hv.1 e).1 q; exact ⟨b, h1, (h b 3 h2 (by omega)).1⟩
  · obtain ⟨b, h1, h2⟩ := (hv.1 e).2 q; exact ⟨b, h1, (h b 33 h2 (by omega)).1⟩
  · exact (h b 5 (hv.2 e b q) (by omega)).1
theorem pq_T.uO {S : HS} {a r k : Nat} {v : Value} (h : pq_T S) (ha : pq_R S a r) (hv : pq_ok (pq_ft r k) S v) : pq_T (pq_uO S a k v) := by
  refine ⟨fun b r2 hb h1 k2 => ?_, h.2⟩
  show pq_ok (pq_ft r2 k2) S (va_up S.2.2.1 a (va_up (S.2.2.1 a) k v) b k2)
  have hb' : pq_R S b r2 := hb
  by_cases e : b = a
  · subst e
    rw [va_up_self]
    have e2 : r2 = r := hb'.2.symm.trans ha.2
    subst e2
    by_cases e3 : k2 = k
    · subst e3; rw [va_up_self]; exact hv
    · rw [va_up_ne _ _ e3]; exact h.1 b r2 hb' h1 k2
  · rw [va_up_ne _ _ e]; exact h.1 b r2 hb' h1 k2
theorem pq_T.uI {S : HS} {a r : Nat} {f : Nat → Int32} (h : pq_T S) (ha : pq_R S a r) (hv : ∀ i, (pq_al r).2.2.1 ≤ (f i).toInt ∧ (f i).toInt ≤ (pq_al r).2.2.2) : pq_T (pq_uI S a f) := by
  refine ⟨h.1, fun b r2 hb h1 => ?_⟩
  have hb' : pq_R S b r2 := hb
  refine ⟨(h.2 b r2 hb' h1).1, fun i => ⟨?_, ((h.2 b r2 hb' h1).2 i).2⟩⟩
  show (pq_al r2).2.2.1 ≤ (va_up S.2.2.2.1 a f b i).toInt ∧ (va_up S.2.2.2.1 a f b i).toInt ≤ (pq_al r2).2.2.2
  by_cases e : b = a
  · subst e
    have e2 : r2 = r := hb'.2.symm.trans ha.2
    subst e2
    rw [va_up_self]; exact hv i
  · rw [va_up_ne _ _ e]; exact ((h.2 b r2 hb' h1).2 i).1
theorem pq_T.uJ {S : HS} {a : Nat} {f : Nat → Int64} (h : pq_T S) : pq_T (pq_uJ S a f) := ⟨h.1, h.2⟩
theorem pq_T.uR {S : HS} {a r : Nat} {f : Nat → Option Nat} (h : pq_T S) (ha : pq_R S a r) (hv : ∀ i, pq_rk r i S (f i)) : pq_T (pq_uR S a f) := by
  refine ⟨h.1, fun b r2 hb h1 => ?_⟩
  have hb' : pq_R S b r2 := hb
  refine ⟨(h.2 b r2 hb' h1).1, fun i => ⟨((h.2 b r2 hb' h1).2 i).1, ?_⟩⟩
  show pq_rk r2 i S (va_up S.2.2.2.2.2.2 a f b i)
  by_cases e : b = a
  · subst e
    have e2 : r2 = r := hb'.2.symm.trans ha.2
    subst e2
    rw [va_up_self]; exact hv i
  · rw [va_up_ne _ _ e]; exact ((h.2 b r2 hb' h1).2 i).2
theorem pq_X.nw {S : HS} {q r n : Nat} {ds : Nat → Value} (hq : q ∉ S.1) : pq_X S (pq_nw S q r n ds) := by
  intro a r2 ha _
  have hne : a ≠ q := fun e => hq (e ▸ ha.1)
  refine ⟨⟨List.mem_append_left _ ha.1, ?_⟩, ?_⟩
  · show va_up S.2.1 q r a = r2
    rw [va_up_ne _ _ hne]; exact ha.2
  · show va_up S.2.2.2.2.2.1 q n a = _
    rw [va_up_ne _ _ hne]
theorem pq_R.nw {S : HS} {q r n : Nat} {ds : Nat → Value} : pq_R (pq_nw S q r n ds) q r := ⟨List.mem_append_right _ List.mem_cons_self, va_up_self _ _ _⟩
theorem pq_R.un {S : HS} {a q r r2 n : Nat} {ds : Nat → Value} (h : pq_R (pq_nw S q r n ds) a r2) : (a = q ∧ r2 = r) ∨ (a ≠ q ∧ pq_R S a r2) := by
  by_cases e : a = q
  · subst e; exact Or.inl ⟨rfl, (h.2.symm.trans (va_up_self _ _ _))⟩
  · refine Or.inr ⟨e, ?_, ?_⟩
    · rcases List.mem_append.mp h.1 with h1 | h1
      · exact h1
      · exact absurd (List.mem_singleton.mp h1) e
    · have := h.2
      rw [show (pq_nw S q r n ds).2.1 a = S.2.1 a from va_up_ne _ _ e] at this
      exact this
theorem pq_T.nw {S : HS} {q r n : Nat} {ds : Nat → Value} (h : pq_T S) (hq : q ∉ S.1) (ho : r < 100 → ∀ k, pq_ok (pq_ft r k) S (ds k)) (ha : 100 ≤ r → ((pq_al r).1 ≤ n ∧ n ≤ (pq_al r).2.1) ∧ ((pq_al r).2.2.1 ≤ 0 ∧ 0 ≤ (pq_al r).2.2.2) ∧ r ≠ 220) : pq_T (pq_nw S q r n ds) := by
  have hX : pq_X S (pq_nw S q r n ds) := pq_X.nw hq
  refine ⟨fun b r2 hb h1 k => ?_, fun b r2 hb h1 => ?_⟩
  · rcases pq_R.un hb with ⟨rfl, rfl⟩ | ⟨e, hb'⟩
    · rw [show hO (pq_nw S b r2 n ds) b = ds from va_up_self _ _ _]
      exact (ho h1 k).ext hX
    · rw [show hO (pq_nw S q r n ds) b = hO S b from va_up_ne _ _ e]
      exact (h.1 b r2 hb' h1 k).ext hX
  · rcases pq_R.un hb with ⟨rfl, rfl⟩ | ⟨e, hb'⟩
    · rw [show hN (pq_nw S b r2 n ds) b = n from va_up_self _ _ _, show hI (pq_nw S b r2 n ds) b = (fun _ => 0) from va_up_self _ _ _, show hR (pq_nw S b r2 n ds) b = (fun _ => none) from va_up_self _ _ _]
      obtain ⟨h2, h3, h4⟩ := ha h1
      exact ⟨h2, fun i => ⟨h3, fun e => absurd e h4, fun _ b q => by cases q⟩⟩
    · rw [show hN (pq_nw S q r n ds) b = hN S b from va_up_ne _ _ e, show hI (pq_nw S q r n ds) b = hI S b from va_up_ne _ _ e, show hR (pq_nw S q r n ds) b = hR S b from va_up_ne _ _ e]
      obtain ⟨h2, h3⟩ := h.2 b r2 hb' h1
      exact ⟨h2, fun i => ⟨(h3 i).1, (h3 i).2.ext hX⟩⟩
