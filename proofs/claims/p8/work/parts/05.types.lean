/-! ===== what the cells hold: the types ===== -/
def pq_ftl : List (Nat × List (Nat × Int × Int)) := [(14, [(103, 0, 0), (1, 0, 2048), (1, -2147483648, 2147483647), (1, -2147483648, 2147483647), (123, 0, 0), (124, 0, 0), (1, 0, 8192), (183, 0, 0), (184, 0, 0), (1, 0, 400), (1, 0, 2048), (2, 0, 0), (2, 0, 0), (125, 0, 0), (126, 0, 0), (127, 0, 0), (203, 0, 0), (185, 0, 0), (128, 0, 0), (129, 0, 0), (1, 0, 401), (130, 0, 0), (131, 0, 0), (1, -2147483648, 2147483647), (1, -2147483648, 2147483647), (132, 0, 0), (1, 0, 400), (133, 0, 0), (186, 0, 0), (134, 0, 0), (135, 0, 0), (1, 0, 1), (204, 0, 0), (136, 0, 0), (137, 0, 0), (138, 0, 0), (1, -2147483648, 2147483647), (139, 0, 0), (140, 0, 0), (205, 0, 0), (104, 0, 0), (1, 0, 161604), (141, 0, 0), (142, 0, 0), (105, 0, 0), (187, 0, 0), (188, 0, 0)]), (3, [(153, 0, 0), (154, 0, 0), (209, 0, 0), (155, 0, 0), (1, 0, 128), (1, 1, 201), (1, 0, 200), (1, 0, 1)]), (33, [(156, 0, 0), (157, 0, 0), (210, 0, 0), (158, 0, 0), (1, 0, 128), (1, 1, 201), (1, 0, 200), (1, 0, 1)]), (4, [(192, 0, 0), (192, 0, 0)]), (5, [(193, 0, 0), (194, 0, 0), (1, 0, 1)]), (6, [(159, 0, 0), (160, 0, 0), (161, 0, 0), (1, 0, 128)]), (7, [(14, 0, 0), (162, 0, 0), (163, 0, 0), (164, 0, 0), (165, 0, 0), (195, 0, 0), (196, 0, 0), (1, 0, 202)]), (8, [(197, 0, 0), (198, 0, 0), (8, 0, 0), (1, 0, 400)]), (9, [(15, 0, 0), (11, 0, 0), (233, 0, 0), (234, 0, 0), (8, 0, 0), (1, -2147483648, 2147483647), (1, 0, 40), (1, -2147483648, 2147483647), (2, 0, 0), (2, 0, 0)]), (10, [(166, 0, 0), (1, 0, 128), (167, 0, 0), (168, 0, 0), (199, 0, 0), (1, 0, 80804), (106, 0, 0), (1, 0, 80804)]), (11, [(11, 0, 0), (9, 0, 0), (200, 0, 0), (169, 0, 0), (201, 0, 0), (202, 0, 0), (170, 0, 0), (1, 0, 402), (1, 0, 1), (1, 0, 1)]), (12, [(107, 0, 0), (1, 0, 2048)]), (13, [(15, 0, 0), (11, 0, 0), (12, 0, 0), (14, 0, 0), (10, 0, 0), (223, 0, 0), (7, 0, 0), (13, 0, 0), (1, -2147483648, 2147483647)])]
def pq_all : List (Nat × Nat × Nat × Int × Int) := [(100, 2048, 2048, -128, 127), (101, 161604, 161604, -128, 127), (102, 161604, 161604, -128, 127), (103, 0, 80804, -128, 127), (104, 2048, 2048, -128, 127), (120, 256, 32768, -2147483648, 2147483647), (121, 256, 32768, -2147483648, 2147483647), (122, 41, 41, -2147483648, 2147483647), (123, 41, 41, -2147483648, 2147483647), (124, 41, 41, -2147483648, 2147483647), (125, 401, 401, -2147483648, 2147483647), (126, 51328, 51328, 0, 400), (127, 256, 32768, -2147483648, 2147483647), (128, 256, 32768, -2147483648, 2147483647), (129, 400, 400, 0, 399), (130, 400, 400, -2147483648, 2147483647), (131, 1024, 1024, -1, 400), (132, 401, 401, -1, 400), (133, 401, 401, -2147483648, 2147483647), (134, 401, 401, -2147483648, 2147483647), (135, 401, 401, 0, 400), (136, 102912, 102912, 0, 401), (137, 2, 2, 0, 402), (138, 161604, 161604, 0, 161603), (139, 161604, 161604, -1, 161603), (150, 128, 128, 0, 127), (151, 128, 128, -2147483648, 2147483647), (152, 1, 51456, 0, 200), (153, 128, 128, 0, 127), (154, 128, 128, -2147483648, 2147483647), (155, 1, 51456, 0, 200), (156, 128, 128, 0, 127), (157, 128, 128, 0, 127), (158, 128, 128, -2147483648, 2147483647), (159, 402, 402, 0, 201), (160, 402, 402, 0, 201), (161, 202, 202, -1, 201), (162, 202, 202, -1, 201), (163, 128, 128, 0, 127), (164, 0, 80804, 0, 51455), (165, 0, 80804, -2147483648, 2147483647), (166, 1024, 1024, 0, 401), (167, 0, 102912, 0, 401), (180, 512, 512, -2147483648, 2147483647), (181, 512, 512, -2147483648, 2147483647), (182, 2807, 2807, -2147483648, 2147483647), (183, 7, 7, -2147483648, 2147483647), (184, 402, 402, -2147483648, 2147483647), (185, 402, 402, -2147483648, 2147483647), (189, 201, 201, -2147483648, 2147483647), (190, 7, 7, -2147483648, 2147483647), (191, 7, 7, -2147483648, 2147483647), (192, 804, 804, -2147483648, 2147483647), (193, 2, 2, -2147483648, 2147483647), (194, 896, 896, -2147483648, 2147483647), (195, 2800, 2800, -2147483648, 2147483647), (196, 0, 1608, -2147483648, 2147483647), (197, 2814, 2814, -2147483648, 2147483647), (198, 7, 7, -2147483648, 2147483647), (199, 7, 7, -2147483648, 2147483647), (200, 41, 41, 0, 1), (201, 401, 401, 0, 1), (202, 804, 804, 0, 1), (206, 201, 201, 0, 1), (207, 201, 201, 0, 1), (220, 2, 2, -2147483648, 2147483647), (230, 41, 41, -2147483648, 2147483647), (231, 41, 41, -2147483648, 2147483647)]
def pq_ft (r k : Nat) : Nat × Int × Int := ((pq_ftl.lookup r).getD []).getD k (0, 0, 0)
def pq_al (r : Nat) : Nat × Nat × Int × Int := (pq_all.lookup r).getD (0, 2147483647, -2147483648, 2147483647)
/-- 0: anything; 1: an int within bounds; 2: a long; k + 3: a cell of role k -/
def pq_ok (t : Nat × Int × Int) (S : HS) (v : Value) : Prop := match t.1 with
  | 0 => True
  | 1 => ∃ x : Int32, v = .int x ∧ t.2.1 ≤ x.toInt ∧ x.toInt ≤ t.2.2
  | 2 => ∃ x : Int64, v = .long x
  | k + 3 => (k < 60 ∨ 100 ≤ k) ∧ ∃ b : Nat, v = .ref b ∧ pq_R S b k
/-- what an element of a row of references is -/
def pq_rk (r i : Nat) (S : HS) (v : Option Nat) : Prop :=
  (r = 220 → ∀ b, v = some b → (i = 0 → pq_R S b 3) ∧ (i = 1 → pq_R S b 33)) ∧ (r = 230 ∨ r = 231 → ∀ b, v = some b → pq_R S b 5)
def pq_T (S : HS) : Prop := (∀ a r, pq_R S a r → r < 100 → ∀ k, pq_ok (pq_ft r k) S (hO S a k)) ∧
  ∀ a r, pq_R S a r → 100 ≤ r → ((pq_al r).1 ≤ hN S a ∧ hN S a ≤ (pq_al r).2.1) ∧ ∀ i, ((pq_al r).2.2.1 ≤ (hI S a i).toInt ∧ (hI S a i).toInt ≤ (pq_al r).2.2.2) ∧ pq_rk r i S (hR S a i)
/-- what was there stays there, in its role and of its length -/
def pq_X (S S' : HS) : Prop := ∀ a r, pq_R S a r → (r < 60 ∨ 100 ≤ r) → pq_R S' a r ∧ hN S' a = hN S a
theorem pq_X.rf {S : HS} : pq_X S S := fun _ _ h _ => ⟨h, rfl⟩
theorem pq_X.tr {S S1 S2 : HS} (h : pq_X S S1) (h1 : pq_X S1 S2) : pq_X S S2 := fun a r q w => ⟨(h1 a r (h a r q w).1 w).1, ((h1 a r (h a r q w).1 w).2).trans (h a r q w).2⟩
theorem pq_ok.ext {S S' : HS} (h : pq_X S S') {t : Nat × Int × Int} {v : Value} (hv : pq_ok t S v) : pq_ok t S' v := by
  obtain ⟨t1, t2, t3⟩ := t
  match t1, hv with
  | 0, _ => trivial
  | 1, hv => exact hv
  | 2, hv => exact hv
  | k + 3, ⟨hk, b, hb, hr⟩ => exact ⟨hk, b, hb, (h b k hr hk).1⟩
theorem pq_rk.ext {S S' : HS} (h : pq_X S S') {r i : Nat} {v : Option Nat} (hv : pq_rk r i S v) : pq_rk r i S' v := by
  refine ⟨fun e b q => ⟨fun z => ?_, fun z => ?_⟩, fun e b q => ?_⟩
  · exact (h b 3 ((hv.1 e b q).1 z) (by omega)).1
  · exact (h b 33 ((hv.1 e b q).2 z) (by omega)).1
  · exact (h b 5 (hv.2 e b q) (by omega)).1
theorem pq_T.uO {S : HS} {a r k : Nat} {v : Value} (h : pq_T S) (ha : pq_R S a r) (hv : pq_ok (pq_ft r k) S v) : pq_T (pq_uO S a k v) := by
  refine ⟨fun b r2 hb h1 k2 => ?_, h.2⟩
  show pq_ok (pq_ft r2 k2) S (va_up S.2.2.1 a (va_up (S.2.2.1 a) k v) b k2)
  have hb' : pq_R S b r2 := hb
  by_cases e : b = a
  · subst e
    rw [va_up_self]
    have e2 : r2 = r := hb'.2.symm.trans ha.2
    subst e2
    by_cases e3 : k2 = k
    · subst e3; rw [va_up_self]; exact hv
    · rw [va_up_ne _ _ e3]; exact h.1 b r2 hb' h1 k2
  · rw [va_up_ne _ _ e]; exact h.1 b r2 hb' h1 k2
theorem pq_T.uI {S : HS} {a r : Nat} {f : Nat → Int32} (h : pq_T S) (ha : pq_R S a r) (hv : ∀ i, (pq_al r).2.2.1 ≤ (f i).toInt ∧ (f i).toInt ≤ (pq_al r).2.2.2) : pq_T (pq_uI S a f) := by
  refine ⟨h.1, fun b r2 hb h1 => ?_⟩
  have hb' : pq_R S b r2 := hb
  refine ⟨(h.2 b r2 hb' h1).1, fun i => ⟨?_, ((h.2 b r2 hb' h1).2 i).2⟩⟩
  show (pq_al r2).2.2.1 ≤ (va_up S.2.2.2.1 a f b i).toInt ∧ (va_up S.2.2.2.1 a f b i).toInt ≤ (pq_al r2).2.2.2
  by_cases e : b = a
  · subst e
    have e2 : r2 = r := hb'.2.symm.trans ha.2
    subst e2
    rw [va_up_self]; exact hv i
  · rw [va_up_ne _ _ e]; exact ((h.2 b r2 hb' h1).2 i).1
theorem pq_T.uJ {S : HS} {a : Nat} {f : Nat → Int64} (h : pq_T S) : pq_T (pq_uJ S a f) := ⟨h.1, h.2⟩
theorem pq_T.uR {S : HS} {a r : Nat} {f : Nat → Option Nat} (h : pq_T S) (ha : pq_R S a r) (hv : ∀ i, pq_rk r i S (f i)) : pq_T (pq_uR S a f) := by
  refine ⟨h.1, fun b r2 hb h1 => ?_⟩
  have hb' : pq_R S b r2 := hb
  refine ⟨(h.2 b r2 hb' h1).1, fun i => ⟨((h.2 b r2 hb' h1).2 i).1, ?_⟩⟩
  show pq_rk r2 i S (va_up S.2.2.2.2.2.2 a f b i)
  by_cases e : b = a
  · subst e
    have e2 : r2 = r := hb'.2.symm.trans ha.2
    subst e2
    rw [va_up_self]; exact hv i
  · rw [va_up_ne _ _ e]; exact ((h.2 b r2 hb' h1).2 i).2
theorem pq_X.nw {S : HS} {q r n : Nat} {ds : Nat → Value} (hq : q ∉ S.1) : pq_X S (pq_nw S q r n ds) := by
  intro a r2 ha _
  have hne : a ≠ q := fun e => hq (e ▸ ha.1)
  refine ⟨⟨List.mem_append_left _ ha.1, ?_⟩, ?_⟩
  · show va_up S.2.1 q r a = r2
    rw [va_up_ne _ _ hne]; exact ha.2
  · show va_up S.2.2.2.2.2.1 q n a = _
    rw [va_up_ne _ _ hne]
theorem pq_R.nw {S : HS} {q r n : Nat} {ds : Nat → Value} : pq_R (pq_nw S q r n ds) q r := ⟨List.mem_append_right _ List.mem_cons_self, va_up_self _ _ _⟩
theorem pq_R.un {S : HS} {a q r r2 n : Nat} {ds : Nat → Value} (h : pq_R (pq_nw S q r n ds) a r2) : (a = q ∧ r2 = r) ∨ (a ≠ q ∧ pq_R S a r2) := by
  by_cases e : a = q
  · subst e; exact Or.inl ⟨rfl, (h.2.symm.trans (va_up_self _ _ _))⟩
  · refine Or.inr ⟨e, ?_, ?_⟩
    · rcases List.mem_append.mp h.1 with h1 | h1
      · exact h1
      · exact absurd (List.mem_singleton.mp h1) e
    · have := h.2
      rw [show (pq_nw S q r n ds).2.1 a = S.2.1 a from va_up_ne _ _ e] at this
      exact this
theorem pq_T.nw {S : HS} {q r n : Nat} {ds : Nat → Value} (h : pq_T S) (hq : q ∉ S.1) (ho : r < 100 → ∀ k, pq_ok (pq_ft r k) S (ds k)) (ha : 100 ≤ r → ((pq_al r).1 ≤ n ∧ n ≤ (pq_al r).2.1) ∧ ((pq_al r).2.2.1 ≤ 0 ∧ 0 ≤ (pq_al r).2.2.2)) : pq_T (pq_nw S q r n ds) := by
  have hX : pq_X S (pq_nw S q r n ds) := pq_X.nw hq
  refine ⟨fun b r2 hb h1 k => ?_, fun b r2 hb h1 => ?_⟩
  · rcases pq_R.un hb with ⟨rfl, rfl⟩ | ⟨e, hb'⟩
    · rw [show hO (pq_nw S b r2 n ds) b = ds from va_up_self _ _ _]
      exact (ho h1 k).ext hX
    · rw [show hO (pq_nw S q r n ds) b = hO S b from va_up_ne _ _ e]
      exact (h.1 b r2 hb' h1 k).ext hX
  · rcases pq_R.un hb with ⟨rfl, rfl⟩ | ⟨e, hb'⟩
    · rw [show hN (pq_nw S b r2 n ds) b = n from va_up_self _ _ _, show hI (pq_nw S b r2 n ds) b = (fun _ => 0) from va_up_self _ _ _, show hR (pq_nw S b r2 n ds) b = (fun _ => none) from va_up_self _ _ _]
      obtain ⟨h2, h3⟩ := ha h1
      exact ⟨h2, fun i => ⟨h3, ⟨(fun _ b q => nomatch q), (fun _ b q => nomatch q)⟩⟩⟩
    · rw [show hN (pq_nw S q r n ds) b = hN S b from va_up_ne _ _ e, show hI (pq_nw S q r n ds) b = hI S b from va_up_ne _ _ e, show hR (pq_nw S q r n ds) b = hR S b from va_up_ne _ _ e]
      obtain ⟨h2, h3⟩ := h.2 b r2 hb' h1
      exact ⟨h2, fun i => ⟨(h3 i).1, (h3 i).2.ext hX⟩⟩
