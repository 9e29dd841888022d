/-! ===== the words, the pool ===== -/
def pq_nest (w : Cond) : Bool := match w with
  | .fieldLinkNest _ _ _ _ _ _ => true
  | .methodLinkNest _ _ _ _ => true
  | .castable _ _ => true
  | _ => false
def gtb : List Cond := lw_tbl.filter goodWord
def ntb : List Cond := lw_tbl.filter pq_nest
theorem pq_g1 {i : Nat} {w : Cond} (h : tables_1[i]? = some w) (hg : goodWord w = true) : w ∈ gtb := List.mem_filter.mpr ⟨List.mem_append_right _ (List.mem_of_getElem? h), hg⟩
theorem pq_g2 {i : Nat} {w : Cond} (h : (k2_sels lw_privs)[i]? = some w) (hg : goodWord w = true) : w ∈ gtb := List.mem_filter.mpr ⟨List.mem_append_left _ (List.mem_of_getElem? h), hg⟩
theorem pq_n1 {i : Nat} {w : Cond} (h : tables_1[i]? = some w) (hg : pq_nest w = true) : w ∈ ntb := List.mem_filter.mpr ⟨List.mem_append_right _ (List.mem_of_getElem? h), hg⟩
def pq_N (U : State) : Prop := ∀ w ∈ ntb, va_Nw w U
theorem pq_N.warm {s U : State} (hW : s.WarmedH U.vm) (h : pq_N s) : pq_N U := by
  intro w hw
  have h1 := h w hw
  have h2 : pq_nest w = true := (List.mem_filter.mp hw).2
  cases w <;> first | (simp only [pq_nest] at h2; done) | exact va_Nw.warmF hW h1 | exact va_Nw.warmM hW h1 | exact va_Nw.warmC hW h1 | (exact absurd h2 (by simp [pq_nest]))
theorem pq_N.same {u U : State} (hv : u.vm = U.vm) (h : pq_N u) : pq_N U := by
  intro w hw
  have h2 : pq_nest w = true := (List.mem_filter.mp hw).2
  have h1 := h w hw
  cases w <;> first | exact va_Nw.same rfl hv h1 | (exact absurd h2 (by simp [pq_nest]))
abbrev HS : Type := List Nat × (Nat → Nat) × (Nat → Nat → Value) × (Nat → Nat → Int32) × (Nat → Nat → Int64) × (Nat → Nat) × (Nat → Nat → Option Nat)
abbrev hL (S : HS) : List Nat := S.1
abbrev hK (S : HS) : Nat → Nat := S.2.1
abbrev hO (S : HS) : Nat → Nat → Value := S.2.2.1
abbrev hI (S : HS) : Nat → Nat → Int32 := S.2.2.2.1
abbrev hJ (S : HS) : Nat → Nat → Int64 := S.2.2.2.2.1
abbrev hN (S : HS) : Nat → Nat := S.2.2.2.2.2.1
abbrev hR (S : HS) : Nat → Nat → Option Nat := S.2.2.2.2.2.2
def pq_ci (r : Nat) : Nat := if r < 60 then (if r = 33 then 3 else r) else r - 60
def pq_nf (ci : Nat) : Nat := [4, 4, 6, 8, 2, 3, 4, 8, 4, 10, 8, 10, 2, 9, 47].getD ci 0
def pq_e (cy : Nat → ClassId) (S : HS) (a : Nat) : va_E :=
  if hK S a < 100 then .inr (pq_ci (hK S a), (List.range (pq_nf (pq_ci (hK S a)))).map (hO S a))
  else if hK S a < 120 then .inl (cy 0, hN S a, .inl (hI S a))
  else if hK S a < 180 then .inl (cy 1, hN S a, .inl (hI S a))
  else if hK S a < 200 then .inl (cy 2, hN S a, .inr (.inl (hJ S a)))
  else if hK S a < 220 then .inl (cy 3, hN S a, .inl (hI S a))
  else if hK S a < 230 then .inl (cy 4, hN S a, .inr (.inr (.inr (.inr (hR S a)))))
  else .inl (cy 5, hN S a, .inr (.inr (.inr (.inr (hR S a)))))
abbrev pq_pl (cy : Nat → ClassId) (S : HS) : va_W := va_pl S.1 (pq_e cy S)
def pq_ty (cy : Nat → ClassId) : List (ClassId × FieldType) := [(cy 0, .byte), (cy 1, .int), (cy 2, .long), (cy 3, .boolean), (cy 4, .object "PatternPairs$Automaton"), (cy 5, .object "PatternPairs$Ends")]
def pq_R (S : HS) (a r : Nat) : Prop := a ∈ S.1 ∧ S.2.1 a = r
theorem pq_at {cy : Nat → ClassId} {S : HS} {a r : Nat} (h : pq_R S a r) : ∃ k : Nat, (pq_pl cy S)[k]? = some (a, pq_e cy S a) := by
  obtain ⟨k, hk⟩ := va_pl_get (X := []) (f := pq_e cy S) h.1
  exact ⟨k, hk⟩
theorem pq_eO {cy : Nat → ClassId} {S : HS} {a r : Nat} (h : pq_R S a r) (hr : r < 100) : pq_e cy S a = .inr (pq_ci r, (List.range (pq_nf (pq_ci r))).map (S.2.2.1 a)) := by
  obtain ⟨-, h⟩ := h
  simp only [pq_e, hK, hO, h, if_pos hr]
theorem pq_eI {cy : Nat → ClassId} {S : HS} {a r : Nat} (h : pq_R S a r) (h1 : 120 ≤ r) (h2 : r < 180) : pq_e cy S a = .inl (cy 1, S.2.2.2.2.2.1 a, .inl (S.2.2.2.1 a)) := by
  obtain ⟨-, h⟩ := h
  simp only [pq_e, hK, h]
  rw [if_neg (by omega), if_neg (by omega), if_pos h2]
theorem pq_eB {cy : Nat → ClassId} {S : HS} {a r : Nat} (h : pq_R S a r) (h1 : 100 ≤ r) (h2 : r < 120) : pq_e cy S a = .inl (cy 0, S.2.2.2.2.2.1 a, .inl (S.2.2.2.1 a)) := by
  obtain ⟨-, h⟩ := h
  simp only [pq_e, hK, h]
  rw [if_neg (by omega), if_pos h2]
theorem pq_eJ {cy : Nat → ClassId} {S : HS} {a r : Nat} (h : pq_R S a r) (h1 : 180 ≤ r) (h2 : r < 200) : pq_e cy S a = .inl (cy 2, S.2.2.2.2.2.1 a, .inr (.inl (S.2.2.2.2.1 a))) := by
  obtain ⟨-, h⟩ := h
  simp only [pq_e, hK, h]
  rw [if_neg (by omega), if_neg (by omega), if_neg (by omega), if_pos h2]
theorem pq_eZ {cy : Nat → ClassId} {S : HS} {a r : Nat} (h : pq_R S a r) (h1 : 200 ≤ r) (h2 : r < 220) : pq_e cy S a = .inl (cy 3, S.2.2.2.2.2.1 a, .inl (S.2.2.2.1 a)) := by
  obtain ⟨-, h⟩ := h
  simp only [pq_e, hK, h]
  rw [if_neg (by omega), if_neg (by omega), if_neg (by omega), if_neg (by omega), if_pos h2]
/-! what is written -/
def pq_uO (S : HS) (a k : Nat) (v : Value) : HS := (S.1, S.2.1, va_up S.2.2.1 a (va_up (S.2.2.1 a) k v), S.2.2.2)
def pq_uI (S : HS) (a : Nat) (f : Nat → Int32) : HS := (S.1, S.2.1, S.2.2.1, va_up S.2.2.2.1 a f, S.2.2.2.2)
def pq_uJ (S : HS) (a : Nat) (f : Nat → Int64) : HS := (S.1, S.2.1, S.2.2.1, S.2.2.2.1, va_up S.2.2.2.2.1 a f, S.2.2.2.2.2)
def pq_uR (S : HS) (a : Nat) (f : Nat → Option Nat) : HS := (S.1, S.2.1, S.2.2.1, S.2.2.2.1, S.2.2.2.2.1, S.2.2.2.2.2.1, va_up S.2.2.2.2.2.2 a f)
/-- a new cell at q of role r, its fields null and 0 by ds, or n elements of 0 -/
def pq_nw (S : HS) (q r n : Nat) (ds : Nat → Value) : HS := (S.1 ++ [q], va_up S.2.1 q r, va_up S.2.2.1 q ds, va_up S.2.2.2.1 q (fun _ => 0), va_up S.2.2.2.2.1 q (fun _ => 0), va_up S.2.2.2.2.2.1 q n, va_up S.2.2.2.2.2.2 q (fun _ => none))
theorem pq_set {f : Nat → Value} {k n : Nat} {v : Value} : ((List.range n).map f).set k v = (List.range n).map (va_up f k v) := by
  apply List.ext_getElem?
  intro j
  by_cases hj : j < n
  · by_cases hk : k = j
    · subst hk
      simp [hj, va_up]
    · rw [List.getElem?_set_ne hk]
      simp [hj, va_up, Ne.symm hk]
  · rw [List.getElem?_eq_none (by simp; omega), List.getElem?_eq_none (by simp; omega)]
theorem pq_wO {cy : Nat → ClassId} {S : HS} {A : Nat → Prop} {a r k q : Nat} {v : Value} (hD : va_D A (pq_pl cy S)) (h : pq_R S a r) (hr : r < 100) (hk : (pq_pl cy S)[k]? = some (a, pq_e cy S a)) : (pq_pl cy S).set k (a, .inr (pq_ci r, ((List.range (pq_nf (pq_ci r))).map (S.2.2.1 a)).set q v)) = pq_pl cy (pq_uO S a q v) := by
  have h1 := va_pl_set (X := []) (e := .inr (pq_ci r, ((List.range (pq_nf (pq_ci r))).map (S.2.2.1 a)).set q v)) hD h.1 hk
  refine h1.trans ?_
  refine congrArg ([] ++ ·) (va_pl_congr (fun b => ?_))
  by_cases hb : b = a
  · subst hb
    rw [va_up_self, pq_set]
    simp only [pq_e, hK, hO, pq_uO, h.2, if_pos hr, va_up_self]
  · rw [va_up_ne _ _ hb]
    unfold pq_e
    dsimp only [hK, hO, hI, hJ, hN, hR, pq_uO]
    rw [va_up_ne _ _ hb]
    rfl
theorem pq_wA {cy : Nat → ClassId} {S S' : HS} {A : Nat → Prop} {a r k : Nat} {e : va_E} (hD : va_D A (pq_pl cy S)) (h : pq_R S a r) (hk : (pq_pl cy S)[k]? = some (a, pq_e cy S a)) (hl : S'.1 = S.1) (he : pq_e cy S' a = e) (ho : ∀ b, b ≠ a → pq_e cy S' b = pq_e cy S b) : (pq_pl cy S).set k (a, e) = pq_pl cy S' := by
  have h1 := va_pl_set (X := []) (e := e) hD h.1 hk
  refine h1.trans ?_
  show va_pl S.1 (va_up (pq_e cy S) a e) = va_pl S'.1 (pq_e cy S')
  rw [hl]
  refine va_pl_congr (fun b => ?_)
  by_cases hb : b = a
  · subst hb
    rw [va_up_self, he]
  · rw [va_up_ne _ _ hb, ho b hb]
theorem pq_wN {cy : Nat → ClassId} {S S' : HS} {q : Nat} {e : va_E} (hq : q ∉ S.1) (hl : S'.1 = S.1 ++ [q]) (he : pq_e cy S' q = e) (ho : ∀ b, b ≠ q → pq_e cy S' b = pq_e cy S b) : pq_pl cy S ++ [(q, e)] = pq_pl cy S' := by
  refine (va_pl_push hq).trans ?_
  show va_pl (S.1 ++ [q]) (va_up (pq_e cy S) q e) = va_pl S'.1 (pq_e cy S')
  rw [hl]
  refine va_pl_congr (fun b => ?_)
  by_cases hb : b = q
  · subst hb
    rw [va_up_self, he]
  · rw [va_up_ne _ _ hb, ho b hb]
/-! ===== what stands in the heap from the start, outside the pool: String constants, statics ===== -/
def pq_sn : List (String × Nat × String × List Int32) := [("PatternPairs$Reader", 122, "/|*+?()[.", [47, 124, 42, 43, 63, 40, 41, 91, 46]), ("PatternPairs$Reader", 165, "/]-", [47, 93, 45]), ("PatternPairs$Reader", 175, "/\\|*+?()[.]-^", [47, 92, 124, 42, 43, 63, 40, 41, 91, 46, 93, 45, 94]), ("PatternPairsModel", 43, "/\\|*+?()[.]-^", [47, 92, 124, 42, 43, 63, 40, 41, 91, 46, 93, 45, 94]), ("PatternPairsModel", 59, "/]-", [47, 93, 45]), ("PatternPairsModel", 76, "/|*+?()", [47, 124, 42, 43, 63, 40, 41])]
def pq_sx : List (Nat × String) := [(102, "there is no such pattern"), (106, "the pattern is broken"), (116, "the pattern is beyond a limit"), (142, "there is no such kind of text"), (151, "the text has no such byte"), (158, "texts of this length are not counted"), (80, "the tape would have too many bytes"), (91, "the tape has no such length")]
def pq_sg (i : Nat) : String × Nat × String × List Int32 := pq_sn.getD i ("", 0, "", [])
/-- a String at q of n bytes at bv -/
def pq_Sg (q bv n : Nat) (f : Nat → Int32) (A : Nat → Prop) (U : State) (H : Heap) : Prop := va_O "java/lang/String" q A U H ∧ va_OF "java/lang/String" "coder" "B" (.int 0) q A U H ∧ va_OF "java/lang/String" "value" "[B" (.ref bv) q A U H ∧ va_T .byte bv n (fun j => .int (f j)) A U H
def pq_B (cy : Nat → ClassId) (A : Nat → Prop) (U : State) (H : Heap) : Prop :=
  (∀ i, i < 6 → vk_R (pq_sg i).1 (pq_sg i).2.1 (pq_sg i).2.2.1 (cy (10 + i)) U ∧ pq_Sg (cy (10 + i)) (cy (20 + i)) (pq_sg i).2.2.2.length (fun j => (pq_sg i).2.2.2.getD j 0) A U H) ∧
  (∀ q ∈ pq_sx, ∃ a : Nat, vk_R "PatternPairs" q.1 q.2 a U) ∧
  va_Z "java/lang/String" "COMPACT_STRINGS" "Z" (.int 1) A U H ∧ vx_Zq Bundle.tN "UNASSIGNED_STACK" Bundle.steD A U H ∧ vx_Zq Bundle.tN "SUPPRESSED_SENTINEL" Bundle.listD A U H ∧ va_AO "PatternPairs$Automaton" U ∧ va_AO "PatternPairs$Ends" U
theorem pq_Sg.go {q bv n : Nat} {f : Nat → Int32} {A A2 : Nat → Prop} {s U : State} {H H1 : Heap} (h : pq_Sg q bv n f A s H) (hW : s.WarmedH U.vm) (hk : ∀ a : Nat, a < H.size → ¬ A a → H1[a]? = H[a]?) (hn : ∀ q, A2 q → A q) : pq_Sg q bv n f A2 U H1 :=
  ⟨((va_O.moved hW.alike h.1).kept hk).narrow hn, ((va_OF.moved hW.alike h.2.1).kept hk).narrow hn, ((va_OF.moved hW.alike h.2.2.1).kept hk).narrow hn, ((va_T.moved hW.alike h.2.2.2).kept hk).narrow hn⟩
theorem pq_B.go {cy : Nat → ClassId} {A A2 : Nat → Prop} {s U : State} {H H1 : Heap} (h : pq_B cy A s H) (hW : s.WarmedH U.vm) (hk : ∀ a : Nat, a < H.size → ¬ A a → H1[a]? = H[a]?) (hn : ∀ q, A2 q → A q) : pq_B cy A2 U H1 := by
  obtain ⟨h1, h2, h3, h4, h5, h6, h7⟩ := h
  exact ⟨fun i hi => ⟨vk_R.warm hW (h1 i hi).1, (h1 i hi).2.go hW hk hn⟩, fun q hq => (by obtain ⟨a, ha⟩ := h2 q hq; exact ⟨a, vk_R.warm hW ha⟩), ((va_Z.moved hW.alike h3).kept hk).narrow hn, ((vx_Zq.moved hW.alike h4).kept hk).narrow hn, ((vx_Zq.moved hW.alike h5).kept hk).narrow hn, va_AO.moved hW.alike h6, va_AO.moved hW.alike h7⟩
