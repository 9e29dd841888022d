/-! ===== locals as a list: what each slot holds, if anything is known of it ===== -/
def pq_kl (x : Option Value) : Option Value := match x with
  | some (.long _) => none
  | some (.double _) => none
  | y => y
def pq_s1 : List (Option Value) → Nat → Value → List (Option Value)
  | [], _, _ => []
  | _ :: t, 0, v => some v :: t
  | x :: t, 1, v => pq_kl x :: pq_s1 t 0 v
  | x :: t, i + 2, v => x :: pq_s1 t (i + 1) v
def pq_s2 : List (Option Value) → Nat → Value → List (Option Value)
  | [], _, _ => []
  | _ :: t, 0, v => some v :: t.set 0 none
  | x :: t, 1, v => pq_kl x :: pq_s2 t 0 v
  | x :: t, i + 2, v => x :: pq_s2 t (i + 1) v
def pq_has (ls : Array Slot) (nL : Nat) (lc : List (Option Value)) : Prop := ls.size = nL ∧ lv_wf ls ∧ ∀ (i : Nat) (v : Value), lc[i]? = some (some v) → ls[i]? = some (.val v)
def pq_l (lc : List (Option Value)) : List (Nat × Value) := (List.range lc.length).filterMap (fun i => (lc[i]?.join).map (fun v => (i, v)))
theorem pq_l_iff {lc : List (Option Value)} {i : Nat} {v : Value} : (i, v) ∈ pq_l lc ↔ lc[i]? = some (some v) := by
  simp only [pq_l, List.mem_filterMap, List.mem_range, Option.map_eq_some_iff, Prod.mk.injEq]
  constructor
  · rintro ⟨j, hj, w, hw, rfl, rfl⟩
    cases h : lc[j]? with
    | none => rw [h] at hw; cases hw
    | some y => rw [h] at hw; simp only [Option.join] at hw; subst hw; rfl
  · intro h
    refine ⟨i, (List.getElem?_eq_some_iff.mp h).1, v, by rw [h]; rfl, rfl, rfl⟩
theorem pq_has.l {ls : Array Slot} {nL : Nat} {lc : List (Option Value)} (h : pq_has ls nL lc) : lv_has ls nL (pq_l lc) := ⟨h.1, h.2.1, fun q hq => h.2.2 q.1 q.2 (pq_l_iff.mp hq)⟩
theorem pq_l_mem {lc : List (Option Value)} {i : Nat} {v : Value} (h : lc[i]? = some (some v)) : ∃ k : Nat, (pq_l lc)[k]? = some (i, v) := List.getElem?_of_mem (pq_l_iff.mpr h)
theorem pq_kl_some {x : Option Value} {w : Value} (h : pq_kl x = some w) : x = some w ∧ ¬ w.category = 2 := by
  cases x with
  | none => cases h
  | some y => cases y <;> first | (cases h; done) | (cases h; exact ⟨rfl, by simp [Value.category]⟩)
theorem pq_s1_get : ∀ (lc : List (Option Value)) (i : Nat) (v : Value) (j : Nat) (w : Value), (pq_s1 lc i v)[j]? = some (some w) → (j = i ∧ w = v) ∨ (j ≠ i ∧ lc[j]? = some (some w) ∧ ¬ (j + 1 = i ∧ w.category = 2))
  | [], i, v, j, w, h => by simp [pq_s1] at h
  | x :: t, 0, v, 0, w, h => by simp [pq_s1] at h; exact Or.inl ⟨rfl, h.symm⟩
  | x :: t, 0, v, j + 1, w, h => Or.inr ⟨by omega, by simpa [pq_s1] using h, by omega⟩
  | x :: t, 1, v, 0, w, h => by
    simp only [pq_s1, List.getElem?_cons_zero, Option.some.injEq] at h
    obtain ⟨h1, h2⟩ := pq_kl_some h
    exact Or.inr ⟨by omega, by rw [h1]; rfl, fun q => h2 q.2⟩
  | x :: t, 1, v, j + 1, w, h => by
    simp only [pq_s1, List.getElem?_cons_succ] at h
    rcases pq_s1_get t 0 v j w h with ⟨h1, h2⟩ | ⟨h1, h2, h3⟩
    · exact Or.inl ⟨by omega, h2⟩
    · exact Or.inr ⟨by omega, by simpa using h2, fun q => h1 (by omega)⟩
  | x :: t, i + 2, v, 0, w, h => Or.inr ⟨by omega, by simpa [pq_s1] using h, by omega⟩
  | x :: t, i + 2, v, j + 1, w, h => by
    simp only [pq_s1, List.getElem?_cons_succ] at h
    rcases pq_s1_get t (i + 1) v j w h with ⟨h1, h2⟩ | ⟨h1, h2, h3⟩
    · exact Or.inl ⟨by omega, h2⟩
    · exact Or.inr ⟨by omega, by simpa using h2, fun q => h3 ⟨by omega, q.2⟩⟩
theorem pq_s2_get : ∀ (lc : List (Option Value)) (i : Nat) (v : Value) (j : Nat) (w : Value), (pq_s2 lc i v)[j]? = some (some w) → (j = i ∧ w = v) ∨ (j ≠ i ∧ j ≠ i + 1 ∧ lc[j]? = some (some w) ∧ ¬ (j + 1 = i ∧ w.category = 2))
  | [], i, v, j, w, h => by simp [pq_s2] at h
  | x :: t, 0, v, 0, w, h => by simp [pq_s2] at h; exact Or.inl ⟨rfl, h.symm⟩
  | x :: t, 0, v, j + 1, w, h => by
    simp only [pq_s2, List.getElem?_cons_succ] at h
    by_cases hj : j = 0
    · subst hj
      cases t <;> simp at h
    · rw [List.getElem?_set_ne (by omega)] at h
      exact Or.inr ⟨by omega, by omega, by simpa using h, by omega⟩
  | x :: t, 1, v, 0, w, h => by
    simp only [pq_s2, List.getElem?_cons_zero, Option.some.injEq] at h
    obtain ⟨h1, h2⟩ := pq_kl_some h
    exact Or.inr ⟨by omega, by omega, by rw [h1]; rfl, fun q => h2 q.2⟩
  | x :: t, 1, v, j + 1, w, h => by
    simp only [pq_s2, List.getElem?_cons_succ] at h
    rcases pq_s2_get t 0 v j w h with ⟨h1, h2⟩ | ⟨h1, h1', h2, h3⟩
    · exact Or.inl ⟨by omega, h2⟩
    · exact Or.inr ⟨by omega, by omega, by simpa using h2, fun q => h1 (by omega)⟩
  | x :: t, i + 2, v, 0, w, h => Or.inr ⟨by omega, by omega, by simpa [pq_s2] using h, by omega⟩
  | x :: t, i + 2, v, j + 1, w, h => by
    simp only [pq_s2, List.getElem?_cons_succ] at h
    rcases pq_s2_get t (i + 1) v j w h with ⟨h1, h2⟩ | ⟨h1, h1', h2, h3⟩
    · exact Or.inl ⟨by omega, h2⟩
    · exact Or.inr ⟨by omega, by omega, by simpa using h2, fun q => h3 ⟨by omega, q.2⟩⟩
theorem pq_has1 {ls : Array Slot} {nL i : Nat} {v : Value} {lc : List (Option Value)} (h : lv_has ls nL ((i, v) :: (pq_l lc).filter (fun q => !(q.1 == i) && !(q.1 + 1 == i && q.2.category == 2)))) : pq_has ls nL (pq_s1 lc i v) := by
  refine ⟨h.1, h.2.1, fun j w hw => ?_⟩
  rcases pq_s1_get lc i v j w hw with ⟨rfl, rfl⟩ | ⟨h1, h2, h3⟩
  · exact h.2.2 (j, w) List.mem_cons_self
  · refine h.2.2 (j, w) (List.mem_cons_of_mem _ (List.mem_filter.mpr ⟨pq_l_iff.mpr h2, ?_⟩))
    have a1 : (j == i) = false := by simpa using h1
    have a2 : (j + 1 == i && w.category == 2) = false := by
      rw [Bool.and_eq_false_iff]
      by_cases hj : j + 1 = i
      · right; simpa using fun q => h3 ⟨hj, q⟩
      · left; simpa using hj
    simp [a1, a2]
theorem pq_has2 {ls : Array Slot} {nL i : Nat} {v : Value} {lc : List (Option Value)} (h : lv_has ls nL ((i, v) :: (pq_l lc).filter (fun q => !(q.1 == i) && (!(q.1 == i + 1) && !(q.1 + 1 == i && q.2.category == 2))))) : pq_has ls nL (pq_s2 lc i v) := by
  refine ⟨h.1, h.2.1, fun j w hw => ?_⟩
  rcases pq_s2_get lc i v j w hw with ⟨rfl, rfl⟩ | ⟨h1, h1', h2, h3⟩
  · exact h.2.2 (j, w) List.mem_cons_self
  · refine h.2.2 (j, w) (List.mem_cons_of_mem _ (List.mem_filter.mpr ⟨pq_l_iff.mpr h2, ?_⟩))
    have a1 : (j == i) = false := by simpa using h1
    have a3 : (j == i + 1) = false := by simpa using h1'
    have a2 : (j + 1 == i && w.category == 2) = false := by
      rw [Bool.and_eq_false_iff]
      by_cases hj : j + 1 = i
      · right; simpa using fun q => h3 ⟨hj, q⟩
      · left; simpa using hj
    simp [a1, a2, a3]
/-! ===== the judgement ===== -/
def pq_Fx (p : Program) (R : Room) (s : State) (m : MethodId) (args : Array Value) (c : Code) (D : va_G) (cy : Nat → ClassId) (A : Nat → Prop) (cc : ByteArray) (nL : Nat) (own : String) : Prop :=
  p.tables.exec = Jvm.exec ∧ c.code = cc ∧ c.maxLocals = nL ∧ s.vm.findClass own = some m.cls ∧ (∀ w ∈ gtb, w.before args s = true) ∧ va_K D vwCl (pq_ty cy) s ∧ (∀ q : Nat, s.heap.size ≤ q → A q) ∧ pq_N s ∧ pq_B cy A s s.heap
def pq_At (p : Program) (l : Launch) (e : Env) (R : Room) (s : State) (m : MethodId) (args : Array Value) (below : List Frame) (meth : Method) (c : Code) (Q : State → Prop) (D : va_G) (cy : Nat → ClassId) (A : Nat → Prop) (nL cells slots pc : Nat) (S : HS) (lc : List (Option Value)) (st : List Value) : Prop :=
  ∀ (H : Heap) (locs : List Loc) (ls : Array Slot), pq_T S → va_P D vwCl (pq_pl cy S) H → va_D A (pq_pl cy S) → va_S A s.heap H locs → pq_has ls nL lc → W p l e R s m args below meth c H locs cells slots Q (F0 m pc ls st)
section PQ
variable {p : Program} {l : Launch} {e : Env} {R : Room} {s : State} {m : MethodId} {args : Array Value} {below : List Frame} {meth : Method} {c : Code} {Q : State → Prop} {D : va_G} {cy : Nat → ClassId} {A : Nat → Prop} {nL : Nat} {cc : ByteArray} {own : String} {cells slots pc : Nat} {S : HS} {lc : List (Option Value)} {st : List Value}
theorem pq_iadd (F : pq_Fx p R s m args c D cy A cc nL own) {x y : Int32} (hdg : decode cc pc = .ok (.iadd, 1))  (k : pq_At p l e R s m args below meth c Q D cy A nL cells slots (pc + 1) S lc (.int (x + y) :: st)) : pq_At p l e R s m args below meth c Q D cy A nL cells slots pc S lc (.int y :: .int x :: st) := fun H locs ls hT hP hD hS hl => lv_iadd F.1 F.2.1 hdg  (k H locs ls hT hP hD hS hl)
theorem pq_isub (F : pq_Fx p R s m args c D cy A cc nL own) {x y : Int32} (hdg : decode cc pc = .ok (.isub, 1))  (k : pq_At p l e R s m args below meth c Q D cy A nL cells slots (pc + 1) S lc (.int (x - y) :: st)) : pq_At p l e R s m args below meth c Q D cy A nL cells slots pc S lc (.int y :: .int x :: st) := fun H locs ls hT hP hD hS hl => lv_isub F.1 F.2.1 hdg  (k H locs ls hT hP hD hS hl)
theorem pq_imul (F : pq_Fx p R s m args c D cy A cc nL own) {x y : Int32} (hdg : decode cc pc = .ok (.imul, 1))  (k : pq_At p l e R s m args below meth c Q D cy A nL cells slots (pc + 1) S lc (.int (x * y) :: st)) : pq_At p l e R s m args below meth c Q D cy A nL cells slots pc S lc (.int y :: .int x :: st) := fun H locs ls hT hP hD hS hl => lv_imul F.1 F.2.1 hdg  (k H locs ls hT hP hD hS hl)
theorem pq_iand (F : pq_Fx p R s m args c D cy A cc nL own) {x y : Int32} (hdg : decode cc pc = .ok (.iand, 1))  (k : pq_At p l e R s m args below meth c Q D cy A nL cells slots (pc + 1) S lc (.int (x &&& y) :: st)) : pq_At p l e R s m args below meth c Q D cy A nL cells slots pc S lc (.int y :: .int x :: st) := fun H locs ls hT hP hD hS hl => lv_iand F.1 F.2.1 hdg  (k H locs ls hT hP hD hS hl)
theorem pq_ior (F : pq_Fx p R s m args c D cy A cc nL own) {x y : Int32} (hdg : decode cc pc = .ok (.ior, 1))  (k : pq_At p l e R s m args below meth c Q D cy A nL cells slots (pc + 1) S lc (.int (x ||| y) :: st)) : pq_At p l e R s m args below meth c Q D cy A nL cells slots pc S lc (.int y :: .int x :: st) := fun H locs ls hT hP hD hS hl => lv_ior F.1 F.2.1 hdg  (k H locs ls hT hP hD hS hl)
theorem pq_ixor (F : pq_Fx p R s m args c D cy A cc nL own) {x y : Int32} (hdg : decode cc pc = .ok (.ixor, 1))  (k : pq_At p l e R s m args below meth c Q D cy A nL cells slots (pc + 1) S lc (.int (x ^^^ y) :: st)) : pq_At p l e R s m args below meth c Q D cy A nL cells slots pc S lc (.int y :: .int x :: st) := fun H locs ls hT hP hD hS hl => lv_ixor F.1 F.2.1 hdg  (k H locs ls hT hP hD hS hl)
theorem pq_ishl (F : pq_Fx p R s m args c D cy A cc nL own) {x y : Int32} (hdg : decode cc pc = .ok (.ishl, 1))  (k : pq_At p l e R s m args below meth c Q D cy A nL cells slots (pc + 1) S lc (.int (x <<< (y &&& 31)) :: st)) : pq_At p l e R s m args below meth c Q D cy A nL cells slots pc S lc (.int y :: .int x :: st) := fun H locs ls hT hP hD hS hl => lv_ishl F.1 F.2.1 hdg  (k H locs ls hT hP hD hS hl)
theorem pq_ishr (F : pq_Fx p R s m args c D cy A cc nL own) {x y : Int32} (hdg : decode cc pc = .ok (.ishr, 1))  (k : pq_At p l e R s m args below meth c Q D cy A nL cells slots (pc + 1) S lc (.int (x >>> (y &&& 31)) :: st)) : pq_At p l e R s m args below meth c Q D cy A nL cells slots pc S lc (.int y :: .int x :: st) := fun H locs ls hT hP hD hS hl => lv_ishr F.1 F.2.1 hdg  (k H locs ls hT hP hD hS hl)
theorem pq_ladd (F : pq_Fx p R s m args c D cy A cc nL own) {x y : Int64} (hdg : decode cc pc = .ok (.ladd, 1))  (k : pq_At p l e R s m args below meth c Q D cy A nL cells slots (pc + 1) S lc (.long (x + y) :: st)) : pq_At p l e R s m args below meth c Q D cy A nL cells slots pc S lc (.long y :: .long x :: st) := fun H locs ls hT hP hD hS hl => lv_ladd F.1 F.2.1 hdg  (k H locs ls hT hP hD hS hl)
theorem pq_lsub (F : pq_Fx p R s m args c D cy A cc nL own) {x y : Int64} (hdg : decode cc pc = .ok (.lsub, 1))  (k : pq_At p l e R s m args below meth c Q D cy A nL cells slots (pc + 1) S lc (.long (x - y) :: st)) : pq_At p l e R s m args below meth c Q D cy A nL cells slots pc S lc (.long y :: .long x :: st) := fun H locs ls hT hP hD hS hl => lv_lsub F.1 F.2.1 hdg  (k H locs ls hT hP hD hS hl)
theorem pq_lmul (F : pq_Fx p R s m args c D cy A cc nL own) {x y : Int64} (hdg : decode cc pc = .ok (.lmul, 1))  (k : pq_At p l e R s m args below meth c Q D cy A nL cells slots (pc + 1) S lc (.long (x * y) :: st)) : pq_At p l e R s m args below meth c Q D cy A nL cells slots pc S lc (.long y :: .long x :: st) := fun H locs ls hT hP hD hS hl => lv_lmul F.1 F.2.1 hdg  (k H locs ls hT hP hD hS hl)
theorem pq_land (F : pq_Fx p R s m args c D cy A cc nL own) {x y : Int64} (hdg : decode cc pc = .ok (.land, 1))  (k : pq_At p l e R s m args below meth c Q D cy A nL cells slots (pc + 1) S lc (.long (x &&& y) :: st)) : pq_At p l e R s m args below meth c Q D cy A nL cells slots pc S lc (.long y :: .long x :: st) := fun H locs ls hT hP hD hS hl => lv_land F.1 F.2.1 hdg  (k H locs ls hT hP hD hS hl)
theorem pq_lor (F : pq_Fx p R s m args c D cy A cc nL own) {x y : Int64} (hdg : decode cc pc = .ok (.lor, 1))  (k : pq_At p l e R s m args below meth c Q D cy A nL cells slots (pc + 1) S lc (.long (x ||| y) :: st)) : pq_At p l e R s m args below meth c Q D cy A nL cells slots pc S lc (.long y :: .long x :: st) := fun H locs ls hT hP hD hS hl => lv_lor F.1 F.2.1 hdg  (k H locs ls hT hP hD hS hl)
theorem pq_lxor (F : pq_Fx p R s m args c D cy A cc nL own) {x y : Int64} (hdg : decode cc pc = .ok (.lxor, 1))  (k : pq_At p l e R s m args below meth c Q D cy A nL cells slots (pc + 1) S lc (.long (x ^^^ y) :: st)) : pq_At p l e R s m args below meth c Q D cy A nL cells slots pc S lc (.long y :: .long x :: st) := fun H locs ls hT hP hD hS hl => lv_lxor F.1 F.2.1 hdg  (k H locs ls hT hP hD hS hl)
theorem pq_lcmp (F : pq_Fx p R s m args c D cy A cc nL own) {x y : Int64} (hdg : decode cc pc = .ok (.lcmp, 1))  (k : pq_At p l e R s m args below meth c Q D cy A nL cells slots (pc + 1) S lc (.int (lg_cmp x y) :: st)) : pq_At p l e R s m args below meth c Q D cy A nL cells slots pc S lc (.long y :: .long x :: st) := fun H locs ls hT hP hD hS hl => W.lcmp F.1 F.2.1 hdg  (k H locs ls hT hP hD hS hl)
theorem pq_iushr (F : pq_Fx p R s m args c D cy A cc nL own) {x y : Int32} (hdg : decode cc pc = .ok (.iushr, 1))  (k : pq_At p l e R s m args below meth c Q D cy A nL cells slots (pc + 1) S lc (.int ((x.toUInt32 >>> (y.toUInt32 &&& Int32.toUInt32 31)).toInt32) :: st)) : pq_At p l e R s m args below meth c Q D cy A nL cells slots pc S lc (.int y :: .int x :: st) := fun H locs ls hT hP hD hS hl => lv_iushr F.1 F.2.1 hdg rfl (k H locs ls hT hP hD hS hl)
theorem pq_lushr (F : pq_Fx p R s m args c D cy A cc nL own) {x : Int64} {y : Int32} (hdg : decode cc pc = .ok (.lushr, 1))  (k : pq_At p l e R s m args below meth c Q D cy A nL cells slots (pc + 1) S lc (.long ((x.toUInt64 >>> (y.toInt64.toUInt64 &&& Int64.toUInt64 63)).toInt64) :: st)) : pq_At p l e R s m args below meth c Q D cy A nL cells slots pc S lc (.int y :: .long x :: st) := fun H locs ls hT hP hD hS hl => lv_lushr F.1 F.2.1 hdg rfl (k H locs ls hT hP hD hS hl)
theorem pq_lshl (F : pq_Fx p R s m args c D cy A cc nL own) {x : Int64} {y : Int32} (hdg : decode cc pc = .ok (.lshl, 1))  (k : pq_At p l e R s m args below meth c Q D cy A nL cells slots (pc + 1) S lc (.long (x <<< (y.toInt64 &&& 63)) :: st)) : pq_At p l e R s m args below meth c Q D cy A nL cells slots pc S lc (.int y :: .long x :: st) := fun H locs ls hT hP hD hS hl => lv_lshl F.1 F.2.1 hdg rfl (k H locs ls hT hP hD hS hl)
theorem pq_lshr (F : pq_Fx p R s m args c D cy A cc nL own) {x : Int64} {y : Int32} (hdg : decode cc pc = .ok (.lshr, 1))  (k : pq_At p l e R s m args below meth c Q D cy A nL cells slots (pc + 1) S lc (.long (x >>> (y.toInt64 &&& 63)) :: st)) : pq_At p l e R s m args below meth c Q D cy A nL cells slots pc S lc (.int y :: .long x :: st) := fun H locs ls hT hP hD hS hl => lv_lshr F.1 F.2.1 hdg rfl (k H locs ls hT hP hD hS hl)
theorem pq_i2l (F : pq_Fx p R s m args c D cy A cc nL own) {x : Int32} (hdg : decode cc pc = .ok (.i2l, 1))  (k : pq_At p l e R s m args below meth c Q D cy A nL cells slots (pc + 1) S lc (.long x.toInt64 :: st)) : pq_At p l e R s m args below meth c Q D cy A nL cells slots pc S lc (.int x :: st) := fun H locs ls hT hP hD hS hl => lv_i2l F.1 F.2.1 hdg rfl (k H locs ls hT hP hD hS hl)
theorem pq_l2i (F : pq_Fx p R s m args c D cy A cc nL own) {x : Int64} (hdg : decode cc pc = .ok (.l2i, 1))  (k : pq_At p l e R s m args below meth c Q D cy A nL cells slots (pc + 1) S lc (.int x.toInt32 :: st)) : pq_At p l e R s m args below meth c Q D cy A nL cells slots pc S lc (.long x :: st) := fun H locs ls hT hP hD hS hl => lv_l2i F.1 F.2.1 hdg rfl (k H locs ls hT hP hD hS hl)
theorem pq_i2b (F : pq_Fx p R s m args c D cy A cc nL own) {x : Int32} (hdg : decode cc pc = .ok (.i2b, 1))  (k : pq_At p l e R s m args below meth c Q D cy A nL cells slots (pc + 1) S lc (.int x.toInt8.toInt32 :: st)) : pq_At p l e R s m args below meth c Q D cy A nL cells slots pc S lc (.int x :: st) := fun H locs ls hT hP hD hS hl => lv_i2b F.1 F.2.1 hdg rfl (k H locs ls hT hP hD hS hl)
theorem pq_i2c (F : pq_Fx p R s m args c D cy A cc nL own) {x : Int32} (hdg : decode cc pc = .ok (.i2c, 1))  (k : pq_At p l e R s m args below meth c Q D cy A nL cells slots (pc + 1) S lc (.int (x.toUInt32 % 65536).toInt32 :: st)) : pq_At p l e R s m args below meth c Q D cy A nL cells slots pc S lc (.int x :: st) := fun H locs ls hT hP hD hS hl => lv_i2c F.1 F.2.1 hdg rfl (k H locs ls hT hP hD hS hl)
theorem pq_ineg (F : pq_Fx p R s m args c D cy A cc nL own) {x : Int32} (hdg : decode cc pc = .ok (.ineg, 1))  (k : pq_At p l e R s m args below meth c Q D cy A nL cells slots (pc + 1) S lc (.int (-x) :: st)) : pq_At p l e R s m args below meth c Q D cy A nL cells slots pc S lc (.int x :: st) := fun H locs ls hT hP hD hS hl => lv_ineg F.1 F.2.1 hdg  (k H locs ls hT hP hD hS hl)
theorem pq_idiv (F : pq_Fx p R s m args c D cy A cc nL own) {x y : Int32} (hdg : decode cc pc = .ok (.idiv, 1)) (hne : ¬ y = 0) (k : pq_At p l e R s m args below meth c Q D cy A nL cells slots (pc + 1) S lc (.int (x / y) :: st)) : pq_At p l e R s m args below meth c Q D cy A nL cells slots pc S lc (.int y :: .int x :: st) := fun H locs ls hT hP hD hS hl => lv_idiv F.1 F.2.1 hdg hne (k H locs ls hT hP hD hS hl)
theorem pq_irem (F : pq_Fx p R s m args c D cy A cc nL own) {x y : Int32} (hdg : decode cc pc = .ok (.irem, 1)) (hne : ¬ y = 0) (k : pq_At p l e R s m args below meth c Q D cy A nL cells slots (pc + 1) S lc (.int (x - x / y * y) :: st)) : pq_At p l e R s m args below meth c Q D cy A nL cells slots pc S lc (.int y :: .int x :: st) := fun H locs ls hT hP hD hS hl => lv_irem F.1 F.2.1 hdg hne (k H locs ls hT hP hD hS hl)
theorem pq_iconst (F : pq_Fx p R s m args c D cy A cc nL own) {n : Int} {v : Int32} (hdg : decode cc pc = .ok (.iconst n, 1)) (hv : Int32.ofInt n = v) (k : pq_At p l e R s m args below meth c Q D cy A nL cells slots (pc + 1) S lc (.int v :: st)) : pq_At p l e R s m args below meth c Q D cy A nL cells slots pc S lc (st) := fun H locs ls hT hP hD hS hl => lv_iconst F.1 F.2.1 hdg hv (k H locs ls hT hP hD hS hl)
theorem pq_bipush (F : pq_Fx p R s m args c D cy A cc nL own) {n : Int} {v : Int32} (hdg : decode cc pc = .ok (.bipush n, 2)) (hv : (Int8.ofInt n).toInt32 = v) (k : pq_At p l e R s m args below meth c Q D cy A nL cells slots (pc + 2) S lc (.int v :: st)) : pq_At p l e R s m args below meth c Q D cy A nL cells slots pc S lc (st) := fun H locs ls hT hP hD hS hl => lv_bipush F.1 F.2.1 hdg hv (k H locs ls hT hP hD hS hl)
theorem pq_sipush (F : pq_Fx p R s m args c D cy A cc nL own) {n : Int} {v : Int32} (hdg : decode cc pc = .ok (.sipush n, 3)) (hv : (Int16.ofInt n).toInt32 = v) (k : pq_At p l e R s m args below meth c Q D cy A nL cells slots (pc + 3) S lc (.int v :: st)) : pq_At p l e R s m args below meth c Q D cy A nL cells slots pc S lc (st) := fun H locs ls hT hP hD hS hl => lv_sipush F.1 F.2.1 hdg hv (k H locs ls hT hP hD hS hl)
theorem pq_lconst (F : pq_Fx p R s m args c D cy A cc nL own) {n : Fin 2} {v : Int64} (hdg : decode cc pc = .ok (.lconst n, 1)) (hv : Int64.ofNat (n : Nat) = v) (k : pq_At p l e R s m args below meth c Q D cy A nL cells slots (pc + 1) S lc (.long v :: st)) : pq_At p l e R s m args below meth c Q D cy A nL cells slots pc S lc (st) := fun H locs ls hT hP hD hS hl => lv_lconst F.1 F.2.1 hdg hv (k H locs ls hT hP hD hS hl)
theorem pq_dup (F : pq_Fx p R s m args c D cy A cc nL own) {va : Value} (hdg : decode cc pc = .ok (.dup, 1)) (hva : va.category = 1) (k : pq_At p l e R s m args below meth c Q D cy A nL cells slots (pc + 1) S lc (va :: va :: st)) : pq_At p l e R s m args below meth c Q D cy A nL cells slots pc S lc (va :: st) := fun H locs ls hT hP hD hS hl => lv_dup F.1 F.2.1 hdg hva (k H locs ls hT hP hD hS hl)
theorem pq_pop (F : pq_Fx p R s m args c D cy A cc nL own) {va : Value} (hdg : decode cc pc = .ok (.pop, 1)) (hva : va.category = 1) (k : pq_At p l e R s m args below meth c Q D cy A nL cells slots (pc + 1) S lc (st)) : pq_At p l e R s m args below meth c Q D cy A nL cells slots pc S lc (va :: st) := fun H locs ls hT hP hD hS hl => lv_pop F.1 F.2.1 hdg hva (k H locs ls hT hP hD hS hl)
theorem pq_dup2 (F : pq_Fx p R s m args c D cy A cc nL own) {va vb : Value} (hdg : decode cc pc = .ok (.dup2, 1)) (hva : va.category = 1) (hvb : vb.category = 1) (k : pq_At p l e R s m args below meth c Q D cy A nL cells slots (pc + 1) S lc (va :: vb :: va :: vb :: st)) : pq_At p l e R s m args below meth c Q D cy A nL cells slots pc S lc (va :: vb :: st) := fun H locs ls hT hP hD hS hl => lv_dup2_11 F.1 F.2.1 hdg hva hvb (k H locs ls hT hP hD hS hl)
theorem pq_dup_x1 (F : pq_Fx p R s m args c D cy A cc nL own) {va vb : Value} (hdg : decode cc pc = .ok (.dup_x1, 1)) (hva : va.category = 1) (hvb : vb.category = 1) (k : pq_At p l e R s m args below meth c Q D cy A nL cells slots (pc + 1) S lc (va :: vb :: va :: st)) : pq_At p l e R s m args below meth c Q D cy A nL cells slots pc S lc (va :: vb :: st) := fun H locs ls hT hP hD hS hl => lv_dup_x1 F.1 F.2.1 hdg hva hvb (k H locs ls hT hP hD hS hl)
theorem pq_iload_n (F : pq_Fx p R s m args c D cy A cc nL own) {k : Fin 4} {i : Nat} {x : Int32} (hdg : decode cc pc = .ok (.iload_n k, 1)) (hi : (k : Nat) = i) (hx : lc[i]? = some (some (.int x))) (k : pq_At p l e R s m args below meth c Q D cy A nL cells slots (pc + 1) S lc (.int x :: st)) : pq_At p l e R s m args below meth c Q D cy A nL cells slots pc S lc (st) := fun H locs ls hT hP hD hS hl => lv_iload_n F.1 F.2.1 hdg hi (hl.2.2 _ _ hx) (k H locs ls hT hP hD hS hl)
theorem pq_iload (F : pq_Fx p R s m args c D cy A cc nL own) {i : Nat} {x : Int32} (hdg : decode cc pc = .ok (.iload i, 2)) (hx : lc[i]? = some (some (.int x))) (k : pq_At p l e R s m args below meth c Q D cy A nL cells slots (pc + 2) S lc (.int x :: st)) : pq_At p l e R s m args below meth c Q D cy A nL cells slots pc S lc (st) := fun H locs ls hT hP hD hS hl => lv_iload F.1 F.2.1 hdg (hl.2.2 _ _ hx) (k H locs ls hT hP hD hS hl)
theorem pq_lload_n (F : pq_Fx p R s m args c D cy A cc nL own) {k : Fin 4} {i : Nat} {x : Int64} (hdg : decode cc pc = .ok (.lload_n k, 1)) (hi : (k : Nat) = i) (hx : lc[i]? = some (some (.long x))) (k : pq_At p l e R s m args below meth c Q D cy A nL cells slots (pc + 1) S lc (.long x :: st)) : pq_At p l e R s m args below meth c Q D cy A nL cells slots pc S lc (st) := fun H locs ls hT hP hD hS hl => lv_lload_n F.1 F.2.1 hdg hi (hl.2.2 _ _ hx) (k H locs ls hT hP hD hS hl)
theorem pq_lload (F : pq_Fx p R s m args c D cy A cc nL own) {i : Nat} {x : Int64} (hdg : decode cc pc = .ok (.lload i, 2)) (hx : lc[i]? = some (some (.long x))) (k : pq_At p l e R s m args below meth c Q D cy A nL cells slots (pc + 2) S lc (.long x :: st)) : pq_At p l e R s m args below meth c Q D cy A nL cells slots pc S lc (st) := fun H locs ls hT hP hD hS hl => lv_lload F.1 F.2.1 hdg (hl.2.2 _ _ hx) (k H locs ls hT hP hD hS hl)
theorem pq_aload_n (F : pq_Fx p R s m args c D cy A cc nL own) {k : Fin 4} {i : Nat} {x : Nat} (hdg : decode cc pc = .ok (.aload_n k, 1)) (hi : (k : Nat) = i) (hx : lc[i]? = some (some (.ref x))) (k : pq_At p l e R s m args below meth c Q D cy A nL cells slots (pc + 1) S lc (.ref x :: st)) : pq_At p l e R s m args below meth c Q D cy A nL cells slots pc S lc (st) := fun H locs ls hT hP hD hS hl => lv_aload_n F.1 F.2.1 hdg hi (hl.2.2 _ _ hx) (k H locs ls hT hP hD hS hl)
theorem pq_aload (F : pq_Fx p R s m args c D cy A cc nL own) {i : Nat} {x : Nat} (hdg : decode cc pc = .ok (.aload i, 2)) (hx : lc[i]? = some (some (.ref x))) (k : pq_At p l e R s m args below meth c Q D cy A nL cells slots (pc + 2) S lc (.ref x :: st)) : pq_At p l e R s m args below meth c Q D cy A nL cells slots pc S lc (st) := fun H locs ls hT hP hD hS hl => lv_aload F.1 F.2.1 hdg (hl.2.2 _ _ hx) (k H locs ls hT hP hD hS hl)
theorem pq_istore_n (F : pq_Fx p R s m args c D cy A cc nL own) {k1 : Fin 4} {i : Nat} {x : Int32} (hdg : decode cc pc = .ok (.istore_n k1, 1)) (hi : (k1 : Nat) = i) (hn : i < nL) (k : pq_At p l e R s m args below meth c Q D cy A nL cells slots (pc + 1) S (pq_s1 lc i (.int x)) st) : pq_At p l e R s m args below meth c Q D cy A nL cells slots pc S lc (.int x :: st) := fun H locs ls hT hP hD hS hl => lv_istore_n F.1 F.2.1 hdg hi (pq_has.l hl) hn rfl (fun ls2 h2 => k H locs ls2 hT hP hD hS (pq_has1 h2))
theorem pq_istore (F : pq_Fx p R s m args c D cy A cc nL own) {i : Nat} {x : Int32} (hdg : decode cc pc = .ok (.istore i, 2))  (hn : i < nL) (k : pq_At p l e R s m args below meth c Q D cy A nL cells slots (pc + 2) S (pq_s1 lc i (.int x)) st) : pq_At p l e R s m args below meth c Q D cy A nL cells slots pc S lc (.int x :: st) := fun H locs ls hT hP hD hS hl => lv_istore F.1 F.2.1 hdg  (pq_has.l hl) hn rfl (fun ls2 h2 => k H locs ls2 hT hP hD hS (pq_has1 h2))
theorem pq_lstore_n (F : pq_Fx p R s m args c D cy A cc nL own) {k1 : Fin 4} {i : Nat} {x : Int64} (hdg : decode cc pc = .ok (.lstore_n k1, 1)) (hi : (k1 : Nat) = i) (hn : i + 1 < nL) (k : pq_At p l e R s m args below meth c Q D cy A nL cells slots (pc + 1) S (pq_s2 lc i (.long x)) st) : pq_At p l e R s m args below meth c Q D cy A nL cells slots pc S lc (.long x :: st) := fun H locs ls hT hP hD hS hl => lv_lstore_n F.1 F.2.1 hdg hi (pq_has.l hl) hn rfl (fun ls2 h2 => k H locs ls2 hT hP hD hS (pq_has2 h2))
theorem pq_lstore (F : pq_Fx p R s m args c D cy A cc nL own) {i : Nat} {x : Int64} (hdg : decode cc pc = .ok (.lstore i, 2))  (hn : i + 1 < nL) (k : pq_At p l e R s m args below meth c Q D cy A nL cells slots (pc + 2) S (pq_s2 lc i (.long x)) st) : pq_At p l e R s m args below meth c Q D cy A nL cells slots pc S lc (.long x :: st) := fun H locs ls hT hP hD hS hl => lv_lstore F.1 F.2.1 hdg  (pq_has.l hl) hn rfl (fun ls2 h2 => k H locs ls2 hT hP hD hS (pq_has2 h2))
theorem pq_astore_n (F : pq_Fx p R s m args c D cy A cc nL own) {k1 : Fin 4} {i : Nat} {x : Nat} (hdg : decode cc pc = .ok (.astore_n k1, 1)) (hi : (k1 : Nat) = i) (hn : i < nL) (k : pq_At p l e R s m args below meth c Q D cy A nL cells slots (pc + 1) S (pq_s1 lc i (.ref x)) st) : pq_At p l e R s m args below meth c Q D cy A nL cells slots pc S lc (.ref x :: st) := fun H locs ls hT hP hD hS hl => lv_astore_n F.1 F.2.1 hdg hi (pq_has.l hl) hn rfl (fun ls2 h2 => k H locs ls2 hT hP hD hS (pq_has1 h2))
theorem pq_astore (F : pq_Fx p R s m args c D cy A cc nL own) {i : Nat} {x : Nat} (hdg : decode cc pc = .ok (.astore i, 2))  (hn : i < nL) (k : pq_At p l e R s m args below meth c Q D cy A nL cells slots (pc + 2) S (pq_s1 lc i (.ref x)) st) : pq_At p l e R s m args below meth c Q D cy A nL cells slots pc S lc (.ref x :: st) := fun H locs ls hT hP hD hS hl => lv_astore F.1 F.2.1 hdg  (pq_has.l hl) hn rfl (fun ls2 h2 => k H locs ls2 hT hP hD hS (pq_has1 h2))
theorem pq_iinc (F : pq_Fx p R s m args c D cy A cc nL own) {i : Nat} {n : Int} {x v : Int32} (hdg : decode cc pc = .ok (.iinc i n, 3)) (hx : lc[i]? = some (some (.int x))) (hv : Int32.ofInt n = v) (hn : i < nL) (k : pq_At p l e R s m args below meth c Q D cy A nL cells slots (pc + 3) S (pq_s1 lc i (.int (x + v))) st) : pq_At p l e R s m args below meth c Q D cy A nL cells slots pc S lc st := fun H locs ls hT hP hD hS hl => by
  obtain ⟨k0, hk0⟩ := pq_l_mem hx
  exact lv_iinc F.1 F.2.1 hdg (pq_has.l hl) hk0 (by rw [hv]) hn rfl (fun ls2 h2 => k H locs ls2 hT hP hD hS (pq_has1 h2))
theorem pq_goto (F : pq_Fx p R s m args c D cy A cc nL own) {off : Int} {tgt : Nat} (hdg : decode cc pc = .ok (.goto off, 3)) (ht : (pc : Int) + off = (tgt : Int)) (k : pq_At p l e R s m args below meth c Q D cy A nL cells slots tgt S lc st) : pq_At p l e R s m args below meth c Q D cy A nL cells slots pc S lc st := fun H locs ls hT hP hD hS hl => lv_goto F.1 F.2.1 hdg ht (k H locs ls hT hP hD hS hl)
theorem pq_if_eq (F : pq_Fx p R s m args c D cy A cc nL own) {x : Int32} {off : Int} {tgt : Nat} (hdg : decode cc pc = .ok (.ifCond .eq off, 3)) (ht : (pc : Int) + off = (tgt : Int)) (kt : x = 0 → pq_At p l e R s m args below meth c Q D cy A nL cells slots tgt S lc st) (kf : ¬ x = 0 → pq_At p l e R s m args below meth c Q D cy A nL cells slots (pc + 3) S lc st) : pq_At p l e R s m args below meth c Q D cy A nL cells slots pc S lc (.int x :: st) := fun H locs ls hT hP hD hS hl => lv_if_eq F.1 F.2.1 hdg ht (fun h => kt h H locs ls hT hP hD hS hl) (fun h => kf h H locs ls hT hP hD hS hl)
theorem pq_icmp_eq (F : pq_Fx p R s m args c D cy A cc nL own) {x y : Int32} {off : Int} {tgt : Nat} (hdg : decode cc pc = .ok (.if_icmp .eq off, 3)) (ht : (pc : Int) + off = (tgt : Int)) (kt : x = y → pq_At p l e R s m args below meth c Q D cy A nL cells slots tgt S lc st) (kf : ¬ x = y → pq_At p l e R s m args below meth c Q D cy A nL cells slots (pc + 3) S lc st) : pq_At p l e R s m args below meth c Q D cy A nL cells slots pc S lc (.int y :: .int x :: st) := fun H locs ls hT hP hD hS hl => lv_icmp_eq F.1 F.2.1 hdg ht (fun h => kt h H locs ls hT hP hD hS hl) (fun h => kf h H locs ls hT hP hD hS hl)
theorem pq_if_ne (F : pq_Fx p R s m args c D cy A cc nL own) {x : Int32} {off : Int} {tgt : Nat} (hdg : decode cc pc = .ok (.ifCond .ne off, 3)) (ht : (pc : Int) + off = (tgt : Int)) (kt : ¬ x = 0 → pq_At p l e R s m args below meth c Q D cy A nL cells slots tgt S lc st) (kf : x = 0 → pq_At p l e R s m args below meth c Q D cy A nL cells slots (pc + 3) S lc st) : pq_At p l e R s m args below meth c Q D cy A nL cells slots pc S lc (.int x :: st) := fun H locs ls hT hP hD hS hl => lv_if_ne F.1 F.2.1 hdg ht (fun h => kt h H locs ls hT hP hD hS hl) (fun h => kf h H locs ls hT hP hD hS hl)
theorem pq_icmp_ne (F : pq_Fx p R s m args c D cy A cc nL own) {x y : Int32} {off : Int} {tgt : Nat} (hdg : decode cc pc = .ok (.if_icmp .ne off, 3)) (ht : (pc : Int) + off = (tgt : Int)) (kt : ¬ x = y → pq_At p l e R s m args below meth c Q D cy A nL cells slots tgt S lc st) (kf : x = y → pq_At p l e R s m args below meth c Q D cy A nL cells slots (pc + 3) S lc st) : pq_At p l e R s m args below meth c Q D cy A nL cells slots pc S lc (.int y :: .int x :: st) := fun H locs ls hT hP hD hS hl => lv_icmp_ne F.1 F.2.1 hdg ht (fun h => kt h H locs ls hT hP hD hS hl) (fun h => kf h H locs ls hT hP hD hS hl)
theorem pq_if_lt (F : pq_Fx p R s m args c D cy A cc nL own) {x : Int32} {off : Int} {tgt : Nat} (hdg : decode cc pc = .ok (.ifCond .lt off, 3)) (ht : (pc : Int) + off = (tgt : Int)) (kt : x < 0 → pq_At p l e R s m args below meth c Q D cy A nL cells slots tgt S lc st) (kf : ¬ x < 0 → pq_At p l e R s m args below meth c Q D cy A nL cells slots (pc + 3) S lc st) : pq_At p l e R s m args below meth c Q D cy A nL cells slots pc S lc (.int x :: st) := fun H locs ls hT hP hD hS hl => lv_if_lt F.1 F.2.1 hdg ht (fun h => kt h H locs ls hT hP hD hS hl) (fun h => kf h H locs ls hT hP hD hS hl)
theorem pq_icmp_lt (F : pq_Fx p R s m args c D cy A cc nL own) {x y : Int32} {off : Int} {tgt : Nat} (hdg : decode cc pc = .ok (.if_icmp .lt off, 3)) (ht : (pc : Int) + off = (tgt : Int)) (kt : x < y → pq_At p l e R s m args below meth c Q D cy A nL cells slots tgt S lc st) (kf : ¬ x < y → pq_At p l e R s m args below meth c Q D cy A nL cells slots (pc + 3) S lc st) : pq_At p l e R s m args below meth c Q D cy A nL cells slots pc S lc (.int y :: .int x :: st) := fun H locs ls hT hP hD hS hl => lv_icmp_lt F.1 F.2.1 hdg ht (fun h => kt h H locs ls hT hP hD hS hl) (fun h => kf h H locs ls hT hP hD hS hl)
theorem pq_if_ge (F : pq_Fx p R s m args c D cy A cc nL own) {x : Int32} {off : Int} {tgt : Nat} (hdg : decode cc pc = .ok (.ifCond .ge off, 3)) (ht : (pc : Int) + off = (tgt : Int)) (kt : 0 ≤ x → pq_At p l e R s m args below meth c Q D cy A nL cells slots tgt S lc st) (kf : ¬ 0 ≤ x → pq_At p l e R s m args below meth c Q D cy A nL cells slots (pc + 3) S lc st) : pq_At p l e R s m args below meth c Q D cy A nL cells slots pc S lc (.int x :: st) := fun H locs ls hT hP hD hS hl => lv_if_ge F.1 F.2.1 hdg ht (fun h => kt h H locs ls hT hP hD hS hl) (fun h => kf h H locs ls hT hP hD hS hl)
theorem pq_icmp_ge (F : pq_Fx p R s m args c D cy A cc nL own) {x y : Int32} {off : Int} {tgt : Nat} (hdg : decode cc pc = .ok (.if_icmp .ge off, 3)) (ht : (pc : Int) + off = (tgt : Int)) (kt : y ≤ x → pq_At p l e R s m args below meth c Q D cy A nL cells slots tgt S lc st) (kf : ¬ y ≤ x → pq_At p l e R s m args below meth c Q D cy A nL cells slots (pc + 3) S lc st) : pq_At p l e R s m args below meth c Q D cy A nL cells slots pc S lc (.int y :: .int x :: st) := fun H locs ls hT hP hD hS hl => lv_icmp_ge F.1 F.2.1 hdg ht (fun h => kt h H locs ls hT hP hD hS hl) (fun h => kf h H locs ls hT hP hD hS hl)
theorem pq_if_gt (F : pq_Fx p R s m args c D cy A cc nL own) {x : Int32} {off : Int} {tgt : Nat} (hdg : decode cc pc = .ok (.ifCond .gt off, 3)) (ht : (pc : Int) + off = (tgt : Int)) (kt : 0 < x → pq_At p l e R s m args below meth c Q D cy A nL cells slots tgt S lc st) (kf : ¬ 0 < x → pq_At p l e R s m args below meth c Q D cy A nL cells slots (pc + 3) S lc st) : pq_At p l e R s m args below meth c Q D cy A nL cells slots pc S lc (.int x :: st) := fun H locs ls hT hP hD hS hl => lv_if_gt F.1 F.2.1 hdg ht (fun h => kt h H locs ls hT hP hD hS hl) (fun h => kf h H locs ls hT hP hD hS hl)
theorem pq_icmp_gt (F : pq_Fx p R s m args c D cy A cc nL own) {x y : Int32} {off : Int} {tgt : Nat} (hdg : decode cc pc = .ok (.if_icmp .gt off, 3)) (ht : (pc : Int) + off = (tgt : Int)) (kt : y < x → pq_At p l e R s m args below meth c Q D cy A nL cells slots tgt S lc st) (kf : ¬ y < x → pq_At p l e R s m args below meth c Q D cy A nL cells slots (pc + 3) S lc st) : pq_At p l e R s m args below meth c Q D cy A nL cells slots pc S lc (.int y :: .int x :: st) := fun H locs ls hT hP hD hS hl => lv_icmp_gt F.1 F.2.1 hdg ht (fun h => kt h H locs ls hT hP hD hS hl) (fun h => kf h H locs ls hT hP hD hS hl)
theorem pq_if_le (F : pq_Fx p R s m args c D cy A cc nL own) {x : Int32} {off : Int} {tgt : Nat} (hdg : decode cc pc = .ok (.ifCond .le off, 3)) (ht : (pc : Int) + off = (tgt : Int)) (kt : x ≤ 0 → pq_At p l e R s m args below meth c Q D cy A nL cells slots tgt S lc st) (kf : ¬ x ≤ 0 → pq_At p l e R s m args below meth c Q D cy A nL cells slots (pc + 3) S lc st) : pq_At p l e R s m args below meth c Q D cy A nL cells slots pc S lc (.int x :: st) := fun H locs ls hT hP hD hS hl => lv_if_le F.1 F.2.1 hdg ht (fun h => kt h H locs ls hT hP hD hS hl) (fun h => kf h H locs ls hT hP hD hS hl)
theorem pq_icmp_le (F : pq_Fx p R s m args c D cy A cc nL own) {x y : Int32} {off : Int} {tgt : Nat} (hdg : decode cc pc = .ok (.if_icmp .le off, 3)) (ht : (pc : Int) + off = (tgt : Int)) (kt : x ≤ y → pq_At p l e R s m args below meth c Q D cy A nL cells slots tgt S lc st) (kf : ¬ x ≤ y → pq_At p l e R s m args below meth c Q D cy A nL cells slots (pc + 3) S lc st) : pq_At p l e R s m args below meth c Q D cy A nL cells slots pc S lc (.int y :: .int x :: st) := fun H locs ls hT hP hD hS hl => lv_icmp_le F.1 F.2.1 hdg ht (fun h => kt h H locs ls hT hP hD hS hl) (fun h => kf h H locs ls hT hP hD hS hl)
/-! ===== fields ===== -/
def pq_Lk (own : String) (index ci k : Nat) : Prop := ∃ (C : String) (T : u_T) (N : Nat), vwCl[ci]? = some (C, T, N) ∧ k < N ∧ pq_nf ci = N ∧ (∀ w ∈ u_ws C T N, w ∈ gtb) ∧ (Cond.fieldLink own index (T k).1 (T k).2.1 (T k).2.2.1 ∈ gtb ∨ ∃ host, Cond.fieldLinkNest own index (T k).1 (T k).2.1 (T k).2.2.1 host ∈ ntb)
theorem pq_get (F : pq_Fx p R s m args c D cy A cc nL own) {a r k index : Nat} {v : Value} (h : pq_R S a r) (hr : r < 100) (hk : pq_Lk own index (pq_ci r) k) (hv : hO S a k = v) (hdg : decode cc pc = .ok (.getfield index, 3)) (kk : pq_At p l e R s m args below meth c Q D cy A nL cells slots (pc + 3) S lc (v :: st)) : pq_At p l e R s m args below meth c Q D cy A nL cells slots pc S lc (.ref a :: st) := by
  intro H locs ls hT hP hD hS hl
  obtain ⟨hx, hb, hml, hown, hts, hK, hA, hN, -⟩ := F
  obtain ⟨C, T, N, h1, h2, h3, h4, h5⟩ := hk
  obtain ⟨q0, hq⟩ := pq_at (cy := cy) h
  rw [pq_eO h hr] at hq
  have hf : ((List.range (pq_nf (pq_ci r))).map (S.2.2.1 a))[k]? = some v := by
    rw [List.getElem?_map, List.getElem?_range (by omega)]
    exact congrArg some hv
  rcases h5 with h5 | ⟨host, h5⟩
  · exact va_get hx hb hts h4 hown hK hP q0 hq h1 k h2 (hts _ h5) (fun _ h => h) hf hdg (kk H locs ls hT hP hD hS hl)
  · exact va_getN hx hb hts h4 hown hK hP q0 hq h1 k h2 (va_Nw.use rfl (hN _ h5)) (fun _ h => h) hf hdg (kk H locs ls hT hP hD hS hl)
theorem pq_getR (F : pq_Fx p R s m args c D cy A cc nL own) {a r k index t : Nat} {lo hi : Int} (h : pq_R S a r) (hr : r < 100) (hk : pq_Lk own index (pq_ci r) k) (ht : pq_ft r k = (t + 3, lo, hi)) (hdg : decode cc pc = .ok (.getfield index, 3)) (kk : ∀ b, hO S a k = .ref b → pq_R S b t → pq_At p l e R s m args below meth c Q D cy A nL cells slots (pc + 3) S lc (.ref b :: st)) : pq_At p l e R s m args below meth c Q D cy A nL cells slots pc S lc (.ref a :: st) := by
  intro H locs ls hT
  have h1 := hT.1 a r h hr k
  rw [ht] at h1
  obtain ⟨-, b, hb, hb2⟩ := h1
  exact pq_get F h hr hk hb hdg (kk b hb hb2) H locs ls hT
theorem pq_getI (F : pq_Fx p R s m args c D cy A cc nL own) {a r k index : Nat} {lo hi : Int} (h : pq_R S a r) (hr : r < 100) (hk : pq_Lk own index (pq_ci r) k) (ht : pq_ft r k = (1, lo, hi)) (hdg : decode cc pc = .ok (.getfield index, 3)) (kk : ∀ x : Int32, hO S a k = .int x → lo ≤ x.toInt → x.toInt ≤ hi → pq_At p l e R s m args below meth c Q D cy A nL cells slots (pc + 3) S lc (.int x :: st)) : pq_At p l e R s m args below meth c Q D cy A nL cells slots pc S lc (.ref a :: st) := by
  intro H locs ls hT
  have h1 := hT.1 a r h hr k
  rw [ht] at h1
  obtain ⟨x, hx, h2, h3⟩ := h1
  exact pq_get F h hr hk hx hdg (kk x hx h2 h3) H locs ls hT
theorem pq_getJ (F : pq_Fx p R s m args c D cy A cc nL own) {a r k index : Nat} {lo hi : Int} (h : pq_R S a r) (hr : r < 100) (hk : pq_Lk own index (pq_ci r) k) (ht : pq_ft r k = (2, lo, hi)) (hdg : decode cc pc = .ok (.getfield index, 3)) (kk : ∀ x : Int64, hO S a k = .long x → pq_At p l e R s m args below meth c Q D cy A nL cells slots (pc + 3) S lc (.long x :: st)) : pq_At p l e R s m args below meth c Q D cy A nL cells slots pc S lc (.ref a :: st) := by
  intro H locs ls hT
  have h1 := hT.1 a r h hr k
  rw [ht] at h1
  obtain ⟨x, hx⟩ := h1
  exact pq_get F h hr hk hx hdg (kk x hx) H locs ls hT
/-- a field that isn't final, its type, the names of its fellows -/
def pq_Lp (own : String) (index ci k : Nat) (ty : FieldType) : Prop := ∃ (C : String) (T : u_T) (N : Nat) (ty0 : Nat → FieldType), vwCl[ci]? = some (C, T, N) ∧ k < N ∧ pq_nf ci = N ∧ (∀ w ∈ u_ws C T N, w ∈ gtb) ∧ (Cond.fieldLink own index (T k).1 (T k).2.1 (T k).2.2.1 ∈ gtb ∨ ∃ host, Cond.fieldLinkNest own index (T k).1 (T k).2.1 (T k).2.2.1 host ∈ ntb) ∧ (∀ j, j < N → parseFieldDescriptor (T j).2.2.1 = some (ty0 j)) ∧ (∀ a, a < N → ∀ b, b < N → a ≠ b → (T a).2.1 ≠ (T b).2.1) ∧ ty0 k = ty ∧ (T k).2.2.2 = false
/-- a final field of the method's own, in a constructor -/
def pq_Lf (own : String) (index ci k : Nat) (ty : FieldType) : Prop := ∃ (C : String) (T : u_T) (N : Nat) (ty0 : Nat → FieldType), vwCl[ci]? = some (C, T, N) ∧ k < N ∧ pq_nf ci = N ∧ (∀ w ∈ u_ws C T N, w ∈ gtb) ∧ Cond.fieldLink own index (T k).1 (T k).2.1 (T k).2.2.1 ∈ gtb ∧ (∀ j, j < N → parseFieldDescriptor (T j).2.2.1 = some (ty0 j)) ∧ (∀ a, a < N → ∀ b, b < N → a ≠ b → (T a).2.1 ≠ (T b).2.1) ∧ ty0 k = ty ∧ (T k).2.2.2 = true ∧ (T k).1 = own
theorem pq_put (F : pq_Fx p R s m args c D cy A cc nL own) {a r k index : Nat} {v : Value} {ty : FieldType} (h : pq_R S a r) (hr : r < 100) (hk : pq_Lp own index (pq_ci r) k ty) (hn : narrow ty v = v) (hf : fits ty v = true) (hv : pq_ok (pq_ft r k) S v) (hdg : decode cc pc = .ok (.putfield index, 3)) (kk : pq_At p l e R s m args below meth c Q D cy A nL cells slots (pc + 3) (pq_uO S a k v) lc st) : pq_At p l e R s m args below meth c Q D cy A nL cells slots pc S lc (v :: .ref a :: st) := by
  intro H locs ls hT hP hD hS hl
  obtain ⟨hx, hb, hml, hown, hts, hK, hA, hN, -⟩ := F
  obtain ⟨C, T, N, ty0, h1, h2, h3, h4, h5, h6, h7, h8, h9⟩ := hk
  obtain ⟨q0, hq0⟩ := pq_at (cy := cy) h
  have hq := hq0
  rw [pq_eO h hr] at hq
  have hlen : k < ((List.range (pq_nf (pq_ci r))).map (S.2.2.1 a)).length := by simp; omega
  have fin : ∀ (H1 : Heap) (locs1 : List Loc), va_P D vwCl ((pq_pl cy S).set q0 (a, .inr (pq_ci r, ((List.range (pq_nf (pq_ci r))).map (S.2.2.1 a)).set k v))) H1 → va_D A ((pq_pl cy S).set q0 (a, .inr (pq_ci r, ((List.range (pq_nf (pq_ci r))).map (S.2.2.1 a)).set k v))) → va_S A s.heap H1 locs1 → W p l e R s m args below meth c H1 locs1 cells slots Q (F0 m (pc + 3) ls st) := by
    intro H1 locs1 g1 g2 g3
    rw [pq_wO hD h hr hq0] at g1 g2
    exact kk H1 locs1 ls (hT.uO h hv) g1 g2 g3 hl
  rcases h5 with h5 | ⟨host, h5⟩
  · exact va_put hx hb hts h4 ty0 h6 h7 hown hK hP hD hS q0 hq h1 k h2 (hts _ h5) (fun _ h => h) h9 (h8 ▸ h6 k h2) hn hf hlen hdg fin
  · exact va_putN hx hb hts h4 ty0 h6 h7 hown hK hP hD hS q0 hq h1 k h2 (va_Nw.use rfl (hN _ h5)) (fun _ h => h) h9 (h8 ▸ h6 k h2) hn hf hlen hdg fin
theorem pq_putF (F : pq_Fx p R s m args c D cy A cc nL own) (hin : meth.name = "<init>") {a r k index : Nat} {v : Value} {ty : FieldType} (h : pq_R S a r) (hr : r < 100) (hk : pq_Lf own index (pq_ci r) k ty) (hn : narrow ty v = v) (hf : fits ty v = true) (hv : pq_ok (pq_ft r k) S v) (hdg : decode cc pc = .ok (.putfield index, 3)) (kk : pq_At p l e R s m args below meth c Q D cy A nL cells slots (pc + 3) (pq_uO S a k v) lc st) : pq_At p l e R s m args below meth c Q D cy A nL cells slots pc S lc (v :: .ref a :: st) := by
  intro H locs ls hT hP hD hS hl
  obtain ⟨hx, hb, hml, hown, hts, hK, hA, hN, -⟩ := F
  obtain ⟨C, T, N, ty0, h1, h2, h3, h4, h5, h6, h7, h8, h9, h10⟩ := hk
  obtain ⟨q0, hq0⟩ := pq_at (cy := cy) h
  have hq := hq0
  rw [pq_eO h hr] at hq
  have hlen : k < ((List.range (pq_nf (pq_ci r))).map (S.2.2.1 a)).length := by simp; omega
  exact va_putF hx hb hts h4 ty0 h6 h7 hown hK hP hD hS q0 hq h1 k h2 (hts _ h5) (fun _ h => h) h9 hin h10 (h8 ▸ h6 k h2) hn hf hlen hdg (by
    intro H1 locs1 g1 g2 g3
    rw [pq_wO hD h hr hq0] at g1 g2
    exact kk H1 locs1 ls (hT.uO h hv) g1 g2 g3 hl)
theorem pq_any1 (x : Int32) : (-2147483648 : Int) ≤ x.toInt := Int32.le_toInt x
theorem pq_any2 (x : Int32) : x.toInt ≤ 2147483647 := by
  have := Int32.toInt_lt x
  omega
theorem pq_nb (x : Int32) : (-128 : Int) ≤ (vp_nar .byte x).toInt ∧ (vp_nar .byte x).toInt ≤ 127 := by
  rw [vp_nar_byte]
  have h1 := Int8.le_toInt x.toInt8
  have h2 := Int8.toInt_lt x.toInt8
  rw [Int8.toInt_toInt32]
  omega
theorem pq_putI (F : pq_Fx p R s m args c D cy A cc nL own) {a r k index : Nat} {x : Int32} {lo hi : Int} (h : pq_R S a r) (hr : r < 100) (hk : pq_Lp own index (pq_ci r) k .int) (ht : pq_ft r k = (1, lo, hi)) (h1 : lo ≤ x.toInt) (h2 : x.toInt ≤ hi) (hdg : decode cc pc = .ok (.putfield index, 3)) (kk : pq_At p l e R s m args below meth c Q D cy A nL cells slots (pc + 3) (pq_uO S a k (.int x)) lc st) : pq_At p l e R s m args below meth c Q D cy A nL cells slots pc S lc (.int x :: .ref a :: st) :=
  pq_put F h hr hk rfl rfl (by rw [ht]; exact ⟨x, rfl, h1, h2⟩) hdg kk
theorem pq_ks {S : HS} {a k : Nat} {v : Value} : hO (pq_uO S a k v) a k = v := by
  show va_up S.2.2.1 a (va_up (S.2.2.1 a) k v) a k = v
  rw [va_up_self, va_up_self]
theorem pq_rd {S : HS} {a k j : Nat} {v w : Value} (h : hO (pq_uO S a k v) a j = w) (hne : j ≠ k) : hO S a j = w := by
  have h2 : va_up S.2.2.1 a (va_up (S.2.2.1 a) k v) a j = w := h
  rw [va_up_self, va_up_ne _ _ hne] at h2; exact h2
theorem pq_kp {S : HS} {a k j : Nat} {v w : Value} (h : hO S a j = w) (hne : j ≠ k) : hO (pq_uO S a k v) a j = w := by
  show va_up S.2.2.1 a (va_up (S.2.2.1 a) k v) a j = w
  rw [va_up_self, va_up_ne _ _ hne]; exact h
theorem pq_ko {S : HS} {a b ra rb k j : Nat} {v w : Value} (h : hO S b j = w) (hb : pq_R S b rb) (ha : pq_R S a ra) (hne : rb ≠ ra) : hO (pq_uO S a k v) b j = w := by
  show va_up S.2.2.1 a (va_up (S.2.2.1 a) k v) b j = w
  rw [va_up_ne _ _ (fun e => hne (by rw [← hb.2, e]; exact ha.2))]; exact h
theorem pq_fits_int {x : Int32} : narrow .int (.int x) = .int x ∧ fits .int (.int x) = true := ⟨rfl, rfl⟩
/-! ===== rows of numbers ===== -/
theorem pq_iald (F : pq_Fx p R s m args c D cy A cc nL own) {a r : Nat} {i : Int32} {n1 n2 : Nat} {lo hi : Int} (h : pq_R S a r) (h1 : 120 ≤ r) (h2 : r < 180) (hal : pq_al r = (n1, n2, lo, hi)) (hin : n1 ≤ hN S a → hN S a ≤ n2 → vp_in i (hN S a)) (hdg : decode cc pc = .ok (.iaload, 1)) (kk : ∀ x : Int32, x = hI S a i.toNatClampNeg → lo ≤ x.toInt → x.toInt ≤ hi → pq_At p l e R s m args below meth c Q D cy A nL cells slots (pc + 1) S lc (.int x :: st)) : pq_At p l e R s m args below meth c Q D cy A nL cells slots pc S lc (.int i :: .ref a :: st) := by
  intro H locs ls hT hP hD hS hl
  obtain ⟨q0, hq⟩ := pq_at (cy := cy) h
  rw [pq_eI h h1 h2] at hq
  have hb := ((hT.2 a r h (by omega)).2 i.toNatClampNeg).1
  have hn := (hT.2 a r h (by omega)).1
  rw [hal] at hb hn
  exact va_iald F.1 F.2.1 F.2.2.2.2.2.1 hP q0 1 hq rfl (hin hn.1 hn.2) hdg (kk _ rfl hb.1 hb.2 H locs ls hT hP hD hS hl)
theorem pq_bald (F : pq_Fx p R s m args c D cy A cc nL own) {a r : Nat} {i : Int32} {n1 n2 : Nat} {lo hi : Int} (h : pq_R S a r) (h1 : 100 ≤ r) (h2 : r < 120) (hal : pq_al r = (n1, n2, lo, hi)) (hin : n1 ≤ hN S a → hN S a ≤ n2 → vp_in i (hN S a)) (hdg : decode cc pc = .ok (.baload, 1)) (kk : ∀ x : Int32, x = hI S a i.toNatClampNeg → lo ≤ x.toInt → x.toInt ≤ hi → pq_At p l e R s m args below meth c Q D cy A nL cells slots (pc + 1) S lc (.int x :: st)) : pq_At p l e R s m args below meth c Q D cy A nL cells slots pc S lc (.int i :: .ref a :: st) := by
  intro H locs ls hT hP hD hS hl
  obtain ⟨q0, hq⟩ := pq_at (cy := cy) h
  rw [pq_eB h h1 h2] at hq
  have hb := ((hT.2 a r h (by omega)).2 i.toNatClampNeg).1
  have hn := (hT.2 a r h (by omega)).1
  rw [hal] at hb hn
  exact va_bald F.1 F.2.1 F.2.2.2.2.2.1 hP q0 0 hq rfl (hin hn.1 hn.2) hdg (kk _ rfl hb.1 hb.2 H locs ls hT hP hD hS hl)
theorem pq_zald (F : pq_Fx p R s m args c D cy A cc nL own) {a r : Nat} {i : Int32} {n1 n2 : Nat} {lo hi : Int} (h : pq_R S a r) (h1 : 200 ≤ r) (h2 : r < 220) (hal : pq_al r = (n1, n2, lo, hi)) (hin : n1 ≤ hN S a → hN S a ≤ n2 → vp_in i (hN S a)) (hdg : decode cc pc = .ok (.baload, 1)) (kk : ∀ x : Int32, x = hI S a i.toNatClampNeg → lo ≤ x.toInt → x.toInt ≤ hi → pq_At p l e R s m args below meth c Q D cy A nL cells slots (pc + 1) S lc (.int x :: st)) : pq_At p l e R s m args below meth c Q D cy A nL cells slots pc S lc (.int i :: .ref a :: st) := by
  intro H locs ls hT hP hD hS hl
  obtain ⟨q0, hq⟩ := pq_at (cy := cy) h
  rw [pq_eZ h h1 h2] at hq
  have hb := ((hT.2 a r h (by omega)).2 i.toNatClampNeg).1
  have hn := (hT.2 a r h (by omega)).1
  rw [hal] at hb hn
  exact va_zald F.1 F.2.1 F.2.2.2.2.2.1 hP q0 3 hq rfl (hin hn.1 hn.2) hdg (kk _ rfl hb.1 hb.2 H locs ls hT hP hD hS hl)
theorem pq_lald (F : pq_Fx p R s m args c D cy A cc nL own) {a r : Nat} {i : Int32} {n1 n2 : Nat} {lo hi : Int} (h : pq_R S a r) (h1 : 180 ≤ r) (h2 : r < 200) (hal : pq_al r = (n1, n2, lo, hi)) (hin : n1 ≤ hN S a → hN S a ≤ n2 → vp_in i (hN S a)) (hdg : decode cc pc = .ok (.laload, 1)) (kk : ∀ x : Int64, x = hJ S a i.toNatClampNeg → pq_At p l e R s m args below meth c Q D cy A nL cells slots (pc + 1) S lc (.long x :: st)) : pq_At p l e R s m args below meth c Q D cy A nL cells slots pc S lc (.int i :: .ref a :: st) := by
  intro H locs ls hT hP hD hS hl
  obtain ⟨q0, hq⟩ := pq_at (cy := cy) h
  rw [pq_eJ h h1 h2] at hq
  have hn := (hT.2 a r h (by omega)).1
  rw [hal] at hn
  exact va_lald F.1 F.2.1 F.2.2.2.2.2.1 hP q0 2 hq rfl (hin hn.1 hn.2) hdg (kk _ rfl H locs ls hT hP hD hS hl)
theorem pq_e_uI {S : HS} {a : Nat} {f : Nat → Int32} {b : Nat} (hb : b ≠ a) : pq_e cy (pq_uI S a f) b = pq_e cy S b := by
  unfold pq_e
  dsimp only [hK, hO, hI, hJ, hN, hR, pq_uI]
  rw [va_up_ne _ _ hb]
  rfl
theorem pq_e_uJ {S : HS} {a : Nat} {f : Nat → Int64} {b : Nat} (hb : b ≠ a) : pq_e cy (pq_uJ S a f) b = pq_e cy S b := by
  unfold pq_e
  dsimp only [hK, hO, hI, hJ, hN, hR, pq_uJ]
  rw [va_up_ne _ _ hb]
  rfl
theorem pq_iast (F : pq_Fx p R s m args c D cy A cc nL own) {a r : Nat} {i x : Int32} {n1 n2 : Nat} {lo hi : Int} (h : pq_R S a r) (h1 : 120 ≤ r) (h2 : r < 180) (hal : pq_al r = (n1, n2, lo, hi)) (hin : n1 ≤ hN S a → hN S a ≤ n2 → vp_in i (hN S a)) (hx : lo ≤ x.toInt ∧ x.toInt ≤ hi) (hdg : decode cc pc = .ok (.iastore, 1)) (kk : pq_At p l e R s m args below meth c Q D cy A nL cells slots (pc + 1) (pq_uI S a (upd (hI S a) i.toNatClampNeg x)) lc st) : pq_At p l e R s m args below meth c Q D cy A nL cells slots pc S lc (.int x :: .int i :: .ref a :: st) := by
  intro H locs ls hT hP hD hS hl
  obtain ⟨q0, hq0⟩ := pq_at (cy := cy) h
  have hq := hq0
  rw [pq_eI h h1 h2] at hq
  have hb := (hT.2 a r h (by omega)).2
  have hn := (hT.2 a r h (by omega)).1
  have hn0 := hn
  rw [hal] at hn
  refine va_iast F.1 F.2.1 F.2.2.2.2.2.1 hP hD hS q0 1 hq rfl (hin hn.1 hn.2) hdg (fun H1 locs1 g1 g2 g3 => ?_)
  have hR' : pq_R (pq_uI S a (upd (hI S a) i.toNatClampNeg x)) a r := h
  have he := pq_wA (S' := pq_uI S a (upd (hI S a) i.toNatClampNeg x)) hD h hq0 rfl (pq_eI hR' h1 h2) (fun b hb => pq_e_uI hb)
  rw [show (pq_uI S a (upd (hI S a) i.toNatClampNeg x)).2.2.2.1 a = upd (hI S a) i.toNatClampNeg x from va_up_self _ _ _] at he
  rw [show (pq_pl cy S).set q0 (a, Sum.inl (cy 1, S.2.2.2.2.2.1 a, Sum.inl (upd (S.2.2.2.1 a) i.toNatClampNeg x))) = _ from he] at g1 g2
  refine kk H1 locs1 ls (hT.uI h (fun j => ?_)) g1 g2 g3 hl
  by_cases e : j = i.toNatClampNeg
  · subst e; rw [pk_us, hal]; exact hx
  · rw [pk_un e]; exact (hb j).1
theorem pq_bast (F : pq_Fx p R s m args c D cy A cc nL own) {a r : Nat} {i x : Int32} {n1 n2 : Nat} {lo hi : Int} (h : pq_R S a r) (h1 : 100 ≤ r) (h2 : r < 120) (hal : pq_al r = (n1, n2, lo, hi)) (hin : n1 ≤ hN S a → hN S a ≤ n2 → vp_in i (hN S a)) (hx : lo ≤ (vp_nar .byte x).toInt ∧ (vp_nar .byte x).toInt ≤ hi) (hdg : decode cc pc = .ok (.bastore, 1)) (kk : pq_At p l e R s m args below meth c Q D cy A nL cells slots (pc + 1) (pq_uI S a (upd (hI S a) i.toNatClampNeg (vp_nar .byte x))) lc st) : pq_At p l e R s m args below meth c Q D cy A nL cells slots pc S lc (.int x :: .int i :: .ref a :: st) := by
  intro H locs ls hT hP hD hS hl
  obtain ⟨q0, hq0⟩ := pq_at (cy := cy) h
  have hq := hq0
  rw [pq_eB h h1 h2] at hq
  have hb := (hT.2 a r h (by omega)).2
  have hn := (hT.2 a r h (by omega)).1
  have hn0 := hn
  rw [hal] at hn
  refine va_bast F.1 F.2.1 F.2.2.2.2.2.1 hP hD hS q0 0 hq rfl (hin hn.1 hn.2) hdg (fun H1 locs1 g1 g2 g3 => ?_)
  have hR' : pq_R (pq_uI S a (upd (hI S a) i.toNatClampNeg (vp_nar .byte x))) a r := h
  have he := pq_wA (S' := pq_uI S a (upd (hI S a) i.toNatClampNeg (vp_nar .byte x))) hD h hq0 rfl (pq_eB hR' h1 h2) (fun b hb => pq_e_uI hb)
  rw [show (pq_uI S a (upd (hI S a) i.toNatClampNeg (vp_nar .byte x))).2.2.2.1 a = upd (hI S a) i.toNatClampNeg (vp_nar .byte x) from va_up_self _ _ _] at he
  rw [show (pq_pl cy S).set q0 (a, Sum.inl (cy 0, S.2.2.2.2.2.1 a, Sum.inl (upd (S.2.2.2.1 a) i.toNatClampNeg (vp_nar .byte x)))) = _ from he] at g1 g2
  refine kk H1 locs1 ls (hT.uI h (fun j => ?_)) g1 g2 g3 hl
  by_cases e : j = i.toNatClampNeg
  · subst e; rw [pk_us, hal]; exact hx
  · rw [pk_un e]; exact (hb j).1
theorem pq_zast (F : pq_Fx p R s m args c D cy A cc nL own) {a r : Nat} {i x : Int32} {n1 n2 : Nat} {lo hi : Int} (h : pq_R S a r) (h1 : 200 ≤ r) (h2 : r < 220) (hal : pq_al r = (n1, n2, lo, hi)) (hin : n1 ≤ hN S a → hN S a ≤ n2 → vp_in i (hN S a)) (hx : lo ≤ (vp_nar .boolean x).toInt ∧ (vp_nar .boolean x).toInt ≤ hi) (hdg : decode cc pc = .ok (.bastore, 1)) (kk : pq_At p l e R s m args below meth c Q D cy A nL cells slots (pc + 1) (pq_uI S a (upd (hI S a) i.toNatClampNeg (vp_nar .boolean x))) lc st) : pq_At p l e R s m args below meth c Q D cy A nL cells slots pc S lc (.int x :: .int i :: .ref a :: st) := by
  intro H locs ls hT hP hD hS hl
  obtain ⟨q0, hq0⟩ := pq_at (cy := cy) h
  have hq := hq0
  rw [pq_eZ h h1 h2] at hq
  have hb := (hT.2 a r h (by omega)).2
  have hn := (hT.2 a r h (by omega)).1
  have hn0 := hn
  rw [hal] at hn
  refine va_zast F.1 F.2.1 F.2.2.2.2.2.1 hP hD hS q0 3 hq rfl (hin hn.1 hn.2) hdg (fun H1 locs1 g1 g2 g3 => ?_)
  have hR' : pq_R (pq_uI S a (upd (hI S a) i.toNatClampNeg (vp_nar .boolean x))) a r := h
  have he := pq_wA (S' := pq_uI S a (upd (hI S a) i.toNatClampNeg (vp_nar .boolean x))) hD h hq0 rfl (pq_eZ hR' h1 h2) (fun b hb => pq_e_uI hb)
  rw [show (pq_uI S a (upd (hI S a) i.toNatClampNeg (vp_nar .boolean x))).2.2.2.1 a = upd (hI S a) i.toNatClampNeg (vp_nar .boolean x) from va_up_self _ _ _] at he
  rw [show (pq_pl cy S).set q0 (a, Sum.inl (cy 3, S.2.2.2.2.2.1 a, Sum.inl (upd (S.2.2.2.1 a) i.toNatClampNeg (vp_nar .boolean x)))) = _ from he] at g1 g2
  refine kk H1 locs1 ls (hT.uI h (fun j => ?_)) g1 g2 g3 hl
  by_cases e : j = i.toNatClampNeg
  · subst e; rw [pk_us, hal]; exact hx
  · rw [pk_un e]; exact (hb j).1
theorem pq_last (F : pq_Fx p R s m args c D cy A cc nL own) {a r : Nat} {i : Int32} {x : Int64} {n1 n2 : Nat} {lo hi : Int} (h : pq_R S a r) (h1 : 180 ≤ r) (h2 : r < 200) (hal : pq_al r = (n1, n2, lo, hi)) (hin : n1 ≤ hN S a → hN S a ≤ n2 → vp_in i (hN S a)) (hdg : decode cc pc = .ok (.lastore, 1)) (kk : pq_At p l e R s m args below meth c Q D cy A nL cells slots (pc + 1) (pq_uJ S a (vp_updL (hJ S a) i.toNatClampNeg x)) lc st) : pq_At p l e R s m args below meth c Q D cy A nL cells slots pc S lc (.long x :: .int i :: .ref a :: st) := by
  intro H locs ls hT hP hD hS hl
  obtain ⟨q0, hq0⟩ := pq_at (cy := cy) h
  have hq := hq0
  rw [pq_eJ h h1 h2] at hq
  have hn := (hT.2 a r h (by omega)).1
  have hn0 := hn
  rw [hal] at hn
  refine va_last F.1 F.2.1 F.2.2.2.2.2.1 hP hD hS q0 2 hq rfl (hin hn.1 hn.2) hdg (fun H1 locs1 g1 g2 g3 => ?_)
  have hR' : pq_R (pq_uJ S a (vp_updL (hJ S a) i.toNatClampNeg x)) a r := h
  have he := pq_wA (S' := pq_uJ S a (vp_updL (hJ S a) i.toNatClampNeg x)) hD h hq0 rfl (pq_eJ hR' h1 h2) (fun b hb => pq_e_uJ hb)
  rw [show (pq_uJ S a (vp_updL (hJ S a) i.toNatClampNeg x)).2.2.2.2.1 a = vp_updL (hJ S a) i.toNatClampNeg x from va_up_self _ _ _] at he
  rw [show (pq_pl cy S).set q0 (a, Sum.inl (cy 2, S.2.2.2.2.2.1 a, Sum.inr (Sum.inl (vp_updL (S.2.2.2.2.1 a) i.toNatClampNeg x)))) = _ from he] at g1 g2
  exact kk H1 locs1 ls hT.uJ g1 g2 g3 hl
theorem pq_alen (F : pq_Fx p R s m args c D cy A cc nL own) {a r n1 n2 : Nat} {lo hi : Int} (h : pq_R S a r) (h1 : 100 ≤ r) (hal : pq_al r = (n1, n2, lo, hi)) (hdg : decode cc pc = .ok (.arraylength, 1)) (kk : n1 ≤ hN S a → hN S a ≤ n2 → pq_At p l e R s m args below meth c Q D cy A nL cells slots (pc + 1) S lc (.int (nI (hN S a)) :: st)) : pq_At p l e R s m args below meth c Q D cy A nL cells slots pc S lc (.ref a :: st) := by
  intro H locs ls hT hP hD hS hl
  obtain ⟨q0, hq⟩ := pq_at (cy := cy) h
  have hb := (hT.2 a r h h1).1
  rw [hal] at hb
  have k2 := kk hb.1 hb.2 H locs ls hT hP hD hS hl
  obtain ⟨hm, hr⟩ := id h
  simp only [pq_e, hK, hr] at hq
  rw [if_neg (by omega)] at hq
  by_cases c1 : r < 120
  · rw [if_pos c1] at hq; exact va_alen F.1 F.2.1 F.2.2.2.2.2.1 hP q0 0 hq rfl rfl hdg k2
  rw [if_neg c1] at hq
  by_cases c2 : r < 180
  · rw [if_pos c2] at hq; exact va_alen F.1 F.2.1 F.2.2.2.2.2.1 hP q0 1 hq rfl rfl hdg k2
  rw [if_neg c2] at hq
  by_cases c3 : r < 200
  · rw [if_pos c3] at hq; exact va_alen F.1 F.2.1 F.2.2.2.2.2.1 hP q0 2 hq rfl rfl hdg k2
  rw [if_neg c3] at hq
  by_cases c4 : r < 220
  · rw [if_pos c4] at hq; exact va_alen F.1 F.2.1 F.2.2.2.2.2.1 hP q0 3 hq rfl rfl hdg k2
  rw [if_neg c4] at hq
  by_cases c5 : r < 230
  · rw [if_pos c5] at hq; exact va_alen F.1 F.2.1 F.2.2.2.2.2.1 hP q0 4 hq rfl rfl hdg k2
  rw [if_neg c5] at hq
  exact va_alen F.1 F.2.1 F.2.2.2.2.2.1 hP q0 5 hq rfl rfl hdg k2
end PQ
