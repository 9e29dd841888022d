theorem pq_in1 {w : Cond} {i : Nat} (h : tables_1_1[i]? = some w) : w ∈ lw_tbl := List.mem_append_right _ (List.mem_append_left _ (List.mem_of_getElem? h))
theorem pq_in2 {w : Cond} {i : Nat} (h : tables_1_2[i]? = some w) : w ∈ lw_tbl := List.mem_append_right _ (List.mem_append_right _ (List.mem_append_left _ (List.mem_of_getElem? h)))
theorem pq_in3 {w : Cond} {i : Nat} (h : tables_1_3[i]? = some w) : w ∈ lw_tbl := List.mem_append_right _ (List.mem_append_right _ (List.mem_append_right _ (List.mem_append_left _ (List.mem_of_getElem? h))))
theorem pq_in4 {w : Cond} {i : Nat} (h : tables_1_4[i]? = some w) : w ∈ lw_tbl := List.mem_append_right _ (List.mem_append_right _ (List.mem_append_right _ (List.mem_append_right _ (List.mem_append_left _ (List.mem_of_getElem? h)))))
theorem pq_in5 {w : Cond} {i : Nat} (h : tables_1_5[i]? = some w) : w ∈ lw_tbl := List.mem_append_right _ (List.mem_append_right _ (List.mem_append_right _ (List.mem_append_right _ (List.mem_append_right _ (List.mem_append_left _ (List.mem_of_getElem? h))))))
theorem pq_in6 {w : Cond} {i : Nat} (h : tables_1_6[i]? = some w) : w ∈ lw_tbl := List.mem_append_right _ (List.mem_append_right _ (List.mem_append_right _ (List.mem_append_right _ (List.mem_append_right _ (List.mem_append_right _ (List.mem_append_left _ (List.mem_of_getElem? h)))))))
theorem pq_in7 {w : Cond} {i : Nat} (h : tables_1_7[i]? = some w) : w ∈ lw_tbl := List.mem_append_right _ (List.mem_append_right _ (List.mem_append_right _ (List.mem_append_right _ (List.mem_append_right _ (List.mem_append_right _ (List.mem_append_right _ (List.mem_of_getElem? h)))))))
/-! ===== the law's entry: what the tables and the start give ===== -/
theorem pq_wT {A : Array Value} {s : State} (hts : ∀ w ∈ lw_tbl, w.before A s = true) : ∀ w ∈ gtb, w.before A s = true := fun w hw => hts w (List.mem_filter.mp hw).1
theorem pq_wNN {A : Array Value} {s : State} (hts : ∀ w ∈ lw_tbl, w.before A s = true) : pq_N s := fun w hw => va_Nw.of (pq_onT (List.mem_filter.mp hw).2) (hts w (List.mem_filter.mp hw).1)
theorem pq_wD {A : Array Value} {s : State} (hts : ∀ w ∈ lw_tbl, w.before A s = true) : pq_Dn s := ⟨va_Nw.of rfl (hts _ (pq_in2 (i := 142) rfl)), va_Nw.of rfl (hts _ (pq_in2 (i := 144) rfl)), va_Nw.of rfl (hts _ (pq_in2 (i := 146) rfl))⟩
/-- nothing that was there is written, once all that is written is new -/
theorem pq_same1 {s t : State} {L : List Loc} {mc ms : Nat} (h : s.sameButNew t L mc ms) (hL : ∀ z ∈ L, s.heap.size ≤ z.base) : s.sameButNew t [] mc ms := by
  obtain ⟨h1, h2, h3, h4, h5, h6⟩ := h
  refine ⟨h1, h2, h3, h4, h5, fun a c hc => ?_⟩
  obtain ⟨c', k1, k2, k3, k4⟩ := h6 a c hc
  exact ⟨c', k1, k2, k3, fun i _ => k4 i (fun hm => absurd (Array.getElem?_eq_some_iff.mp hc).1 (Nat.not_lt.mpr (hL _ hm)))⟩
/-- the pool at the law's entry: nothing -/
def pq_S0 : HS := ([], (fun _ => 0), (fun _ _ => .null), (fun _ _ => 0), (fun _ _ => 0), (fun _ => 0), (fun _ _ => none))
theorem pq_S0A {cy : Nat → ClassId} {sz q : Nat} (h : va_A (pq_pl cy pq_S0) sz q) : sz ≤ q := by
  rcases h with ⟨k, e, h⟩ | h
  · have h' : ([] : va_W)[k]? = some (q, e) := h
    simp at h'
  · exact h
theorem pq_S0P {D : va_G} {cy : Nat → ClassId} {H : Heap} : va_P D vwCl (pq_pl cy pq_S0) H := fun k q h => by
  have h' : ([] : va_W)[k]? = some q := h
  simp at h'
theorem pq_S0D {A : Nat → Prop} {cy : Nat → ClassId} : va_D A (pq_pl cy pq_S0) := ⟨fun i j p q h _ _ => by
  have h' : ([] : va_W)[i]? = some p := h
  simp at h', fun k q h => by
  have h' : ([] : va_W)[k]? = some q := h
  simp at h'⟩
theorem pq_S0T : pq_T pq_S0 := ⟨fun a r h => absurd h.1 List.not_mem_nil, fun a r h => absurd h.1 List.not_mem_nil⟩
def R_law : String := "PatternPairsLaw"
def lw_P (b : Addr) (xs : List Int32) (args : Array Value) (s : State) : Prop := args = #[.ref b] ∧ s.IntsAt b xs ∧ xs.length ≤ 384 ∧ (Jvm.Cond.and given_1 narrow_1).before args s = true
def lw_Q (_ : Array Value) (s : State) (o : Outcome) (t : State) : Prop := o = .returned (some (.int 1)) ∧ Framed s o t [] 600128 7301098
def lw_Z (below : List Frame) (a : Array Value) (s : State) : State → Prop := fun t => ∃ o, t.status = .running ∧ Ended t below o ∧ lw_Q a s o t
def lw_At (p : Program) (s : State) (m : MethodId) (meth : Method) (c : Code) (b L : Nat) (xs : Nat → Int32) : Prop :=
  p.tables.exec = Jvm.exec ∧ c.code = code ∧ meth.sig.returnType = ret ∧ c.maxLocals = 8 ∧ s.vm.findClass R_law = some m.cls ∧ (∀ w ∈ lw_tbl, w.before #[Value.ref b] s = true) ∧ va_X b L xs s s.heap ∧ b < s.heap.size ∧ meth.locks = false ∧ (Jvm.Cond.and given_1 narrow_1).before #[Value.ref b] s = true
theorem pq_lawW {p : Program} {e : Env} {s : State} {m : MethodId} {below : List Frame} {meth : Method} {c : Code} (l : Launch) (hl0 : l.stackTraces = false) {b L : Nat} {xs : Nat → Int32} (hL : L ≤ 384) (C0 : lw_At p s m meth c b L xs) (D : va_G) (cy : Nat → ClassId) (hOct : ∀ (S : HS) (a : Nat) (ha : pq_R S a 13) (pi : Int32) (ou : Nat) (hou : pq_R S ou 186) (t : Int32) (np nq : Nat) (hIx : pq_Ix S a t np nq) (hol : hN S ou = 1), pq_CH l D cy yL_octet cL_octet 4 (some .int) [(0, 9, 12, 39)] 7 1 6 S [.ref a, .int pi, .ref ou] (fun v S2 => pq_Fr [(186, 0)] S S2 ∧ ∃ x : Int32, v = some (.int x) ∧ 0 ≤ x.toInt ∧ x.toInt ≤ 1 ∧ (pq_Ix S2 a t np nq)) pq_Dn) (hK : va_K D vwCl (pq_ty cy) s) (hB : pq_B cy (va_A (pq_pl cy pq_S0) s.heap.size) s s.heap) (hNc : va_Nc "java/lang/UnsupportedOperationException" "java/lang/IllegalArgumentException" s ∧ va_Nc "java/lang/IndexOutOfBoundsException" "java/lang/IllegalArgumentException" s ∧ va_Nc "java/lang/IndexOutOfBoundsException" "java/lang/UnsupportedOperationException" s) : W p l e room_1 s m #[Value.ref b] below meth c s.heap [] 0 0 (lw_Z below #[Value.ref b] s) (entryFrame m ([Value.ref b] : List Value).toArray 8) := by
  obtain ⟨hx, hb, hr, hml, hown, hts, hX, hbl, hlk, -⟩ := C0
  have hl := lv_entry [Value.ref b] (n := 8) (Nat.le_of_ble_eq_true rfl)
  rw [lg_entry_eq]
  generalize (lg_sl [Value.ref b] ++ List.replicate (8 - (lg_sl [Value.ref b]).length) Slot.unset).toArray = ls at hl ⊢
  have K := k_L_law l D cy hl0 pq_S0 b L xs hL hOct (e := e) (below := below) (meth := meth) (A := va_A (pq_pl cy pq_S0) s.heap.size) (show pq_Fx p room_1 s m #[Value.ref b] c D cy (va_A (pq_pl cy pq_S0) s.heap.size) cL_law 8 yL_law.cls from ⟨hx, hb, hml, hown, pq_wT hts, hK, fun q h => Or.inr h, pq_wNN hts, hB⟩) hr hlk rfl ⟨pq_wD hts, hNc⟩ hX hbl (fun h => absurd hbl (Nat.not_lt.mpr (pq_S0A h))) s.heap [] ls pq_S0T pq_S0P pq_S0D va_S.rf ⟨hl.1, hl.2.1, fun i v h => hl.2.2 (i, v) (pq_l0_get h)⟩
  intro T hT X
  obtain ⟨t, st, o, a1, a2, ⟨⟨r, S', rfl, ⟨-, x, rfl, hx1, hx2⟩, -⟩, -⟩, Lc, hfe, hfree⟩ := K T hT X
  have e1 : x = 1 := Int32.toInt_inj.mp (by have : (1 : Int32).toInt = 1 := rfl; omega)
  subst e1
  exact ⟨t, st, _, a1, a2, rfl, ⟨_, rfl⟩, hfe.2.1, pq_same1 hfe.2.2 (fun z hz => pq_S0A (hfree z hz))⟩

