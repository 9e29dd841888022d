section PVC
variable {p : Program} {l : Launch} {e : Env} {R : Room} {s : State} {m : MethodId} {args : Array Value} {below : List Frame} {meth : Method} {c : Code} {H : Heap} {locs : List Loc} {cells slots : Nat} {Q : State → Prop}
variable {mc ms : Nat} {free : Addr → Prop} {A0 A1 : Nat → Prop} {H0 : Heap} {a : Array Value} {pc : Nat} {ls : Array Slot} {st0 rest : List Value}
theorem vx_catch {own name : String} {E : String} {ce : Cell} {q : Addr} (hown : s.vm.findClass own = some m.cls) (pre : List ExceptionTableEntry) (x : ExceptionTableEntry) (suf : List ExceptionTableEntry) (hsplit : c.exceptionTable.toList = pre ++ x :: suf)
    (hpass : ∀ z ∈ pre, covers z pc = false ∨ (z.catchType ≠ 0 ∧ ∃ nm : String, (Cond.classLink own z.catchType nm).before args s = true ∧ va_Nc E nm s)) (hx : covers x pc = true) (h0 : x.catchType ≠ 0)
    (hlink : (Cond.classLink own x.catchType name).before args s = true) (hcast : (Cond.castable E name).before args s = true) (hcell : H[q]? = some ce) (hv : ce.vm = .none) (hcl : s.vm.findClass E = some ce.cls)
    (kk : W p l e R s m args below meth c H locs cells slots Q (F0 m x.handlerPc ls [.ref q])) : vx_W p l e R s m args below meth c H locs cells slots Q (F0 m pc ls rest) q := by
  intro T hT X
  have hpl : e.platform.magicAccessors = ({} : Platform).magicAccessors := by rw [X.admits.platform]
  obtain ⟨c3, c4, hc3, hc4, hasg⟩ := Cond.castable_spec hcast
  cases Option.some.inj (hc3.symm.trans hcl)
  obtain ⟨c5, hc5, hcl5⟩ := Cond.classLink_spec hown hlink e.platform hpl
  cases Option.some.inj (hc4.symm.trans hc5)
  obtain ⟨vm', X', st⟩ := X.thenCaughtThrough q (g := F0 m pc ls rest) rfl (Steps.refl _) (by rw [hT]; exact hcell) (by rw [hv]; rfl) (by obtain ⟨k9, h9, -⟩ := Vm.findClass_spec hcl; exact ⟨k9, h9⟩) pre x suf hsplit
    (fun z hz => by
      rcases hpass z hz with h | ⟨hz0, nm, hl1, hn1⟩
      · exact Or.inl h
      · obtain ⟨c6, hc6, hcl6⟩ := Cond.classLink_spec hown hl1 e.platform hpl
        obtain ⟨a8, b8, h1, h2, h3⟩ := hn1
        cases Option.some.inj (h1.symm.trans hcl)
        cases Option.some.inj (h2.symm.trans hc6)
        exact Or.inr ⟨hz0, _, hcl6, h3⟩) hx (Or.inr ⟨h0, c4, hcl5, hasg⟩)
  obtain ⟨t, a1, b1⟩ := kk (T.setVm vm') hT X'
  exact ⟨t, st.trans a1, b1⟩
end PVC
theorem vx_ofWH {l : Launch} {y : MethodName} {ws ws' : List Cond} {rm : Room} {Pc : Array Value → State → Prop} {Qc : Array Value → State → Outcome → State → Prop} {XC : String → State → State → Prop} {mc ms : Nat} {free : Addr → Prop} {cc : ByteArray} {maxL : Nat} {ret : Option FieldType} {hh : List (Nat × Nat × Nat × Nat)}
    (hy : plainName y.cls = true) (hw : ws = Cond.codeWith y cc maxL ret hh :: ws')
    (body : ∀ p e s m args below meth c s₁, BodyLoose p l y (headSpec ws rm) cc maxL ret e s m args below meth c s₁ → c.maxLocals = maxL → Pc args s →
      W p l e (headSpec ws rm).room s m args below meth c s.heap [] 0 0 (vx_MQ below Qc XC args s mc ms free) (entryFrame m args maxL)) : vx_Met l y ws rm Pc Qc XC mc ms free := by
  refine MetFree.of_bodyS (code := cc) (maxLocals := maxL) (ret := ret) hy ?_ ?_
  · intro args s m h hn
    obtain ⟨m9, meth, c, hn9, h1, h2, h3, h4, -, h5, h6, -⟩ := Cond.codeWith_spec (atoms_spec (ws := ws) h _ (by rw [hw]; exact List.mem_cons_self))
    cases hn.symm.trans hn9
    exact ⟨meth, c, h1, h2, h3, h4, h5, h6⟩
  · intro p e s m args below meth c s₁ B hml hP _
    have hh0 : s₁.heap = s.heap := by rw [B.state]; rfl
    obtain ⟨t, a1, o, b1, b2, b3⟩ := body p e s m args below meth c s₁ B hml hP s₁ hh0 (Stand.of_body B)
    exact ⟨t, o, a1, b1, b2, b3⟩
/-! ===== methods that throw, and methods that catch: over the pool ===== -/
def dtb : List Cond := [.declares (Bundle.initS "java/lang/RuntimeException"), .declares (Bundle.initS "java/lang/Exception"), .declares (Bundle.initS "java/lang/Throwable")]
def pq_Dn (U : State) : Prop := va_Nw (.declares (Bundle.initS "java/lang/RuntimeException")) U ∧ va_Nw (.declares (Bundle.initS "java/lang/Exception")) U ∧ va_Nw (.declares (Bundle.initS "java/lang/Throwable")) U
theorem pq_warmD {x : MethodName} {s U : State} (hW : s.WarmedH U.vm) (hZ : va_Nw (.declares x) s) : va_Nw (.declares x) U := va_tabs rfl (rfl : (s.setVm U.vm).vm = U.vm) (by rw [Cond.declares_setVm hW.alike]; exact hZ)
theorem pq_Dn.warm {s U : State} (hW : s.WarmedH U.vm) (h : pq_Dn s) : pq_Dn U := ⟨pq_warmD hW h.1, pq_warmD hW h.2.1, pq_warmD hW h.2.2⟩
theorem pq_Dn.same {u U : State} (hv : u.vm = U.vm) (h : pq_Dn u) : pq_Dn U := ⟨va_Nw.same rfl hv h.1, va_Nw.same rfl hv h.2.1, va_Nw.same rfl hv h.2.2⟩
theorem pq_Dn.w {w : Cond} {args : Array Value} {s : State} (h : pq_Dn s) (hw : w ∈ dtb) : w.before args s = true := by
  rcases List.mem_cons.mp hw with rfl | hw
  · exact va_tabs rfl rfl h.1
  rcases List.mem_cons.mp hw with rfl | hw
  · exact va_tabs rfl rfl h.2.1
  rcases List.mem_cons.mp hw with rfl | hw
  · exact va_tabs rfl rfl h.2.2
  exact absurd hw List.not_mem_nil
def pq_Xc (D : va_G) (cy : Nat → ClassId) (S : HS) (sz : Nat) (pX : String → HS → Prop) : String → State → State → Prop := fun E st t => (∃ S' : HS, pX E S' ∧ pq_T S' ∧ va_P D vwCl (pq_pl cy S') t.heap ∧ va_D (va_A (pq_pl cy S) sz) (pq_pl cy S')) ∧ va_F (va_A (pq_pl cy S) sz) st t
def pq_CX (l : Launch) (D : va_G) (cy : Nat → ClassId) (y : MethodName) (cc : ByteArray) (nL : Nat) (ret : Option FieldType) (d mc ms : Nat) (S : HS) (av : List Value) (post : Option Value → HS → Prop) (pX : String → HS → Prop) : Prop :=
  ∀ sz : Nat, vx_Met l y (.code y cc nL ret :: gtb) (pq_rm d mc ms) (fun v U => pq_Pc D cy S sz av v U ∧ pq_Dn U) (pq_Qc D cy S sz post) (pq_Xc D cy S sz pX) mc ms (va_A (pq_pl cy S) sz)
def pq_ZX (below : List Frame) (args : Array Value) (s : State) (D : va_G) (cy : Nat → ClassId) (S0 : HS) (mc ms : Nat) (post : Option Value → HS → Prop) (pX : String → HS → Prop) : State → Prop := vx_MQ below (pq_Qc D cy S0 s.heap.size post) (pq_Xc D cy S0 s.heap.size pX) args s mc ms (va_A (pq_pl cy S0) s.heap.size)
theorem pq_startX {l : Launch} {D : va_G} {cy : Nat → ClassId} {y : MethodName} {cc : ByteArray} {nL : Nat} {ret : Option FieldType} {d mc ms : Nat} {S : HS} {av : List Value} {post : Option Value → HS → Prop} {pX : String → HS → Prop} (hy : plainName y.cls = true) (hlen : (lg_sl av).length ≤ nL)
    (body : ∀ p e s m args below meth c A, pq_Fx p (pq_rm d mc ms) s m args c D cy A cc nL y.cls → meth.sig.returnType = ret → meth.locks = false → meth.name = y.name → A = va_A (pq_pl cy S) s.heap.size → ((∀ x ∈ c.exceptionTable.toList, False) ∧ pq_Dn s) →
      pq_At p l e (pq_rm d mc ms) s m args below meth c (pq_ZX below args s D cy S mc ms post pX) D cy A nL 0 0 0 S (pq_l0 av nL) []) : pq_CX l D cy y cc nL ret d mc ms S av post pX := by
  intro sz
  refine vx_ofW (cc := cc) (maxL := nL) (ret := ret) hy rfl ?_
  intro p e s m args below meth c s₁ B hml ht hv
  obtain ⟨⟨rfl, hT, rfl, hP, hK, hD0, hN, hB⟩, hdn⟩ := hv
  have hts := atoms_spec (ws := .code y cc nL ret :: gtb) B.pre
  have hown : s.vm.findClass y.cls = some m.cls := findClass_of_methodNamed B.named
  have hl := lv_entry av (n := nL) hlen
  rw [lg_entry_eq]
  generalize (lg_sl av ++ List.replicate (nL - (lg_sl av).length) Slot.unset).toArray = ls at hl ⊢
  exact body p e s m _ below meth c (va_A (pq_pl cy S) s.heap.size) ⟨B.exec, B.bytes, hml, hown, fun w hw => hts w (List.mem_cons_of_mem _ hw), hK, fun q h => Or.inr h, hN, hB⟩ B.returns B.notSynchronized (name_of_methodNamed B.named B.method).1 rfl ⟨ht, hdn⟩ s.heap [] ls hT hP hD0.self va_S.rf ⟨hl.1, hl.2.1, fun i v h => hl.2.2 (i, v) (pq_l0_get h)⟩
theorem pq_onT {w : Cond} (h : pq_nest w = true) : w.onTables = true := by
  cases w <;> first | rfl | (simp [pq_nest] at h)
def pq_nm2 : List String := ["java/lang/RuntimeException", "java/lang/Exception"]
def pq_Xw (own : String) (ik ic : Nat) (cls : String) : Prop := Bundle.fit cls = true ∧ Cond.classLink own ik cls ∈ gtb ∧ Cond.initialized cls ∈ gtb ∧ ∀ w ∈ vx_atS own ic cls pq_nm2, w ∈ gtb ∨ w ∈ ntb ∨ w ∈ dtb
theorem pq_wN' {w : Cond} {args : Array Value} {s : State} (hN : pq_N s) (h : w ∈ ntb) : w.before args s = true := va_tabs (pq_onT (List.mem_filter.mp h).2) rfl (hN w h)
theorem pq_wot {w : Cond} (h : w ∈ gtb ∨ w ∈ ntb ∨ w ∈ dtb) : vx_ot w = true := by
  unfold vx_ot
  rcases h with h | h | h
  · rw [(List.mem_filter.mp h).2, Bool.or_true]
  · rw [pq_onT (List.mem_filter.mp h).2, Bool.true_or]
  · rcases List.mem_cons.mp h with rfl | h
    · rfl
    rcases List.mem_cons.mp h with rfl | h
    · rfl
    rcases List.mem_cons.mp h with rfl | h
    · rfl
    exact absurd h List.not_mem_nil
section PXX
variable {p : Program} {l : Launch} {e : Env} {R : Room} {s : State} {m : MethodId} {args : Array Value} {below : List Frame} {meth : Method} {c : Code} {Q : State → Prop} {D : va_G} {cy : Nat → ClassId} {A : Nat → Prop} {nL : Nat} {cc : ByteArray} {own : String} {cells slots pc : Nat} {S S0 : HS} {lc : List (Option Value)} {st : List Value} {mc ms : Nat} {post : Option Value → HS → Prop} {pX : String → HS → Prop}
theorem pq_lift (k : pq_At p l e R s m args below meth c (pq_Z below args s D cy S0 mc ms post) D cy A nL cells slots pc S lc st) : pq_At p l e R s m args below meth c (pq_ZX below args s D cy S0 mc ms post pX) D cy A nL cells slots pc S lc st := fun H locs ls hT hP hD hS hl => vx_ret (k H locs ls hT hP hD hS hl)
theorem pq_thrown (hA : A = va_A (pq_pl cy S0) s.heap.size) {cls : String} (hq : pX cls S) {H : Heap} {locs : List Loc} (hT : pq_T S) (hP : va_P D vwCl (pq_pl cy S) H) (hD : va_D A (pq_pl cy S)) (hS : va_S A s.heap H locs) (t : State) (h2 : H.size ≤ t.heap.size) (h3 : ∀ q : Nat, q < H.size → t.heap[q]? = H[q]?) : pq_Xc D cy S0 s.heap.size pX cls s t := by
  subst hA
  exact ⟨⟨S, hq, hT, hP.kept (fun k q hk => h3 q.1 ((hP k q hk).lt)), hD⟩, Nat.le_trans hS.1 h2, fun q h4 h5 => (h3 q (Nat.lt_of_lt_of_le h4 hS.1)).trans (hS.2.1 q h4 h5)⟩
theorem pq_thr (F : pq_Fx p R s m args c D cy A cc nL "PatternPairs") (ht : (∀ x ∈ c.exceptionTable.toList, False) ∧ pq_Dn s) (hlk : meth.locks = false) (hA : A = va_A (pq_pl cy S0) s.heap.size) (hl0 : l.stackTraces = false) {ik is ic : Nat} {cls text : String} (hx : (is, text) ∈ pq_sx) (hw : pq_Xw "PatternPairs" ik ic cls)
    (hR : 5 < R.frames ∧ (st.map fun v => v.category).sum + 82 ≤ R.locals) (hc : cells + 1 ≤ R.cells) (hs : slots + 6 ≤ R.slots) (hc2 : cells + 1 ≤ mc) (hs2 : slots + 6 ≤ ms) (hq : pX cls S)
    (d0 : decode cc pc = .ok (.new ik, 3)) (d3 : decode cc (pc + 3) = .ok (.dup, 1)) (d4 : decode cc (pc + 4) = .ok (.ldc is, 2)) (d6 : decode cc (pc + 6) = .ok (.invokespecial ic, 3)) (d9 : decode cc (pc + 9) = .ok (.athrow, 1)) :
    pq_At p l e R s m args below meth c (pq_ZX below args s D cy S0 mc ms post pX) D cy A nL cells slots pc S lc st := by
  intro H locs ls hT hP hD hS hl
  have hB := F.2.2.2.2.2.2.2.2
  have hts := F.2.2.2.2.1
  obtain ⟨sa, hsa⟩ := hB.2.1 _ hx
  have hwin := hw.2.2.2
  refine vx_throwS (names := pq_nm2) F.1 F.2.1 hl0 F.2.2.2.1 hw.1 (by decide) (hts _ hw.2.1) (hts _ hw.2.2.1) hsa (fun w h => ?_) (fun w h => ?_) hB.2.2.2.1 hB.2.2.2.2.1 hS (by rw [F.2.2.1]; exact hl.1) d0 d3 d4 d6 d9 (fun x hx => (ht.1 x hx).elim) hR.1 hR.2 hc hs hlk (fun t _ h2 h3 => pq_thrown hA hq hT hP hD hS t h2 h3) (fun z hz => hA ▸ hS.2.2 z hz) hc2 hs2
  · rcases hwin w h with h | h | h
    · exact hts w h
    · exact pq_wN' F.2.2.2.2.2.2.2.1 h
    · exact ht.2.w h
  · rcases List.mem_cons.mp h with rfl | h
    · exact pq_wot (Or.inl hw.2.1)
    rcases List.mem_cons.mp h with rfl | h
    · exact pq_wot (Or.inl hw.2.2.1)
    exact pq_wot (hwin w h)
/-! ===== catching ===== -/
def pq_Hd (s : State) (args : Array Value) (own : String) (tb : List ExceptionTableEntry) (pc : Nat) (E : String) (hpc : Nat) : Prop := ∃ (pre : List ExceptionTableEntry) (x : ExceptionTableEntry) (suf : List ExceptionTableEntry) (name : String), tb = pre ++ x :: suf ∧ (∀ z ∈ pre, covers z pc = false ∨ (z.catchType ≠ 0 ∧ ∃ nm : String, (Cond.classLink own z.catchType nm).before args s = true ∧ va_Nc E nm s)) ∧ covers x pc = true ∧ x.catchType ≠ 0 ∧ (Cond.classLink own x.catchType name).before args s = true ∧ (Cond.castable E name).before args s = true ∧ x.handlerPc = hpc
theorem pq_behindX {av rest st0 : List Value} (F : pq_Fx p R s m args c D cy A cc nL own) {H : Heap} {locs : List Loc} {ls : Array Slot} (hD : va_D A (pq_pl cy S)) (hS : va_S A s.heap H locs) (hl : pq_has ls nL lc)
    (hr : vx_Run p l e R s m args below meth c H locs cells slots mc ms (F0 m pc ls st0) rest (pq_Qc D cy S H.size post av.toArray) (pq_Xc D cy S H.size pX) (va_A (pq_pl cy S) H.size))
    (kx : ∀ (E : String) (S' : HS) (q9 : Nat), pX E S' → ∃ hpc, pq_Hd s args own c.exceptionTable.toList pc E hpc ∧ pq_At p l e R s m args below meth c Q D cy A nL (cells + mc) (slots + ms) hpc S' lc [.ref q9])
    (kk : ∀ (v : Option Value) (S' : HS), post v S' → pq_At p l e R s m args below meth c Q D cy A nL (cells + mc) (slots + ms) (pc + 3) S' lc (v.toList ++ rest)) : W p l e R s m args below meth c H locs cells slots Q (F0 m pc ls st0) := by
  have hf : ∀ q, va_A (pq_pl cy S) H.size q → A q := by
    intro q h
    rcases h with ⟨k, e, h⟩ | h
    · exact hD.2 k _ h
    · exact F.2.2.2.2.2.2.1 q (Nat.le_trans hS.1 h)
  have goOn : ∀ (L : List Loc) (t T' : State), T'.heap = t.heap → (∀ q ∈ L, (va_A (pq_pl cy S) H.size) q.base) → H.size ≤ t.heap.size → (∀ q : Nat, q < H.size → ¬ (va_A (pq_pl cy S) H.size) q → t.heap[q]? = H[q]?) → va_S A s.heap T'.heap (locs ++ L) := fun L t T' e1 hL hz hk => ⟨Nat.le_trans hS.1 (by rw [e1]; exact hz), fun q h1 h2 => by rw [e1, hk q (Nat.lt_of_lt_of_le h1 hS.1) (fun z => h2 (hf q z))]; exact hS.2.1 q h1 h2, fun q hq => by
    rcases List.mem_append.mp hq with h | h
    · exact hS.2.2 q h
    · exact hf _ (hL q h)⟩
  intro T hT0 X
  rcases hr T hT0 X with ⟨v, st₀, t, T', L, h0, X', hL, e1, e2, ⟨⟨r9, S', hv, hp, hT', hP', hD'⟩, hz, hk⟩, stp⟩ | ⟨q, st₀, t, T', L, E, ce, h0, X', hL, e1, e2, ⟨⟨S', hp, hT', hP', hD'⟩, hz, hk⟩, hce, hcv, hcl9, stp⟩
  · cases hv
    rw [h0] at hz hk
    obtain ⟨t2, a1, b1⟩ := kk v S' hp T'.heap (locs ++ L) ls hT' (by rw [e1]; exact hP') (hD'.weaken (fun k q _ h => hf q.1 h)) (goOn L t T' e1 hL hz hk) hl T' rfl X'
    exact ⟨t2, stp t2 a1, b1⟩
  · rw [h0] at hz hk
    obtain ⟨hpc, ⟨pre, x, suf, name, t1, t2, t3, t4, t5, t6, t7⟩, hat⟩ := kx E S' q hp
    rw [← t7] at hat
    have hw9 := vx_catch (p := p) (l := l) (e := e) (R := R) (below := below) (meth := meth) (pc := pc) (ls := ls) (rest := rest) (locs := locs ++ L) (cells := cells + mc) (slots := slots + ms) (Q := Q) (H := T'.heap) (own := own) (E := E) (ce := ce) (q := q) F.2.2.2.1 pre x suf t1 t2 t3 t4 t5 t6 (by rw [e1]; exact hce) hcv hcl9 (hat T'.heap (locs ++ L) ls hT' (by rw [e1]; exact hP') (hD'.weaken (fun k q _ h => hf q.1 h)) (goOn L t T' e1 hL hz hk) hl)
    obtain ⟨t2, a1, b1⟩ := hw9 T' rfl X'
    exact ⟨t2, stp.trans a1, b1⟩
theorem pq_callVX (F : pq_Fx p R s m args c D cy A cc nL own) (hdn : pq_Dn s) {y : MethodName} {cc2 : ByteArray} {nL2 : Nat} {ret2 : Option FieldType} {d index b r : Nat} {As : List Value} (hC : pq_CX l D cy y cc2 nL2 ret2 d mc ms S (.ref b :: As) post pX) (hM : pq_MV own index As.length y cc2 nL2 ret2) (hlk : Cond.methodLink own index y ∈ gtb) (hb : pq_R S b r) (hr : r < 100) (hcl : (vwCl[pq_ci r]?).map (fun q => q.1) = some y.cls) (hw : (st.map fun v => v.category).sum ≤ 8) (hroom : d + 1 ≤ R.frames ∧ 8 + (nL2 + 11) + 40 * d ≤ R.locals) (hcs : cells + mc ≤ R.cells ∧ slots + ms ≤ R.slots) (hdg : decode cc pc = .ok (.invokevirtual index, 3))
    (kx : ∀ (E : String) (S' : HS) (q9 : Nat), pX E S' → ∃ hpc, pq_Hd s args own c.exceptionTable.toList pc E hpc ∧ pq_At p l e R s m args below meth c Q D cy A nL (cells + mc) (slots + ms) hpc S' lc [.ref q9])
    (kk : ∀ (v : Option Value) (S' : HS), post v S' → pq_At p l e R s m args below meth c Q D cy A nL (cells + mc) (slots + ms) (pc + 3) S' lc (v.toList ++ st)) : pq_At p l e R s m args below meth c Q D cy A nL cells slots pc S lc (As.reverse ++ .ref b :: st) := by
  intro H locs ls hT hP hD hS hl
  obtain ⟨hcode, hini, hins, hsel, hd, -⟩ := hM
  have hts := F.2.2.2.2.1
  have hfx : CallFix p m c cc nL s args gtb own := ⟨F.1, F.2.1, F.2.2.1, F.2.2.2.1, hts⟩
  obtain ⟨q0, hq⟩ := pq_at (cy := cy) hb
  rw [pq_eO hb hr] at hq
  obtain ⟨vc, hvc, hvc2⟩ := Option.map_eq_some_iff.mp hcl
  have hrecv := va_recv F.2.2.2.2.2.1 hP hvc hq
  rw [hvc2] at hrecv
  have hpv : PreV s H y.cls b (fun v U => pq_Pc D cy S H.size (.ref b :: As) v U ∧ pq_Dn U) As := ⟨fun a U g mk q => ⟨pq_blind a U g mk q.1, pq_Dn.same (u := U) rfl q.2⟩, hrecv, fun U h1 h2 => ⟨pq_pre F hT hP hD hS U h1 h2, hdn.warm h2⟩⟩
  exact pq_behindX (av := .ref b :: As) F hD hS hl (vx_runV hfx (hC H.size) ⟨callB_of As.length hts (pq_good (l1 := []) hcode).2 rfl rfl rfl (hts _ hini) (hts _ hlk) hd hroom, hts _ hins, hts _ hsel⟩ hpv rfl rfl hl.1 rfl (lv_room hw) hdg hcs) kx kk
/-- a method that catches whatever its calls throw: it returns. Ex: what it asks of the machine besides -/
def pq_CH (l : Launch) (D : va_G) (cy : Nat → ClassId) (y : MethodName) (cc : ByteArray) (nL : Nat) (ret : Option FieldType) (hh : List (Nat × Nat × Nat × Nat)) (d mc ms : Nat) (S : HS) (av : List Value) (post : Option Value → HS → Prop) (Ex : State → Prop) : Prop :=
  ∀ sz : Nat, vx_Met l y (.codeWith y cc nL ret hh :: gtb) (pq_rm d mc ms) (fun v U => pq_Pc D cy S sz av v U ∧ Ex U) (pq_Qc D cy S sz post) (pq_Xc D cy S sz (fun _ _ => False)) mc ms (va_A (pq_pl cy S) sz)
theorem pq_startH {y : MethodName} {ret : Option FieldType} {hh : List (Nat × Nat × Nat × Nat)} {d : Nat} {av : List Value} {Ex : State → Prop} (hy : plainName y.cls = true) (hlen : (lg_sl av).length ≤ nL)
    (body : ∀ p e s m args below meth c A, pq_Fx p (pq_rm d mc ms) s m args c D cy A cc nL y.cls → meth.sig.returnType = ret → meth.locks = false → A = va_A (pq_pl cy S) s.heap.size → c.exceptionTable.toList = tableOf hh → Ex s →
      pq_At p l e (pq_rm d mc ms) s m args below meth c (pq_ZX below args s D cy S mc ms post (fun _ _ => False)) D cy A nL 0 0 0 S (pq_l0 av nL) []) : pq_CH l D cy y cc nL ret hh d mc ms S av post Ex := by
  intro sz
  refine vx_ofWH (cc := cc) (maxL := nL) (ret := ret) (hh := hh) hy rfl ?_
  intro p e s m args below meth c s₁ B hml hv
  obtain ⟨⟨rfl, hT, rfl, hP, hK, hD0, hN, hB⟩, hE⟩ := hv
  have hts := atoms_spec (ws := .codeWith y cc nL ret hh :: gtb) B.pre
  have htab := vx_table (x := y) B (hts _ List.mem_cons_self)
  have hown : s.vm.findClass y.cls = some m.cls := findClass_of_methodNamed B.named
  have hl := lv_entry av (n := nL) hlen
  rw [lg_entry_eq]
  generalize (lg_sl av ++ List.replicate (nL - (lg_sl av).length) Slot.unset).toArray = ls at hl ⊢
  exact body p e s m _ below meth c (va_A (pq_pl cy S) s.heap.size) ⟨B.exec, B.bytes, hml, hown, fun w hw => hts w (List.mem_cons_of_mem _ hw), hK, fun q h => Or.inr h, hN, hB⟩ B.returns B.notSynchronized rfl htab hE s.heap [] ls hT hP hD0.self va_S.rf ⟨hl.1, hl.2.1, fun i v h => hl.2.2 (i, v) (pq_l0_get h)⟩
theorem pq_callSH (F : pq_Fx p R s m args c D cy A cc nL own) {y : MethodName} {cc2 : ByteArray} {nL2 : Nat} {ret2 : Option FieldType} {hh : List (Nat × Nat × Nat × Nat)} {d index : Nat} {As : List Value} {Ex : State → Prop} (hC : pq_CH l D cy y cc2 nL2 ret2 hh d mc ms S As post Ex) (hcode : Cond.codeWith y cc2 nL2 ret2 hh ∈ gtb) (hini : Cond.initialized y.cls ∈ gtb) (hst : Cond.static y ∈ gtb) (hlk : Cond.methodLink own index y ∈ gtb) (hd : y.cls ≠ "java/lang/invoke/MethodHandle" ∧ y.cls ≠ "java/lang/invoke/VarHandle" ∧ (parseMethodDescriptor y.desc).map (fun d => d.parameters.length) = some As.length) (hE : ∀ U : State, s.WarmedH U.vm → Ex U) (hEb : FrameBlind (fun _ U => Ex U)) (hw : (st.map fun v => v.category).sum ≤ 8) (hroom : d + 1 ≤ R.frames ∧ 8 + (nL2 + 11) + 40 * d ≤ R.locals) (hcs : cells + mc ≤ R.cells ∧ slots + ms ≤ R.slots) (hdg : decode cc pc = .ok (.invokestatic index, 3))
    (kk : ∀ (v : Option Value) (S' : HS), post v S' → pq_At p l e R s m args below meth c Q D cy A nL (cells + mc) (slots + ms) (pc + 3) S' lc (v.toList ++ st)) : pq_At p l e R s m args below meth c Q D cy A nL cells slots pc S lc (As.reverse ++ st) := by
  intro H locs ls hT hP hD hS hl
  have hts := F.2.2.2.2.1
  have hfx : CallFix p m c cc nL s args gtb own := ⟨F.1, F.2.1, F.2.2.1, F.2.2.2.1, hts⟩
  have hpv : PreS s H (fun v U => pq_Pc D cy S H.size As v U ∧ Ex U) As := ⟨fun a U g mk q => ⟨pq_blind a U g mk q.1, hEb a U g mk q.2⟩, fun U h1 h2 => ⟨pq_pre F hT hP hD hS U h1 h2, hE U h2⟩⟩
  have hgd : ∀ w, w ∈ gtb → w ∈ gtb ∧ ((w.onTables && w.keeps) = true ∨ ∃ ty, w = .arrayClass ty) := fun w h => ⟨h, good_of_word (List.mem_filter.mp h).2⟩
  have hG : GoodIn gtb (va_wsS own index y (Cond.codeWith y cc2 nL2 ret2 hh :: gtb)) := fun w h => by
    unfold va_wsS at h
    rcases List.mem_append.mp h with h | h
    · rcases List.mem_cons.mp h with rfl | h
      · exact hgd _ hlk
      rcases List.mem_cons.mp h with rfl | h
      · exact hgd _ hst
      rcases List.mem_cons.mp h with rfl | h
      · exact hgd _ hini
      exact absurd h List.not_mem_nil
    · rcases List.mem_cons.mp h with rfl | h
      · exact hgd _ hcode
      · exact hgd _ h
  exact pq_behindX (av := As) F hD hS hl (vx_runSX hfx (hC H.size) (vx_cwSW As.length hts hG rfl rfl rfl hd hroom) hpv rfl rfl hl.1 rfl (lv_room hw) hdg hcs) (fun _ _ _ h => h.elim) kk
end PXX

theorem xw_T : ∀ w ∈ Bundle.throwableAtoms, vx_no w = true → w ∈ gtb ∨ w ∈ ntb ∨ w ∈ dtb := List.forall_mem_cons.mpr ⟨fun _ => Or.inl (pq_gt1 (i := 21) rfl rfl), List.forall_mem_cons.mpr ⟨fun _ => Or.inl (pq_gt2 (i := 160) rfl rfl), List.forall_mem_cons.mpr ⟨fun _ => Or.inl (pq_gt2 (i := 169) rfl rfl), List.forall_mem_cons.mpr ⟨fun _ => Or.inl (pq_gt2 (i := 175) rfl rfl), List.forall_mem_cons.mpr ⟨fun _ => Or.inl (pq_gt2 (i := 178) rfl rfl), List.forall_mem_cons.mpr ⟨fun _ => Or.inl (pq_gt2 (i := 180) rfl rfl), List.forall_mem_cons.mpr ⟨fun _ => Or.inl (pq_gt2 (i := 161) rfl rfl), List.forall_mem_cons.mpr ⟨fun _ => Or.inl (pq_gt2 (i := 162) rfl rfl), List.forall_mem_cons.mpr ⟨fun _ => Or.inl (pq_gt1 (i := 39) rfl rfl), List.forall_mem_cons.mpr ⟨fun _ => Or.inl (pq_gt1 (i := 40) rfl rfl), List.forall_mem_cons.mpr ⟨fun _ => Or.inl (pq_gt2 (i := 163) rfl rfl), List.forall_mem_cons.mpr ⟨fun _ => Or.inl (pq_gt2 (i := 168) rfl rfl), List.forall_mem_cons.mpr ⟨fun _ => Or.inl (pq_gt2 (i := 176) rfl rfl), List.forall_mem_cons.mpr ⟨fun _ => Or.inl (pq_gt2 (i := 196) rfl rfl), List.forall_mem_cons.mpr ⟨fun _ => Or.inl (pq_gt2 (i := 150) rfl rfl), List.forall_mem_cons.mpr ⟨fun _ => Or.inl (pq_gt2 (i := 197) rfl rfl), List.forall_mem_cons.mpr ⟨fun _ => Or.inl (pq_gt2 (i := 152) rfl rfl), List.forall_mem_cons.mpr ⟨fun _ => Or.inl (pq_gt2 (i := 198) rfl rfl), List.forall_mem_cons.mpr ⟨fun _ => Or.inl (pq_gt2 (i := 154) rfl rfl), List.forall_mem_cons.mpr ⟨fun _ => Or.inl (pq_gt2 (i := 164) rfl rfl), List.forall_mem_cons.mpr ⟨fun h => absurd h (by decide), List.forall_mem_cons.mpr ⟨fun _ => Or.inl (pq_gt2 (i := 166) rfl rfl), List.forall_mem_cons.mpr ⟨fun h => absurd h (by decide), List.forall_mem_cons.mpr ⟨fun _ => Or.inl (pq_gt2 (i := 156) rfl rfl), fun _ h => absurd h List.not_mem_nil⟩⟩⟩⟩⟩⟩⟩⟩⟩⟩⟩⟩⟩⟩⟩⟩⟩⟩⟩⟩⟩⟩⟩⟩
theorem xw_S : ∀ w ∈ Bundle.throwableSAtoms, vx_no w = true → w ∈ gtb ∨ w ∈ ntb ∨ w ∈ dtb := List.forall_mem_cons.mpr ⟨fun _ => Or.inl (pq_gt2 (i := 192) rfl rfl), List.forall_mem_cons.mpr ⟨fun _ => Or.inl (pq_gt2 (i := 193) rfl rfl), List.forall_mem_cons.mpr ⟨fun _ => Or.inl (pq_gt2 (i := 195) rfl rfl), List.forall_mem_cons.mpr ⟨fun _ => Or.inl (pq_gt2 (i := 156) rfl rfl), fun _ h => absurd h List.not_mem_nil⟩⟩⟩⟩
theorem xw_RE : ∀ w ∈ Bundle.passSAtoms "java/lang/RuntimeException" "java/lang/Exception" 7 Bundle.six, vx_no w = true → w ∈ gtb ∨ w ∈ ntb ∨ w ∈ dtb := List.forall_mem_cons.mpr ⟨fun _ => Or.inl (pq_gt2 (i := 186) rfl rfl), List.forall_mem_cons.mpr ⟨fun _ => Or.inl (pq_gt2 (i := 187) rfl rfl), List.forall_mem_cons.mpr ⟨fun _ => Or.inl (pq_gt2 (i := 188) rfl rfl), List.forall_mem_cons.mpr ⟨fun _ => Or.inl (pq_gt2 (i := 189) rfl rfl), List.forall_mem_cons.mpr ⟨fun _ => Or.inr (Or.inr (List.mem_cons_of_mem _ List.mem_cons_self)), fun _ h => absurd h List.not_mem_nil⟩⟩⟩⟩⟩
theorem xw_EX : ∀ w ∈ Bundle.passSAtoms "java/lang/Exception" "java/lang/Throwable" 7 Bundle.six, vx_no w = true → w ∈ gtb ∨ w ∈ ntb ∨ w ∈ dtb := List.forall_mem_cons.mpr ⟨fun _ => Or.inl (pq_gt2 (i := 189) rfl rfl), List.forall_mem_cons.mpr ⟨fun _ => Or.inl (pq_gt2 (i := 190) rfl rfl), List.forall_mem_cons.mpr ⟨fun _ => Or.inl (pq_gt2 (i := 191) rfl rfl), List.forall_mem_cons.mpr ⟨fun _ => Or.inl (pq_gt2 (i := 192) rfl rfl), List.forall_mem_cons.mpr ⟨fun _ => Or.inr (Or.inr (List.mem_cons_of_mem _ (List.mem_cons_of_mem _ List.mem_cons_self))), fun _ h => absurd h List.not_mem_nil⟩⟩⟩⟩⟩
theorem xw_P82 : ∀ w ∈ Bundle.passSAtoms "java/lang/IndexOutOfBoundsException" "java/lang/RuntimeException" 7 Bundle.six, vx_no w = true → w ∈ gtb ∨ w ∈ ntb ∨ w ∈ dtb := List.forall_mem_cons.mpr ⟨fun _ => Or.inl (pq_gt2 (i := 183) rfl rfl), List.forall_mem_cons.mpr ⟨fun _ => Or.inl (pq_gt2 (i := 184) rfl rfl), List.forall_mem_cons.mpr ⟨fun _ => Or.inl (pq_gt2 (i := 185) rfl rfl), List.forall_mem_cons.mpr ⟨fun _ => Or.inl (pq_gt2 (i := 186) rfl rfl), List.forall_mem_cons.mpr ⟨fun _ => Or.inr (Or.inr (List.mem_cons_self)), fun _ h => absurd h List.not_mem_nil⟩⟩⟩⟩⟩
theorem xw_L82 : ∀ w ∈ ([.methodLink "PatternPairs" 82 (Bundle.initS "java/lang/IndexOutOfBoundsException"), .instantiable "java/lang/IndexOutOfBoundsException" 6, .castable "java/lang/IndexOutOfBoundsException" "java/lang/IndexOutOfBoundsException", .selects "java/lang/IndexOutOfBoundsException" Bundle.tFill0 Bundle.tFill0, .selects "java/lang/IndexOutOfBoundsException" Bundle.tFill Bundle.tFill, .lays "java/lang/IndexOutOfBoundsException" Bundle.tN "cause" "Ljava/lang/Throwable;", .lays "java/lang/IndexOutOfBoundsException" Bundle.tN "stackTrace" Bundle.steD, .lays "java/lang/IndexOutOfBoundsException" Bundle.tN "suppressedExceptions" Bundle.listD, .lays "java/lang/IndexOutOfBoundsException" Bundle.tN "detailMessage" "Ljava/lang/String;", .isRef (.static Bundle.tN "UNASSIGNED_STACK" Bundle.steD), .isRef (.static Bundle.tN "SUPPRESSED_SENTINEL" Bundle.listD), .fieldLink Bundle.tN 198 Bundle.tN "backtrace" "Ljava/lang/Object;", .lays Bundle.tN Bundle.tN "backtrace" "Ljava/lang/Object;", .lays "java/lang/IndexOutOfBoundsException" Bundle.tN "backtrace" "Ljava/lang/Object;"] : List Cond), vx_no w = true → w ∈ gtb ∨ w ∈ ntb ∨ w ∈ dtb := List.forall_mem_cons.mpr ⟨fun _ => Or.inl (pq_gt2 (i := 182) rfl rfl), List.forall_mem_cons.mpr ⟨fun _ => Or.inl (pq_gt2 (i := 139) rfl rfl), List.forall_mem_cons.mpr ⟨fun _ => Or.inr (Or.inl (pq_nt2 (i := 140) rfl rfl)), List.forall_mem_cons.mpr ⟨fun _ => Or.inl (pq_gt2 (i := 147) rfl rfl), List.forall_mem_cons.mpr ⟨fun _ => Or.inl (pq_gt2 (i := 148) rfl rfl), List.forall_mem_cons.mpr ⟨fun _ => Or.inl (pq_gt2 (i := 149) rfl rfl), List.forall_mem_cons.mpr ⟨fun _ => Or.inl (pq_gt2 (i := 151) rfl rfl), List.forall_mem_cons.mpr ⟨fun _ => Or.inl (pq_gt2 (i := 153) rfl rfl), List.forall_mem_cons.mpr ⟨fun _ => Or.inl (pq_gt2 (i := 155) rfl rfl), List.forall_mem_cons.mpr ⟨fun h => absurd h (by decide), List.forall_mem_cons.mpr ⟨fun h => absurd h (by decide), List.forall_mem_cons.mpr ⟨fun _ => Or.inl (pq_gt2 (i := 159) rfl rfl), List.forall_mem_cons.mpr ⟨fun _ => Or.inl (pq_gt2 (i := 158) rfl rfl), List.forall_mem_cons.mpr ⟨fun _ => Or.inl (pq_gt2 (i := 157) rfl rfl), fun _ h => absurd h List.not_mem_nil⟩⟩⟩⟩⟩⟩⟩⟩⟩⟩⟩⟩⟩⟩
theorem xw_82 : pq_Xw "PatternPairs" 78 82 "java/lang/IndexOutOfBoundsException" := by
  refine ⟨by decide +kernel, cl_X10_78, (by have := pq_gt1 (i := 24) rfl rfl; exact this), fun w hw => ?_⟩
  obtain ⟨hm, hn⟩ := List.mem_filter.mp hw
  unfold Bundle.ownAtoms at hm
  rcases List.mem_append.mp hm with hm | hm
  · rcases List.mem_append.mp hm with hm | hm
    · rcases List.mem_append.mp hm with hm | hm
      · exact xw_T w hm hn
      · exact xw_S w hm hn
    · have hm' : w ∈ Bundle.passSAtoms "java/lang/IndexOutOfBoundsException" "java/lang/RuntimeException" 7 Bundle.six ++ (Bundle.passSAtoms "java/lang/RuntimeException" "java/lang/Exception" 7 Bundle.six ++ Bundle.passSAtoms "java/lang/Exception" Bundle.tN 7 Bundle.six) := hm
      rcases List.mem_append.mp hm' with hm | hm
      · exact xw_P82 w hm hn
      rcases List.mem_append.mp hm with hm | hm
      · exact xw_RE w hm hn
      · exact xw_EX w hm hn
  · exact xw_L82 w hm hn
theorem xw_P93 : ∀ w ∈ Bundle.passSAtoms "java/lang/IllegalArgumentException" "java/lang/RuntimeException" 7 Bundle.six, vx_no w = true → w ∈ gtb ∨ w ∈ ntb ∨ w ∈ dtb := List.forall_mem_cons.mpr ⟨fun _ => Or.inl (pq_gt2 (i := 230) rfl rfl), List.forall_mem_cons.mpr ⟨fun _ => Or.inl (pq_gt2 (i := 231) rfl rfl), List.forall_mem_cons.mpr ⟨fun _ => Or.inl (pq_gt2 (i := 232) rfl rfl), List.forall_mem_cons.mpr ⟨fun _ => Or.inl (pq_gt2 (i := 186) rfl rfl), List.forall_mem_cons.mpr ⟨fun _ => Or.inr (Or.inr (List.mem_cons_self)), fun _ h => absurd h List.not_mem_nil⟩⟩⟩⟩⟩
theorem xw_L93 : ∀ w ∈ ([.methodLink "PatternPairs" 93 (Bundle.initS "java/lang/IllegalArgumentException"), .instantiable "java/lang/IllegalArgumentException" 6, .castable "java/lang/IllegalArgumentException" "java/lang/IllegalArgumentException", .selects "java/lang/IllegalArgumentException" Bundle.tFill0 Bundle.tFill0, .selects "java/lang/IllegalArgumentException" Bundle.tFill Bundle.tFill, .lays "java/lang/IllegalArgumentException" Bundle.tN "cause" "Ljava/lang/Throwable;", .lays "java/lang/IllegalArgumentException" Bundle.tN "stackTrace" Bundle.steD, .lays "java/lang/IllegalArgumentException" Bundle.tN "suppressedExceptions" Bundle.listD, .lays "java/lang/IllegalArgumentException" Bundle.tN "detailMessage" "Ljava/lang/String;", .isRef (.static Bundle.tN "UNASSIGNED_STACK" Bundle.steD), .isRef (.static Bundle.tN "SUPPRESSED_SENTINEL" Bundle.listD), .fieldLink Bundle.tN 198 Bundle.tN "backtrace" "Ljava/lang/Object;", .lays Bundle.tN Bundle.tN "backtrace" "Ljava/lang/Object;", .lays "java/lang/IllegalArgumentException" Bundle.tN "backtrace" "Ljava/lang/Object;"] : List Cond), vx_no w = true → w ∈ gtb ∨ w ∈ ntb ∨ w ∈ dtb := List.forall_mem_cons.mpr ⟨fun _ => Or.inl (pq_gt2 (i := 229) rfl rfl), List.forall_mem_cons.mpr ⟨fun _ => Or.inl (pq_gt2 (i := 220) rfl rfl), List.forall_mem_cons.mpr ⟨fun _ => Or.inr (Or.inl (pq_nt2 (i := 221) rfl rfl)), List.forall_mem_cons.mpr ⟨fun _ => Or.inl (pq_gt2 (i := 222) rfl rfl), List.forall_mem_cons.mpr ⟨fun _ => Or.inl (pq_gt2 (i := 172) rfl rfl), List.forall_mem_cons.mpr ⟨fun _ => Or.inl (pq_gt2 (i := 223) rfl rfl), List.forall_mem_cons.mpr ⟨fun _ => Or.inl (pq_gt2 (i := 224) rfl rfl), List.forall_mem_cons.mpr ⟨fun _ => Or.inl (pq_gt2 (i := 225) rfl rfl), List.forall_mem_cons.mpr ⟨fun _ => Or.inl (pq_gt2 (i := 226) rfl rfl), List.forall_mem_cons.mpr ⟨fun h => absurd h (by decide), List.forall_mem_cons.mpr ⟨fun h => absurd h (by decide), List.forall_mem_cons.mpr ⟨fun _ => Or.inl (pq_gt2 (i := 159) rfl rfl), List.forall_mem_cons.mpr ⟨fun _ => Or.inl (pq_gt2 (i := 158) rfl rfl), List.forall_mem_cons.mpr ⟨fun _ => Or.inl (pq_gt2 (i := 227) rfl rfl), fun _ h => absurd h List.not_mem_nil⟩⟩⟩⟩⟩⟩⟩⟩⟩⟩⟩⟩⟩⟩
theorem xw_93 : pq_Xw "PatternPairs" 89 93 "java/lang/IllegalArgumentException" := by
  refine ⟨by decide +kernel, cl_X10_89, (by have := pq_gt1 (i := 25) rfl rfl; exact this), fun w hw => ?_⟩
  obtain ⟨hm, hn⟩ := List.mem_filter.mp hw
  unfold Bundle.ownAtoms at hm
  rcases List.mem_append.mp hm with hm | hm
  · rcases List.mem_append.mp hm with hm | hm
    · rcases List.mem_append.mp hm with hm | hm
      · exact xw_T w hm hn
      · exact xw_S w hm hn
    · have hm' : w ∈ Bundle.passSAtoms "java/lang/IllegalArgumentException" "java/lang/RuntimeException" 7 Bundle.six ++ (Bundle.passSAtoms "java/lang/RuntimeException" "java/lang/Exception" 7 Bundle.six ++ Bundle.passSAtoms "java/lang/Exception" Bundle.tN 7 Bundle.six) := hm
      rcases List.mem_append.mp hm' with hm | hm
      · exact xw_P93 w hm hn
      rcases List.mem_append.mp hm with hm | hm
      · exact xw_RE w hm hn
      · exact xw_EX w hm hn
  · exact xw_L93 w hm hn
theorem xw_P108 : ∀ w ∈ Bundle.passSAtoms "java/lang/UnsupportedOperationException" "java/lang/RuntimeException" 7 Bundle.six, vx_no w = true → w ∈ gtb ∨ w ∈ ntb ∨ w ∈ dtb := List.forall_mem_cons.mpr ⟨fun _ => Or.inl (pq_gt4 (i := 232) rfl rfl), List.forall_mem_cons.mpr ⟨fun _ => Or.inl (pq_gt4 (i := 233) rfl rfl), List.forall_mem_cons.mpr ⟨fun _ => Or.inl (pq_gt4 (i := 234) rfl rfl), List.forall_mem_cons.mpr ⟨fun _ => Or.inl (pq_gt2 (i := 186) rfl rfl), List.forall_mem_cons.mpr ⟨fun _ => Or.inr (Or.inr (List.mem_cons_self)), fun _ h => absurd h List.not_mem_nil⟩⟩⟩⟩⟩
theorem xw_L108 : ∀ w ∈ ([.methodLink "PatternPairs" 108 (Bundle.initS "java/lang/UnsupportedOperationException"), .instantiable "java/lang/UnsupportedOperationException" 6, .castable "java/lang/UnsupportedOperationException" "java/lang/UnsupportedOperationException", .selects "java/lang/UnsupportedOperationException" Bundle.tFill0 Bundle.tFill0, .selects "java/lang/UnsupportedOperationException" Bundle.tFill Bundle.tFill, .lays "java/lang/UnsupportedOperationException" Bundle.tN "cause" "Ljava/lang/Throwable;", .lays "java/lang/UnsupportedOperationException" Bundle.tN "stackTrace" Bundle.steD, .lays "java/lang/UnsupportedOperationException" Bundle.tN "suppressedExceptions" Bundle.listD, .lays "java/lang/UnsupportedOperationException" Bundle.tN "detailMessage" "Ljava/lang/String;", .isRef (.static Bundle.tN "UNASSIGNED_STACK" Bundle.steD), .isRef (.static Bundle.tN "SUPPRESSED_SENTINEL" Bundle.listD), .fieldLink Bundle.tN 198 Bundle.tN "backtrace" "Ljava/lang/Object;", .lays Bundle.tN Bundle.tN "backtrace" "Ljava/lang/Object;", .lays "java/lang/UnsupportedOperationException" Bundle.tN "backtrace" "Ljava/lang/Object;"] : List Cond), vx_no w = true → w ∈ gtb ∨ w ∈ ntb ∨ w ∈ dtb := List.forall_mem_cons.mpr ⟨fun _ => Or.inl (pq_gt4 (i := 231) rfl rfl), List.forall_mem_cons.mpr ⟨fun _ => Or.inl (pq_gt4 (i := 222) rfl rfl), List.forall_mem_cons.mpr ⟨fun _ => Or.inr (Or.inl (pq_nt4 (i := 223) rfl rfl)), List.forall_mem_cons.mpr ⟨fun _ => Or.inl (pq_gt4 (i := 224) rfl rfl), List.forall_mem_cons.mpr ⟨fun _ => Or.inl (pq_gt2 (i := 173) rfl rfl), List.forall_mem_cons.mpr ⟨fun _ => Or.inl (pq_gt4 (i := 225) rfl rfl), List.forall_mem_cons.mpr ⟨fun _ => Or.inl (pq_gt4 (i := 226) rfl rfl), List.forall_mem_cons.mpr ⟨fun _ => Or.inl (pq_gt4 (i := 227) rfl rfl), List.forall_mem_cons.mpr ⟨fun _ => Or.inl (pq_gt4 (i := 228) rfl rfl), List.forall_mem_cons.mpr ⟨fun h => absurd h (by decide), List.forall_mem_cons.mpr ⟨fun h => absurd h (by decide), List.forall_mem_cons.mpr ⟨fun _ => Or.inl (pq_gt2 (i := 159) rfl rfl), List.forall_mem_cons.mpr ⟨fun _ => Or.inl (pq_gt2 (i := 158) rfl rfl), List.forall_mem_cons.mpr ⟨fun _ => Or.inl (pq_gt4 (i := 229) rfl rfl), fun _ h => absurd h List.not_mem_nil⟩⟩⟩⟩⟩⟩⟩⟩⟩⟩⟩⟩⟩⟩
theorem xw_108 : pq_Xw "PatternPairs" 104 108 "java/lang/UnsupportedOperationException" := by
  refine ⟨by decide +kernel, cl_X10_104, (by have := pq_gt1 (i := 31) rfl rfl; exact this), fun w hw => ?_⟩
  obtain ⟨hm, hn⟩ := List.mem_filter.mp hw
  unfold Bundle.ownAtoms at hm
  rcases List.mem_append.mp hm with hm | hm
  · rcases List.mem_append.mp hm with hm | hm
    · rcases List.mem_append.mp hm with hm | hm
      · exact xw_T w hm hn
      · exact xw_S w hm hn
    · have hm' : w ∈ Bundle.passSAtoms "java/lang/UnsupportedOperationException" "java/lang/RuntimeException" 7 Bundle.six ++ (Bundle.passSAtoms "java/lang/RuntimeException" "java/lang/Exception" 7 Bundle.six ++ Bundle.passSAtoms "java/lang/Exception" Bundle.tN 7 Bundle.six) := hm
      rcases List.mem_append.mp hm' with hm | hm
      · exact xw_P108 w hm hn
      rcases List.mem_append.mp hm with hm | hm
      · exact xw_RE w hm hn
      · exact xw_EX w hm hn
  · exact xw_L108 w hm hn
