/-- the words that an exception of class X asks, whose constructor has the bytes rx and passes on to RuntimeException's by its entry ix -/
def pq_wX (own : String) (ic : Nat) (X : String) (ix : Nat) (rx : ByteArray) : List Cond := (Bundle.throwableAtoms ++ Bundle.throwableSAtoms) ++ (Bundle.passSAtoms X "java/lang/RuntimeException" ix rx ++ Bundle.chainSAtoms "java/lang/RuntimeException" ["java/lang/Exception"]) ++ [.methodLink own ic (Bundle.initS X), .instantiable X 6, .castable X X, .selects X Bundle.tFill0 Bundle.tFill0, .selects X Bundle.tFill Bundle.tFill, .lays X Bundle.tN "cause" "Ljava/lang/Throwable;", .lays X Bundle.tN "stackTrace" Bundle.steD, .lays X Bundle.tN "suppressedExceptions" Bundle.listD, .lays X Bundle.tN "detailMessage" "Ljava/lang/String;", .isRef (.static Bundle.tN "UNASSIGNED_STACK" Bundle.steD), .isRef (.static Bundle.tN "SUPPRESSED_SENTINEL" Bundle.listD), .fieldLink Bundle.tN 198 Bundle.tN "backtrace" "Ljava/lang/Object;", .lays Bundle.tN Bundle.tN "backtrace" "Ljava/lang/Object;", .lays X Bundle.tN "backtrace" "Ljava/lang/Object;"]
def pq_atX (own : String) (ic : Nat) (X : String) (ix : Nat) (rx : ByteArray) : List Cond := (pq_wX own ic X ix rx).filter vx_no
def pq_xl (s : State) (c : ClassId) (k : Class) (f : Field) : Prop := k.instanceTypes[f.slot]? = some f.type ∧ ∃ d, Jmm.declares? s.vm f.slot (c + 1) c = some d ∧ d.2.name = f.name
theorem pq_xl.ne {s : State} {c : ClassId} {k : Class} {f g : Field} (hf : pq_xl s c k f) (hg : pq_xl s c k g) (h : f.name ≠ g.name) : f.slot ≠ g.slot :=
  hf.2.elim fun _ u => hg.2.elim fun _ v => Cond.laysApart u.1 v.1 u.2 v.2 h
theorem pq_xl.takes {s : State} {c : ClassId} {k : Class} {f : Field} {v : Value} (hf : pq_xl s c k f) (hk : s.vm.classes[c]? = some k) (ho : k.kind = .ordinary) (ht : (∃ n, f.type = .object n) ∨ ∃ t, f.type = .array t) (hv : v.isRef = true) : Takes s (freshCell c k) f v := by
  refine Takes.of_laid hk ho hf.1 ?_
  rcases ht with ⟨n, e⟩ | ⟨t, e⟩ <;> rw [e] <;> cases v <;> first | rfl | exact absurd hv (by decide) | cases hv
theorem pq_xsel {args : Array Value} {s : State} {cls : String} {n : MethodName} {c : ClassId} {m : MethodId} (hc : s.vm.findClass cls = some c) (hm : s.methodNamed? n = some m) (hn : n.cls ≠ "java/lang/invoke/MethodHandle" ∧ n.cls ≠ "java/lang/invoke/VarHandle")
    (h : (Cond.selects cls n n).before args s = true) : selectMethod {} s.vm c m = .method m := by
  have hr := State.methodFound?_of_named hm hn
  rcases Cond.selects_spec h with ⟨i, r, q, e1, e2, e3, e4, _⟩
  rw [hc, Option.some.injEq] at e1
  rw [hr, Option.some.injEq] at e2
  rw [hm, Option.some.injEq] at e3
  rw [e1, e2, e4, ← e3, ← e2]
def pq_xT (T : ThrowableC) (Z : Init0T) (M : MsgC) (pl : Platform) (s : State) : Prop := T.Links pl s ∧ Z.LaidS T.toThrowableT ∧ M.Links T pl s ∧ T.codeObj.maxLocals = 1
def pq_xS (T : ThrowableC) (cS : Cell) (u n : RefV) (s : State) : Prop := s.heap[T.aS]? = some cS ∧ cS.vm.isStatics = true ∧ cS.slots[T.fUnassigned.slot]? = some u.v ∧ cS.slots[T.fSentinel.slot]? = some n.v
def pq_xP (T : ThrowableC) (Z : Init0T) (L : List PassC) (cls : String) (pl : Platform) (s : State) : Prop :=
  L.length = 3 ∧ (∀ Q ∈ L, Q.LinksS pl s) ∧ PassesOn (Z.m T.toThrowableT) (L.map (·.toPassT)) ∧ s.methodNamed? (Bundle.initS cls) = some (firstOf (Z.m T.toThrowableT) (L.map (·.toPassT)))
def pq_xO (T : ThrowableC) (c : ClassId) (k : Class) (s : State) : Prop :=
  k.kind = .ordinary ∧ (selectMethod {} s.vm c T.fill0 = .method T.fill0 ∧ selectMethod {} s.vm c T.fill = .method T.fill) ∧ ∀ v : Value, v.isRef = true → Takes s (freshCell c k) T.fCause v ∧ Takes s (freshCell c k) T.fStack v ∧ Takes s (freshCell c k) T.fSupp v ∧ Takes s (freshCell c k) T.fMsg v
def pq_xB (T : ThrowableC) (B : BackC) (c : ClassId) (k : Class) (pl : Platform) (s : State) : Prop :=
  B.Links T pl s ∧ (freshCell c k).slots[B.fBack.slot]? = some .null ∧ B.fBack.slot ≠ T.fCause.slot ∧ B.fBack.slot ≠ T.fStack.slot ∧ B.fBack.slot ≠ T.fSupp.slot
theorem pq_xF {args : Array Value} {s : State} {pl : Platform} (hm : pl.frameOwnsMonitors = true) (hz : pl.finalization = false) (hpl : pl.magicAccessors = ({} : Platform).magicAccessors) {own cls : String} {ic ix : Nat} {rx : ByteArray} (x0 : decode rx 0 = .ok (.aload_n 0, 1)) (x1 : decode rx 1 = .ok (.aload_n 1, 1)) (x2 : decode rx 2 = .ok (.invokespecial ix, 3)) (x5 : decode rx 5 = .ok (.return_, 1)) (hcls : Bundle.fit cls = true)
    (h : ∀ w ∈ pq_wX own ic cls ix rx, w.before args s = true) {c : ClassId} {k : Class} (hc : s.vm.findClass cls = some c) (hk : s.vm.classes[c]? = some k) :
    ∃ (T : ThrowableC) (Z : Init0T) (M : MsgC) (L : List PassC) (cS : Cell) (u n : RefV) (B : BackC), pq_xT T Z M pl s ∧ pq_xS T cS u n s ∧ pq_xP T Z L cls pl s ∧ pq_xO T c k s ∧ pq_xB T B c k pl s := by
  have hT : ∀ w ∈ Bundle.throwableAtoms, w.before args s = true := fun w hw => h w (List.mem_append_left _ (List.mem_append_left _ (List.mem_append_left _ hw)))
  have hTS : ∀ w ∈ Bundle.throwableSAtoms, w.before args s = true := fun w hw => h w (List.mem_append_left _ (List.mem_append_left _ (List.mem_append_right _ hw)))
  have hC1 : ∀ w ∈ Bundle.passSAtoms cls "java/lang/RuntimeException" ix rx, w.before args s = true := fun w hw => h w (List.mem_append_left _ (List.mem_append_right _ (List.mem_append_left _ hw)))
  have hC2 : ∀ w ∈ Bundle.chainSAtoms "java/lang/RuntimeException" ["java/lang/Exception"], w.before args s = true := fun w hw => h w (List.mem_append_left _ (List.mem_append_right _ (List.mem_append_right _ hw)))
  have hO : ∀ w ∈ ([.methodLink own ic (Bundle.initS cls), .instantiable cls 6, .castable cls cls, .selects cls Bundle.tFill0 Bundle.tFill0, .selects cls Bundle.tFill Bundle.tFill, .lays cls Bundle.tN "cause" "Ljava/lang/Throwable;", .lays cls Bundle.tN "stackTrace" Bundle.steD, .lays cls Bundle.tN "suppressedExceptions" Bundle.listD, .lays cls Bundle.tN "detailMessage" "Ljava/lang/String;", .isRef (.static Bundle.tN "UNASSIGNED_STACK" Bundle.steD), .isRef (.static Bundle.tN "SUPPRESSED_SENTINEL" Bundle.listD), .fieldLink Bundle.tN 198 Bundle.tN "backtrace" "Ljava/lang/Object;", .lays Bundle.tN Bundle.tN "backtrace" "Ljava/lang/Object;", .lays cls Bundle.tN "backtrace" "Ljava/lang/Object;"] : List Cond), w.before args s = true := fun w hw => h w (List.mem_append_right _ hw)
  simp only [List.forall_mem_cons] at hO
  obtain ⟨-, oI, -, o0, oF, oC, oS, oP, oM, oU, oN, oK, oB, oX, -⟩ := hO
  obtain ⟨T, Z0, LT, -, Y⟩ := ThrowableC.of_atoms hm hz hpl hT
  obtain ⟨Z, M, LZ, LM, hZ⟩ := Init0T.ofS_atoms hpl LT Y hTS
  obtain ⟨P, LP, n2, n5⟩ := PassC.ofS_atoms hpl (X := cls) (Y := "java/lang/RuntimeException") (Bundle.fit_spec hcls).1 (by decide) x0 x1 x2 x5 hC1
  obtain ⟨P2, Ps, n1, LP2, LPs, n6, n3, n4⟩ := Bundle.chainS hpl hZ ["java/lang/Exception"] "java/lang/RuntimeException" (by decide +kernel) (by decide +kernel) hC2
  obtain ⟨cS, hS1, hS2⟩ := Y.statics
  obtain ⟨u, hu⟩ := Cond.staticRefV Y.unassigned LT.unassignedStatic LT.statics hS1 hS2 oU
  obtain ⟨n, hn⟩ := Cond.staticRefV Y.sentinel LT.sentinelStatic LT.statics hS1 hS2 oN
  obtain ⟨b1, b2, fB, q1, q2, q3, q4, -, q5, q6, q7⟩ := Cond.ownField (t := .object "java/lang/Object") Y.found LT.cls (by decide +kernel) oK oB pl hpl
  obtain ⟨_, hM⟩ := Y.msg
  have lC : pq_xl s c k T.fCause := Cond.laysAt hc hk Y.cause oC
  have lS : pq_xl s c k T.fStack := Cond.laysAt hc hk Y.stack oS
  have lP : pq_xl s c k T.fSupp := Cond.laysAt hc hk Y.supp oP
  have lM : pq_xl s c k T.fMsg := Cond.laysAt hc hk hM oM
  have lB : pq_xl s c k fB := Cond.laysAt hc hk q7 oX
  have ho : k.kind = .ordinary := by
    obtain ⟨i, k', e1, e2, e3, -⟩ := Cond.instantiable_spec oI
    rw [hc, Option.some.injEq] at e1
    rw [← e1, hk, Option.some.injEq] at e2
    rw [e2]; exact e3
  refine ⟨T, Z, M, P :: P2 :: Ps, cS, u, n, ⟨b1, b2, fB⟩, ⟨LT, LZ, LM, Y.objLocals⟩, ⟨hS1, hS2, hu, hn⟩, ⟨by rw [List.length_cons, List.length_cons, n1]; rfl, List.forall_mem_cons.mpr ⟨LP, List.forall_mem_cons.mpr ⟨LP2, LPs⟩⟩, ⟨Option.some.inj (n5.symm.trans n6), n3, n4⟩, n2⟩, ⟨ho, ⟨pq_xsel hc Y.fill0 (by decide) o0, pq_xsel hc Y.fill (by decide) oF⟩, fun v hv => ⟨lC.takes hk ho (.inl ⟨_, Y.causeType⟩) hv, lS.takes hk ho (.inr ⟨_, Y.stackType⟩) hv, lP.takes hk ho (.inl ⟨_, Y.suppType⟩) hv, lM.takes hk ho (.inl ⟨_, Y.msgType⟩) hv⟩⟩, ⟨⟨q1, q2, q3, q4⟩, ?_, lB.ne lC ?_, lB.ne lS ?_, lB.ne lP ?_⟩⟩
  · rw [fresh_default lB.1]; show some (defaultValue fB.type) = _; rw [q6]; rfl
  · rw [q5, Y.causeName]; decide
  · rw [q5, Y.stackName]; decide
  · rw [q5, Y.suppName]; decide
theorem pq_xskip {T : ThrowableC} {B : BackC} {c : ClassId} {k : Class} {pl : Platform} {s : State} (h : pq_xB T B c k pl s) (a : Addr) (u n : RefV) (t : ThreadId) : SkipFacts T pl s (fun x => x) u ((preparedCellV T.toThrowableT (freshCell c k) a u n).withEntry t) := by
  obtain ⟨h1, h2, h3, h4, h5⟩ := h
  refine ⟨B, h1, ?_, fun _ _ => rfl⟩
  show (((((freshCell c k).slots.setIfInBounds T.fCause.slot (.ref a)).setIfInBounds T.fStack.slot u.v).setIfInBounds T.fSupp.slot n.v))[B.fBack.slot]? = some .null
  rw [Array.getElem?_setIfInBounds_ne (Ne.symm h5), Array.getElem?_setIfInBounds_ne (Ne.symm h4), Array.getElem?_setIfInBounds_ne (Ne.symm h3)]
  exact h2
theorem pq_ctorX {p : Program} {l : Launch} {e : Env} {R : Room} {s : State} {m : MethodId} {args : Array Value} {below : List Frame} {meth : Method} {c : Code} {W : State} {cells slots : Nat} (X : Stand p l e R s m args below meth c W [] cells slots) (hexec : p.tables.exec = Jvm.exec) (htr : e.platform.stackTraces = false) {own cls : String} {ic ix : Nat} {rx : ByteArray} (x0 : decode rx 0 = .ok (.aload_n 0, 1)) (x1 : decode rx 1 = .ok (.aload_n 1, 1)) (x2 : decode rx 2 = .ok (.invokespecial ix, 3)) (x5 : decode rx 5 = .ok (.return_, 1))
    (hown : s.vm.findClass own = some m.cls) (hcls : Bundle.fit cls = true) (h : ∀ w ∈ pq_wX own ic cls ix rx, w.before args s = true)
    {a : Addr} {cX : ClassId} {kX : Class} (hc : s.vm.findClass cls = some cX) (hk : s.vm.classes[cX]? = some kX) (ha : W.heap[a]? = some (freshCell cX kX)) (hnew : s.heap.size ≤ a) {msg : Value} (hmsg : msg.isRef = true)
    {g : JFrame} (hg : g.method = m) (hsize : g.locals.size = c.maxLocals) (hlk : g.locked = none) (hen : g.entered = []) {rest : List Value} (hst : g.stack = msg :: .ref a :: .ref a :: rest)
    (d6 : decode c.code g.pc = .ok (.invokespecial ic, 3)) (d9 : decode c.code (g.pc + 3) = .ok (.athrow, 1)) (hout : ∀ x ∈ c.exceptionTable.toList, covers x (g.pc + 3) = false)
    (hRf : pq_nm2.length + 3 < R.frames) (hRl : 2 * g.monitorRoom + ((Value.ref a :: rest).map fun v => v.category).sum + (13 * (pq_nm2.length + 1) + 42) ≤ R.locals) (hlocks : meth.locks = false) :
    ∃ U : State, Steps p.tables e below (W.setTop g) U ∧ U.status = .running ∧ Ended U below (.threw a) ∧ s.WarmedH U.vm ∧ s.sameButNew ({ U with vm := s.vm } : State) [] cells slots ∧ ∃ ce, U.heap[a]? = some ce ∧ ce.vm = .none ∧ s.vm.findClass cls = some ce.cls := by
  have hpl : e.platform.magicAccessors = ({} : Platform).magicAccessors := by rw [X.admits.platform]
  obtain ⟨T, Z, M, L, cS, u, n, B, ⟨t1, t2, t3, t4⟩, ⟨s1, s2, s3, s4⟩, ⟨p1, p2, p3, p4⟩, ⟨o1, ⟨o2, o3⟩, o4⟩, hB⟩ := pq_xF (pl := e.platform) (by rw [X.admits.platform]) (by rw [X.admits.platform]) hpl x0 x1 x2 x5 hcls h hc hk
  have hsS : W.heap[T.aS]? = some cS := X.same.kept_nil s1
  have hne : T.aS ≠ a := Nat.ne_of_lt (Nat.lt_of_lt_of_le (Array.getElem?_eq_some_iff.mp s1).1 hnew)
  have hkn : cS.vm ≠ .unknown := fun q => by rw [q] at s2; cases s2
  obtain ⟨tm, -, -, -, vm1, m1, -, -, -, -, -, -, -, m2, go⟩ := Steps.initColdS (tb := p.tables) (e := e) (below := below) (s := s) (U := W) X.here hexec X.warmed hpl hown (t := Bundle.initS cls) rfl rfl (Bundle.fit_spec hcls).2
    (h _ (List.mem_append_right _ List.mem_cons_self)) (h _ (List.mem_append_left _ (List.mem_append_right _ (List.mem_append_left _ List.mem_cons_self)))) (bytes := rx) (maxL := 2) (h _ (List.mem_append_left _ (List.mem_append_right _ (List.mem_append_left _ (List.mem_cons_of_mem _ List.mem_cons_self))))) (f := g) hg hst d6
  rw [p4, Option.some.injEq] at m1
  obtain ⟨vm2, X2, go2⟩ := (X.noted m2).ctorMessageOffV hexec (g := { g with stack := .ref a :: rest }) hg hsize T t1 Z t2 M t3 L p2 p3 (u0 := u) (sen := n) (self := a) hmsg (cell := freshCell cX kX) (cellS := cS) ha (fun _ q => nomatch q) (fun q => nomatch q) rfl rfl
    (by rw [Launch.admits_selectMethod X.admits]; exact o2) (by rw [Launch.admits_selectMethod X.admits]; exact o3) hsS hne hkn s3 s4 (o4 _ rfl).1 (o4 _ u.ok).2.1 (o4 _ n.ok).2.2.1 (o4 _ hmsg).2.2.2 t4 (pq_xskip hB a u n _) htr [] d6 (by rw [p1]; exact hRf) (by rw [p1]; exact hRl)
  obtain ⟨go3, k1, k2, k3, k4⟩ := X2.athrowLeaves hexec (g := { g with stack := .ref a :: rest, pc := g.pc + 3 }) hg hlk hen hout (a := a) (rest := rest) rfl d9 hlocks
  refine ⟨_, go _ (fun acts => ?_), k1, k2, k3, (State.sameButNew.drop_fresh (L := []) k4 fun x hx => ?_), _, heapAt_setCell_self _ (Array.getElem?_eq_some_iff.mp ha).1, rfl, hc⟩
  · rw [← m1, doInvoke_state]
    exact go2 _ go3
  · simp only [List.mem_cons, List.not_mem_nil, or_false] at hx
    rcases hx with rfl | rfl | rfl | rfl | rfl <;> exact hnew

theorem vx_throwX {p : Program} {l : Launch} {e : Env} {R : Room} {s : State} {m : MethodId} {args : Array Value} {below : List Frame} {meth : Method} {c : Code} {H : Heap} {locs : List Loc} {cells slots : Nat} {free : Addr → Prop} {ls : Array Slot} {rest : List Value} {Qc : Array Value → State → Outcome → State → Prop} {XC : String → State → State → Prop} {ix : Nat} {rx : ByteArray} (x0 : decode rx 0 = .ok (.aload_n 0, 1)) (x1 : decode rx 1 = .ok (.aload_n 1, 1)) (x2 : decode rx 2 = .ok (.invokespecial ix, 3)) (x5 : decode rx 5 = .ok (.return_, 1)) {cc : ByteArray} {pc : Nat} (hexec : p.tables.exec = Jvm.exec) (hb : c.code = cc) (hl : l.stackTraces = false) {own cls text : String} {ik is ic mc ms sa : Nat} {A : Nat → Prop}
    (hown : s.vm.findClass own = some m.cls) (hcls : Bundle.fit cls = true) 
    (hk : (Cond.classLink own ik cls).before args s = true) (hini : (Cond.initialized cls).before args s = true) (hstr : vk_R own is text sa s) (hat : ∀ w ∈ pq_atX own ic cls ix rx, w.before args s = true)
    (hgood : ∀ w ∈ Cond.classLink own ik cls :: Cond.initialized cls :: pq_atX own ic cls ix rx, vx_ot w = true)
    (hU : vx_Zq Bundle.tN "UNASSIGNED_STACK" Bundle.steD A s s.heap) (hN : vx_Zq Bundle.tN "SUPPRESSED_SENTINEL" Bundle.listD A s s.heap) (hS : va_S A s.heap H locs) (hsize : ls.size = c.maxLocals)
    (d0 : decode cc pc = .ok (.new ik, 3)) (d3 : decode cc (pc + 3) = .ok (.dup, 1)) (d4 : decode cc (pc + 4) = .ok (.ldc is, 2)) (d6 : decode cc (pc + 6) = .ok (.invokespecial ic, 3)) (d9 : decode cc (pc + 9) = .ok (.athrow, 1))
    (hout : ∀ x ∈ c.exceptionTable.toList, covers x (pc + 9) = false)
    (hRframes : pq_nm2.length + 3 < R.frames) (hRlocals : (rest.map fun v => v.category).sum + (13 * (pq_nm2.length + 1) + 43) ≤ R.locals) (hRcells : cells + 1 ≤ R.cells) (hRslots : slots + 6 ≤ R.slots) (hlocks : meth.locks = false)
    (hx : ∀ t : State, s.vm.Alike t.vm → H.size ≤ t.heap.size → (∀ q : Nat, q < H.size → t.heap[q]? = H[q]?) → XC cls s t)
    (hf : ∀ z ∈ locs, free z.base) (hc : cells + 1 ≤ mc) (hs : slots + 6 ≤ ms) :
    W p l e R s m args below meth c H locs cells slots (vx_MQ below Qc XC args s mc ms free) (F0 m pc ls rest) := by
  intro T hT X
  have htr : e.platform.stackTraces = false := (show e.platform.stackTraces = l.stackTraces by rw [X.admits.platform]).trans hl
  have Y := vx_rebase X (R' := { frames := R.frames, locals := R.locals, cells := 1, slots := 6 }) (Nat.le_refl _) (Nat.le_refl _) hRcells hRslots
  obtain ⟨s', hA⟩ : ∃ z, z = (T.setVm s.vm).setFrames (.invoking m args :: below) := ⟨_, rfl⟩
  rw [← hA] at Y
  have hvm : s'.vm = s.vm := by rw [hA]; rfl
  have hhp : s'.heap = H := by rw [hA]; exact hT
  have hW0 : s.WarmedH s'.vm := by rw [hvm]; exact State.WarmedH.refl s
  have hat' : ∀ w ∈ pq_atX own ic cls ix rx, w.before args s' = true := fun w hw => vx_ot_at hW0 hvm.symm (hgood w (List.mem_cons_of_mem _ (List.mem_cons_of_mem _ hw))) (hat w hw)
  have hk' : (Cond.classLink own ik cls).before args s' = true := vx_ot_at hW0 hvm.symm (hgood _ List.mem_cons_self) hk
  have hini' : (Cond.initialized cls).before args s' = true := vx_ot_at hW0 hvm.symm (hgood _ (List.mem_cons_of_mem _ List.mem_cons_self)) hini
  have hU' : vx_Zq Bundle.tN "UNASSIGNED_STACK" Bundle.steD A s' s'.heap := by rw [hhp]; exact vx_Zq.moved hW0.alike (hU.kept hS.2.1)
  have hN' : vx_Zq Bundle.tN "SUPPRESSED_SENTINEL" Bundle.listD A s' s'.heap := by rw [hhp]; exact vx_Zq.moved hW0.alike (hN.kept hS.2.1)
  have h : ∀ w ∈ pq_wX own ic cls ix rx, w.before args s' = true := vx_own hat' (vx_isRefq hU'.1) (vx_isRefq hN'.1) hU'.2.word hN'.2.word
  have hown' : s'.vm.findClass own = some m.cls := by rw [hvm]; exact hown
  have hins : (Cond.instantiable cls 6).before args s' = true := h _ (by simp [pq_wX])
  obtain ⟨vm₁, cX, kX, hfX, hkX, -, -, X₁, st1⟩ := Y.newCold hexec (own := own) (C := cls) (index := ik) (n := 6) hown' hk' hins hini'
    (g := F0 m pc ls rest) rfl (by rw [hb]; exact d0) (Nat.le_refl _) (Nat.le_refl _)
  generalize hT1 : (T.setVm vm₁).pushCell { cls := cX, slots := kX.instanceTypes.map defaultValue, vm := .none } = T1 at X₁ st1
  have hcat : (Value.ref T.heap.size).category = 1 := rfl
  have hcellA : T1.heap[T.heap.size]? = some (freshCell cX kX) := by rw [← hT1]; exact State.heap_pushCell_size _ _
  have d3' : decode c.code (pc + 3) = .ok (.dup, 1) := by rw [hb]; exact d3
  have d4' : decode c.code (pc + 4) = .ok (.ldc is, 2) := by rw [hb]; exact d4
  have hstr' : vk_R own is text sa s' := vk_R.warm hW0 hstr
  obtain ⟨U, hsteps, hrun, hend, hW, hsame, ce, hce, hOv, hOc⟩ := pq_ctorX X₁ hexec htr (own := own) (cls := cls) (ic := ic) x0 x1 x2 x5 hown' hcls h hfX hkX hcellA (by rw [hhp, hT]; exact Nat.le_refl _) (msg := .ref sa) rfl
    (g := { method := m, pc := pc + 6, locals := ls, stack := .ref sa :: .ref T.heap.size :: .ref T.heap.size :: rest, locked := none }) rfl hsize rfl rfl (rest := rest) rfl
    (by rw [hb]; exact d6) (by rw [hb]; exact d9) hout hRframes (by simp only [List.map_cons, List.sum_cons, hcat]; omega) hlocks
  obtain ⟨f1, f2⟩ := vx_frame hsame
  rw [hhp] at f1 f2
  have hWs : s.WarmedH U.vm := State.WarmedH.trans hW0 hW
  have hcl : s.vm.findClass cls = some ce.cls := by
    have h9 := hOc
    rw [hvm] at h9
    exact h9
  have hall : s.sameButNew ({ U with vm := s.vm } : State) locs mc ms := by
    subst hA
    obtain ⟨e1, e2⟩ := hsame
    rw [State.setFrames_setFrames] at e1
    have h2 : (T.setVm s.vm).sameButNew ({ U with vm := s.vm } : State) [] (0 + 1) (0 + 6) := ⟨e1, e2⟩
    have h3 := X.same.trans h2
    rw [List.append_nil] at h3
    exact h3.mono hc hs
  refine ⟨U, ?_, .threw T.heap.size, hrun, hend, Or.inr ⟨T.heap.size, rfl, cls, ce, locs, hx U hWs.alike f1 (fun q hq => f2 q hq (fun z hz => nomatch hz)), hce, hOv, hcl, hWs, hall, hf⟩⟩
  refine st1 _ ?_
  show Steps p.tables e below (T1.setTop { method := m, pc := pc + 3, locals := ls, stack := .ref T.heap.size :: rest, locked := none }) _
  jvm_step X₁.here [X₁.here.top, hexec, d3', Value.category]
  exact X₁.ldcString hexec (own := own) (text := text) (index := is) (a := sa) hown' hstr'.1 hstr'.2
    (g := { method := m, pc := pc + 4, locals := ls, stack := .ref T.heap.size :: .ref T.heap.size :: rest, locked := none }) rfl d4' _ hsteps

def pq_rx : ByteArray := ⟨#[0x2a, 0x2b, 0xb7, 0x00, 0x0d, 0xb1]⟩
theorem xw_P153 : ∀ w ∈ Bundle.passSAtoms "java/util/NoSuchElementException" "java/lang/RuntimeException" 13 pq_rx, vx_no w = true → w ∈ gtb ∨ w ∈ ntb ∨ w ∈ dtb := List.forall_mem_cons.mpr ⟨fun _ => Or.inl (pq_gt5 (i := 183) rfl rfl), List.forall_mem_cons.mpr ⟨fun _ => Or.inl (pq_gt5 (i := 184) rfl rfl), List.forall_mem_cons.mpr ⟨fun _ => Or.inl (pq_gt5 (i := 185) rfl rfl), List.forall_mem_cons.mpr ⟨fun _ => Or.inl (pq_gt2 (i := 186) rfl rfl), List.forall_mem_cons.mpr ⟨fun _ => Or.inr (Or.inr (List.mem_cons_self)), fun _ h => absurd h List.not_mem_nil⟩⟩⟩⟩⟩
theorem xw_L153 : ∀ w ∈ ([.methodLink "PatternPairs" 153 (Bundle.initS "java/util/NoSuchElementException"), .instantiable "java/util/NoSuchElementException" 6, .castable "java/util/NoSuchElementException" "java/util/NoSuchElementException", .selects "java/util/NoSuchElementException" Bundle.tFill0 Bundle.tFill0, .selects "java/util/NoSuchElementException" Bundle.tFill Bundle.tFill, .lays "java/util/NoSuchElementException" Bundle.tN "cause" "Ljava/lang/Throwable;", .lays "java/util/NoSuchElementException" Bundle.tN "stackTrace" Bundle.steD, .lays "java/util/NoSuchElementException" Bundle.tN "suppressedExceptions" Bundle.listD, .lays "java/util/NoSuchElementException" Bundle.tN "detailMessage" "Ljava/lang/String;", .isRef (.static Bundle.tN "UNASSIGNED_STACK" Bundle.steD), .isRef (.static Bundle.tN "SUPPRESSED_SENTINEL" Bundle.listD), .fieldLink Bundle.tN 198 Bundle.tN "backtrace" "Ljava/lang/Object;", .lays Bundle.tN Bundle.tN "backtrace" "Ljava/lang/Object;", .lays "java/util/NoSuchElementException" Bundle.tN "backtrace" "Ljava/lang/Object;"] : List Cond), vx_no w = true → w ∈ gtb ∨ w ∈ ntb ∨ w ∈ dtb := List.forall_mem_cons.mpr ⟨fun _ => Or.inl (pq_gt5 (i := 182) rfl rfl), List.forall_mem_cons.mpr ⟨fun _ => Or.inl (pq_gt5 (i := 173) rfl rfl), List.forall_mem_cons.mpr ⟨fun _ => Or.inr (Or.inl (pq_nt5 (i := 174) rfl rfl)), List.forall_mem_cons.mpr ⟨fun _ => Or.inl (pq_gt5 (i := 175) rfl rfl), List.forall_mem_cons.mpr ⟨fun _ => Or.inl (pq_gt2 (i := 174) rfl rfl), List.forall_mem_cons.mpr ⟨fun _ => Or.inl (pq_gt5 (i := 176) rfl rfl), List.forall_mem_cons.mpr ⟨fun _ => Or.inl (pq_gt5 (i := 177) rfl rfl), List.forall_mem_cons.mpr ⟨fun _ => Or.inl (pq_gt5 (i := 178) rfl rfl), List.forall_mem_cons.mpr ⟨fun _ => Or.inl (pq_gt5 (i := 179) rfl rfl), List.forall_mem_cons.mpr ⟨fun h => absurd h (by decide), List.forall_mem_cons.mpr ⟨fun h => absurd h (by decide), List.forall_mem_cons.mpr ⟨fun _ => Or.inl (pq_gt2 (i := 159) rfl rfl), List.forall_mem_cons.mpr ⟨fun _ => Or.inl (pq_gt2 (i := 158) rfl rfl), List.forall_mem_cons.mpr ⟨fun _ => Or.inl (pq_gt5 (i := 180) rfl rfl), fun _ h => absurd h List.not_mem_nil⟩⟩⟩⟩⟩⟩⟩⟩⟩⟩⟩⟩⟩⟩
theorem xw_153 : ∀ w ∈ pq_atX "PatternPairs" 153 "java/util/NoSuchElementException" 13 pq_rx, w ∈ gtb ∨ w ∈ ntb ∨ w ∈ dtb := by
  intro w hw
  obtain ⟨hm, hn⟩ := List.mem_filter.mp hw
  unfold pq_wX at hm
  rcases List.mem_append.mp hm with hm | hm
  · rcases List.mem_append.mp hm with hm | hm
    · rcases List.mem_append.mp hm with hm | hm
      · exact xw_T w hm hn
      · exact xw_S w hm hn
    · have hm' : w ∈ Bundle.passSAtoms "java/util/NoSuchElementException" "java/lang/RuntimeException" 13 pq_rx ++ (Bundle.passSAtoms "java/lang/RuntimeException" "java/lang/Exception" 7 Bundle.six ++ Bundle.passSAtoms "java/lang/Exception" Bundle.tN 7 Bundle.six) := hm
      rcases List.mem_append.mp hm' with hm | hm
      · exact xw_P153 w hm hn
      rcases List.mem_append.mp hm with hm | hm
      · exact xw_RE w hm hn
      · exact xw_EX w hm hn
  · exact xw_L153 w hm hn
theorem xi_153 : Cond.initialized "java/util/NoSuchElementException" ∈ gtb := (by have := pq_gt1 (i := 32) rfl rfl; exact this)
theorem pq_rx0 : decode pq_rx 0 = .ok (.aload_n 0, 1) := by decide +kernel
theorem pq_rx1 : decode pq_rx 1 = .ok (.aload_n 1, 1) := by decide +kernel
theorem pq_rx2 : decode pq_rx 2 = .ok (.invokespecial 13, 3) := by decide +kernel
theorem pq_rx5 : decode pq_rx 5 = .ok (.return_, 1) := by decide +kernel
theorem pq_thrX {p : Program} {l : Launch} {e : Env} {R : Room} {s : State} {m : MethodId} {args : Array Value} {below : List Frame} {meth : Method} {c : Code} {D : va_G} {cy : Nat → ClassId} {A : Nat → Prop} {nL : Nat} {cc : ByteArray} {cells slots pc : Nat} {S S0 : HS} {lc : List (Option Value)} {st : List Value} {mc ms : Nat} {post : Option Value → HS → Prop} {pX : String → HS → Prop} (F : pq_Fx p R s m args c D cy A cc nL "PatternPairs") (ht : (∀ x ∈ c.exceptionTable.toList, False) ∧ pq_Dn s) (hlk : meth.locks = false) (hA : A = va_A (pq_pl cy S0) s.heap.size) (hl0 : l.stackTraces = false)
    (hR : 5 < R.frames ∧ (st.map fun v => v.category).sum + 82 ≤ R.locals) (hc : cells + 1 ≤ R.cells) (hs : slots + 6 ≤ R.slots) (hc2 : cells + 1 ≤ mc) (hs2 : slots + 6 ≤ ms) (hq : pX "java/util/NoSuchElementException" S)
    (d0 : decode cc pc = .ok (.new 149, 3)) (d3 : decode cc (pc + 3) = .ok (.dup, 1)) (d4 : decode cc (pc + 4) = .ok (.ldc 151, 2)) (d6 : decode cc (pc + 6) = .ok (.invokespecial 153, 3)) (d9 : decode cc (pc + 9) = .ok (.athrow, 1)) :
    pq_At p l e R s m args below meth c (pq_ZX below args s D cy S0 mc ms post pX) D cy A nL cells slots pc S lc st := by
  intro H locs ls hT hP hD hS hl
  have hB := F.2.2.2.2.2.2.2.2
  have hts := F.2.2.2.2.1
  obtain ⟨sa, hsa⟩ := hB.2.1 (151, "the text has no such byte") (by decide)
  refine vx_throwX pq_rx0 pq_rx1 pq_rx2 pq_rx5 F.1 F.2.1 hl0 F.2.2.2.1 (cls := "java/util/NoSuchElementException") (by decide +kernel) (hts _ cl_X10_149) (hts _ xi_153) hsa (fun w h => ?_) (fun w h => ?_) hB.2.2.2.1 hB.2.2.2.2.1 hS (by rw [F.2.2.1]; exact hl.1) d0 d3 d4 d6 d9 (fun x hx => (ht.1 x hx).elim) hR.1 hR.2 hc hs hlk (fun t _ h2 h3 => pq_thrown hA hq hT hP hD hS t h2 h3) (fun z hz => hA ▸ hS.2.2 z hz) hc2 hs2
  · rcases xw_153 w h with h | h | h
    · exact hts w h
    · exact pq_wN' F.2.2.2.2.2.2.2.1 h
    · exact ht.2.w h
  · rcases List.mem_cons.mp h with rfl | h
    · exact pq_wot (Or.inl cl_X10_149)
    rcases List.mem_cons.mp h with rfl | h
    · exact pq_wot (Or.inl xi_153)
    exact pq_wot (xw_153 w h)
set_option maxHeartbeats 4000000 in
set_option maxRecDepth 100000 in
theorem k_X10_octet (l : Launch) (D : va_G) (cy : Nat → ClassId) (hl0 : l.stackTraces = false) (S : HS) (a : Nat) (ha : pq_R S a 13) (pi : Int32) (t : Int32) (np nq : Nat) (hI : pq_Ix S a t np nq) : pq_CX l D cy yX10_octet cX10_octet 2 (some .int) 6 1 6 S [.ref a, .int pi] (fun v S2 => pq_Fr [] S S2 ∧ ∃ x : Int32, v = some (.int x) ∧ (pq_Ix S2 a t np nq)) (fun E S2 => E = "java/util/NoSuchElementException" ∧ pq_Fr [] S S2 ∧ pq_Ix S2 a t np nq) := by
  refine pq_startX (by decide) (Nat.le_of_ble_eq_true rfl) ?_
  intro p e s m args below meth c A F hr hlk hnm hA ht
  have lqm1 : (-1 : Int32).toInt = -1 := rfl
  have lq0 : (0 : Int32).toInt = 0 := rfl
  have lq1 : (1 : Int32).toInt = 1 := rfl
  obtain ⟨tp, pl, rd, wk, mg, pt, ct, sr, A9, B9, hIf, fet, ⟨ht0, ht1⟩, hIA, hIB, hIs⟩ := hI
  have hIf2 := hIf
  obtain ⟨⟨fa0, fa1, fa2, fa3, fa4, fa5, fa6, fa7⟩, ⟨fb0, fb1, fb2, fb3, fb4, fb5, fb6, fb7, fb8⟩, ⟨fc0, fc1, fc2, fc3⟩, ⟨fd0, fd1, fd2, fd3⟩⟩ := hIf2
  have hIs2 := hIs
  obtain ⟨pr, og, sn, tx, le, ⟨z1, z2, z3, z4, z5, z6, z7, z8⟩, z9, z10, z11, z12, z13⟩ := hIs2
  refine pq_iload_n F dX10_octet_0 rfl rfl ?_
  refine pq_if_lt (tgt := 15) F dX10_octet_1 (by decide) (fun c1 => ?_) (fun c1 => ?_)
  · skip
    exact pq_thrX F ht hlk hA hl0 ⟨Nat.le_of_ble_eq_true rfl, Nat.le_of_ble_eq_true rfl⟩ (Nat.le_of_ble_eq_true rfl) (Nat.le_of_ble_eq_true rfl) (Nat.le_of_ble_eq_true rfl) (Nat.le_of_ble_eq_true rfl) (⟨rfl, pq_andM (M0 := []) (by decide) (pq_Fr.rf) (fun hFF => ⟨tp, pl, rd, wk, mg, pt, ct, sr, A9, B9, hIf.fr hFF (by decide), fet, ⟨(by focus ((try clear hIf); (try clear hIA); (try clear hIB); (try clear hIs); (try clear p1); (try clear p28); (try clear p36); (try clear p44); (try clear p53); (try clear p62); (try clear hwc); simp only [vp_in_iff, Int32.lt_iff_toInt_lt, Int32.le_iff_toInt_le, ← Int32.toInt_inj, Int32.toInt_add, Int32.toInt_sub, Int32.toInt_mul, Int32.toInt_neg, pq_NuO, pq_NuI, pq_NuJ, pq_NuR, pq_shr6, pq_shr7, pq_shr8, lqm1, lq0, lq1] at *; (try simp (disch := omega) only [pq_bm] at *); all_goals omega)), (by focus ((try clear hIf); (try clear hIA); (try clear hIB); (try clear hIs); (try clear p1); (try clear p28); (try clear p36); (try clear p44); (try clear p53); (try clear p62); (try clear hwc); simp only [vp_in_iff, Int32.lt_iff_toInt_lt, Int32.le_iff_toInt_le, ← Int32.toInt_inj, Int32.toInt_add, Int32.toInt_sub, Int32.toInt_mul, Int32.toInt_neg, pq_NuO, pq_NuI, pq_NuJ, pq_NuR, pq_shr6, pq_shr7, pq_shr8, lqm1, lq0, lq1] at *; (try simp (disch := omega) only [pq_bm] at *); all_goals omega))⟩, hIA.fr fd2 (by decide) (by decide) (by decide) hFF (by decide), hIB.fr fd3 (by decide) (by decide) (by decide) hFF (by decide), hIs.fr fb8 hFF (by decide)⟩)⟩) dX10_octet_15 dX10_octet_18 dX10_octet_19 dX10_octet_21 dX10_octet_24
  · skip
    refine pq_iload_n F dX10_octet_4 rfl rfl ?_
    refine pq_aload_n F dX10_octet_5 rfl rfl ?_
    refine pq_get F ha (by decide) lk_X10_67 fa7 dX10_octet_6 ?_
    refine pq_get F fb8 (by decide) lk_X10_148 z9 dX10_octet_9 ?_
    refine pq_icmp_lt (tgt := 25) F dX10_octet_12 (by decide) (fun c12 => ?_) (fun c12 => ?_)
    · skip
      refine pq_aload_n F dX10_octet_25 rfl rfl ?_
      refine pq_get F ha (by decide) lk_X10_67 fa7 dX10_octet_26 ?_
      refine pq_get F fb8 (by decide) lk_X10_154 z7 dX10_octet_29 ?_
      refine pq_iload_n F dX10_octet_32 rfl rfl ?_
      refine pq_bald F z8 (by decide) (by decide) rfl (fun n1_33 n2_33 => (by focus ((try clear hIf); (try clear hIA); (try clear hIB); (try clear hIs); (try clear p1); (try clear p28); (try clear p36); (try clear p44); (try clear p53); (try clear p62); (try clear hwc); simp only [vp_in_iff, Int32.lt_iff_toInt_lt, Int32.le_iff_toInt_le, ← Int32.toInt_inj, Int32.toInt_add, Int32.toInt_sub, Int32.toInt_mul, Int32.toInt_neg, pq_NuO, pq_NuI, pq_NuJ, pq_NuR, pq_shr6, pq_shr7, pq_shr8, lqm1, lq0, lq1] at *; (try simp (disch := omega) only [pq_bm] at *); all_goals omega))) dX10_octet_33 (fun x33 e33 l33 u33 => ?_)
      exact pq_lift (pq_iret F hr hlk hA (Nat.zero_le _) (Nat.zero_le _) (pq_andM (M0 := []) (by decide) (pq_Fr.rf) (fun hFF => ⟨_, rfl, ⟨tp, pl, rd, wk, mg, pt, ct, sr, A9, B9, hIf.fr hFF (by decide), fet, ⟨(by focus ((try clear hIf); (try clear hIA); (try clear hIB); (try clear hIs); (try clear p1); (try clear p28); (try clear p36); (try clear p44); (try clear p53); (try clear p62); (try clear hwc); simp only [vp_in_iff, Int32.lt_iff_toInt_lt, Int32.le_iff_toInt_le, ← Int32.toInt_inj, Int32.toInt_add, Int32.toInt_sub, Int32.toInt_mul, Int32.toInt_neg, pq_NuO, pq_NuI, pq_NuJ, pq_NuR, pq_shr6, pq_shr7, pq_shr8, lqm1, lq0, lq1] at *; (try simp (disch := omega) only [pq_bm] at *); all_goals omega)), (by focus ((try clear hIf); (try clear hIA); (try clear hIB); (try clear hIs); (try clear p1); (try clear p28); (try clear p36); (try clear p44); (try clear p53); (try clear p62); (try clear hwc); simp only [vp_in_iff, Int32.lt_iff_toInt_lt, Int32.le_iff_toInt_le, ← Int32.toInt_inj, Int32.toInt_add, Int32.toInt_sub, Int32.toInt_mul, Int32.toInt_neg, pq_NuO, pq_NuI, pq_NuJ, pq_NuR, pq_shr6, pq_shr7, pq_shr8, lqm1, lq0, lq1] at *; (try simp (disch := omega) only [pq_bm] at *); all_goals omega))⟩, hIA.fr fd2 (by decide) (by decide) (by decide) hFF (by decide), hIB.fr fd3 (by decide) (by decide) (by decide) hFF (by decide), hIs.fr fb8 hFF (by decide)⟩⟩)) dX10_octet_34)
    · skip
      exact pq_thrX F ht hlk hA hl0 ⟨Nat.le_of_ble_eq_true rfl, Nat.le_of_ble_eq_true rfl⟩ (Nat.le_of_ble_eq_true rfl) (Nat.le_of_ble_eq_true rfl) (Nat.le_of_ble_eq_true rfl) (Nat.le_of_ble_eq_true rfl) (⟨rfl, pq_andM (M0 := []) (by decide) (pq_Fr.rf) (fun hFF => ⟨tp, pl, rd, wk, mg, pt, ct, sr, A9, B9, hIf.fr hFF (by decide), fet, ⟨(by focus ((try clear hIf); (try clear hIA); (try clear hIB); (try clear hIs); (try clear p1); (try clear p28); (try clear p36); (try clear p44); (try clear p53); (try clear p62); (try clear hwc); simp only [vp_in_iff, Int32.lt_iff_toInt_lt, Int32.le_iff_toInt_le, ← Int32.toInt_inj, Int32.toInt_add, Int32.toInt_sub, Int32.toInt_mul, Int32.toInt_neg, pq_NuO, pq_NuI, pq_NuJ, pq_NuR, pq_shr6, pq_shr7, pq_shr8, lqm1, lq0, lq1] at *; (try simp (disch := omega) only [pq_bm] at *); all_goals omega)), (by focus ((try clear hIf); (try clear hIA); (try clear hIB); (try clear hIs); (try clear p1); (try clear p28); (try clear p36); (try clear p44); (try clear p53); (try clear p62); (try clear hwc); simp only [vp_in_iff, Int32.lt_iff_toInt_lt, Int32.le_iff_toInt_le, ← Int32.toInt_inj, Int32.toInt_add, Int32.toInt_sub, Int32.toInt_mul, Int32.toInt_neg, pq_NuO, pq_NuI, pq_NuJ, pq_NuR, pq_shr6, pq_shr7, pq_shr8, lqm1, lq0, lq1] at *; (try simp (disch := omega) only [pq_bm] at *); all_goals omega))⟩, hIA.fr fd2 (by decide) (by decide) (by decide) hFF (by decide), hIB.fr fd3 (by decide) (by decide) (by decide) hFF (by decide), hIs.fr fb8 hFF (by decide)⟩)⟩) dX10_octet_15 dX10_octet_18 dX10_octet_19 dX10_octet_21 dX10_octet_24

