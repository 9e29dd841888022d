/-! ===== an exception whose constructor links its super's at another place (NoSuchElementException): follows the library's BundleOwnThrow.lean (ctorThrowS) over the chain of Shelf42/F29a.lean ===== -/
set_option maxHeartbeats 2000000 in
theorem pq_ctorX {p : Program} {l : Launch} {e : Env} {R : Room} {s : State} {m₀ : MethodId} {args : Array Value} {below : List Frame} {meth : Method} {c : Code} {W : State} {locs : List Loc} {cells slots : Nat} (X : Stand p l e R s m₀ args below meth c W locs cells slots) (hexec : p.tables.exec = Jvm.exec) (htr : e.platform.stackTraces = false) {own cls : String} {names : List String} {ic ix : Nat} {rx : ByteArray}
    (x0 : decode rx 0 = .ok (.aload_n 0, 1)) (x1 : decode rx 1 = .ok (.aload_n 1, 1)) (x2 : decode rx 2 = .ok (.invokespecial ix, 3)) (x5 : decode rx 5 = .ok (.return_, 1))
    (hown : s.vm.findClass own = some m₀.cls) (hcls : Bundle.fit cls = true) (hnames : ∀ n ∈ names, Bundle.fit n = true) (h : ∀ a ∈ Bundle.ownAtomsX own ic cls ix rx names, a.before args s = true)
    (hlocs : ∀ x ∈ locs, ∀ cell, s.heap[x.base]? = some cell → cell.vm.isStatics = false)
    {a : Addr} {cX : ClassId} {kX : Class} (hfoundX : s.vm.findClass cls = some cX) (hkX : s.vm.classes[cX]? = some kX) (hcell : W.heap[a]? = some (freshCell cX kX)) (hnew : s.heap.size ≤ a)
    {msg : Value} (hmsg : msg.isRef = true) {g : JFrame} (hg : g.method = m₀) (hsize : g.locals.size = c.maxLocals) (hlocked : g.locked = none) (hentered : g.entered = []) {rest : List Value} (hstack : g.stack = msg :: .ref a :: .ref a :: rest)
    (hd6 : decode c.code g.pc = .ok (.invokespecial ic, 3)) (hd9 : decode c.code (g.pc + 3) = .ok (.athrow, 1)) (hout : ∀ x ∈ c.exceptionTable.toList, covers x (g.pc + 3) = false)
    (hRframes : names.length + 3 < R.frames) (hRlocals : 2 * g.monitorRoom + ((Value.ref a :: rest).map fun v => v.category).sum + (13 * (names.length + 1) + 42) ≤ R.locals) (hlocks : meth.locks = false) :
    ∃ U : State, Steps p.tables e below (W.setTop g) U ∧ U.status = .running ∧ Ended U below (.threw a) ∧ s.WarmedH U.vm ∧ s.sameButNew ({ U with vm := s.vm } : State) locs cells slots ∧ ∃ ce, U.heap[a]? = some ce ∧ ce.vm = .none ∧ s.vm.findClass cls = some ce.cls := by
  have hpl : e.platform.magicAccessors = ({} : Platform).magicAccessors := by rw [X.admits.platform]
  have wd : ∀ x, x ∈ Bundle.ownAtomsX own ic cls ix rx names → x.holds args s none s [] = true := fun x hx => h x hx
  obtain ⟨T, Z0, L, -, Y⟩ := ThrowableC.of_atoms (args := args) (by rw [X.admits.platform]) (by rw [X.admits.platform]) hpl (fun x hx => h x (by simp [Bundle.ownAtomsX, hx]))
  obtain ⟨Z, M, LZ, LM, hnZ⟩ := Init0T.ofS_atoms (args := args) hpl L Y (fun x hx => h x (by simp [Bundle.ownAtomsX, hx]))
  obtain ⟨P1, Ps, hlen, L1, hL, hP1m, hlink1, hlink⟩ := Bundle.chainSX (args := args) hpl hnZ x0 x1 x2 x5 names cls hcls hnames (fun x hx => h x (by simp [Bundle.ownAtomsX, hx]))
  have hfound : s.vm.findClass cls = some P1.m.cls := findClass_of_methodNamed hP1m
  cases Option.some.inj (hfoundX.symm.trans hfound)
  obtain ⟨c1, kX', hc1, hk, hord, -, -, hn6⟩ := Cond.instantiable_spec (wd (.instantiable cls 6) (by simp [Bundle.ownAtomsX]))
  cases Option.some.inj (hc1.symm.trans hfound)
  cases Option.some.inj (hkX.symm.trans hk)
  have sel : ∀ {t : MethodName} {mt : MethodId}, s.methodNamed? t = some mt → s.methodFound? t = some mt → Cond.selects cls t t ∈ Bundle.ownAtomsX own ic cls ix rx names → selectMethod e.platform s.vm P1.m.cls mt = .method mt := by
    intro t mt h1 h2 h3
    obtain ⟨c2, r2, m2, q1, q2, q3, q4, -⟩ := Cond.selects_spec (wd _ h3)
    cases Option.some.inj (q1.symm.trans hfound)
    cases Option.some.inj (q2.symm.trans h2)
    cases Option.some.inj (q3.symm.trans h1)
    rw [Launch.admits_selectMethod X.admits]; exact q4
  have hsel0 := sel Y.fill0 (State.methodFound?_of_named Y.fill0 (by decide)) (by simp [Bundle.ownAtomsX])
  have hselF := sel Y.fill (State.methodFound?_of_named Y.fill (by decide)) (by simp [Bundle.ownAtomsX])
  obtain ⟨cellS0, hcS0, hiss⟩ := Y.statics
  obtain ⟨u0, hu0⟩ := Cond.staticRefV Y.unassigned L.unassignedStatic L.statics hcS0 hiss (wd (.isRef (.static Bundle.tN "UNASSIGNED_STACK" Bundle.steD)) (by simp [Bundle.ownAtomsX]))
  obtain ⟨sen, hsen⟩ := Cond.staticRefV Y.sentinel L.sentinelStatic L.statics hcS0 hiss (wd (.isRef (.static Bundle.tN "SUPPRESSED_SENTINEL" Bundle.listD)) (by simp [Bundle.ownAtomsX]))
  obtain ⟨ci198, i198, fB, hk198, hg198, ha198, hsB, -, hnB, htB, hffB⟩ := Cond.ownField (t := .object "java/lang/Object") Y.found L.cls (by decide +kernel) (wd (.fieldLink Bundle.tN 198 Bundle.tN "backtrace" "Ljava/lang/Object;") (by simp [Bundle.ownAtomsX])) (wd (.lays Bundle.tN Bundle.tN "backtrace" "Ljava/lang/Object;") (by simp [Bundle.ownAtomsX])) e.platform
  obtain ⟨cellS, hcS', heS, -, hkeep⟩ := X.same.2.2.2.2.2 T.aS cellS0 hcS0
  have hcellS : W.heap[T.aS]? = some cellS := hcS'
  have hout' : ∀ i, (⟨T.aS, i⟩ : Loc) ∉ locs := fun i hmem => by
    have := hlocs _ hmem cellS0 hcS0
    rw [hiss] at this; cases this
  have hknownS : cellS.vm ≠ .unknown := by
    rw [heS]; intro hu
    rw [show cellS0.vm = .unknown from hu] at hiss
    cases hiss
  have hneS : T.aS ≠ a := Nat.ne_of_lt (Nat.lt_of_lt_of_le (Array.getElem?_eq_some_iff.mp hcS0).1 hnew)
  obtain ⟨iM, hffM⟩ := Y.msg
  obtain ⟨tyC, dC, hdC, hdnC⟩ := Cond.laysAt hfound hk Y.cause (wd (.lays cls Bundle.tN "cause" "Ljava/lang/Throwable;") (by simp [Bundle.ownAtomsX]))
  obtain ⟨tyS, dS, hdS, hdnS⟩ := Cond.laysAt hfound hk Y.stack (wd (.lays cls Bundle.tN "stackTrace" Bundle.steD) (by simp [Bundle.ownAtomsX]))
  obtain ⟨tyP, dP, hdP, hdnP⟩ := Cond.laysAt hfound hk Y.supp (wd (.lays cls Bundle.tN "suppressedExceptions" Bundle.listD) (by simp [Bundle.ownAtomsX]))
  obtain ⟨tyM, dM, hdM, hdnM⟩ := Cond.laysAt hfound hk hffM (wd (.lays cls Bundle.tN "detailMessage" "Ljava/lang/String;") (by simp [Bundle.ownAtomsX]))
  obtain ⟨tyB, dB, hdB, hdnB⟩ := Cond.laysAt hfound hk hffB (wd (.lays cls Bundle.tN "backtrace" "Ljava/lang/Object;") (by simp [Bundle.ownAtomsX]))
  have bC := Cond.laysApart hdB hdC hdnB hdnC (by rw [hnB, Y.causeName]; decide)
  have bS := Cond.laysApart hdB hdS hdnB hdnS (by rw [hnB, Y.stackName]; decide)
  have bP := Cond.laysApart hdB hdP hdnB hdnP (by rw [hnB, Y.suppName]; decide)
  have hskip : SkipFacts T e.platform s (fun u => u) u0 ((preparedCellV T.toThrowableT (freshCell P1.m.cls kX) a u0 sen).withEntry W.cur) :=
    ⟨{ ci198 := ci198, i198 := i198, fBack := fB }, ⟨hk198, hg198, ha198, hsB⟩, by
      have := fresh_default (c := P1.m.cls) tyB
      rw [htB] at this
      simpa [preparedCellV, Cell.setSlot, Cell.withEntry, Array.getElem?_setIfInBounds, bC, bS, bP, bC.symm, bS.symm, bP.symm, defaultValue] using this, fun _ _ => rfl⟩
  obtain ⟨tm, methC, cdC, kC, vm₁, hnC, -, -, -, -, -, -, -, hW₁, st1⟩ := Steps.initColdS (tb := p.tables) (e := e) (below := below) (s := s) (U := W) X.here hexec X.warmed hpl hown (t := Bundle.initS cls) rfl rfl (Bundle.fit_spec hcls).2
    (wd (.methodLink own ic (Bundle.initS cls)) (by simp [Bundle.ownAtomsX])) (h (.instanceMethod (Bundle.initS cls)) (by cases names <;> simp [Bundle.ownAtomsX, Bundle.chainSAtomsX, Bundle.passSAtoms])) (bytes := rx) (maxL := 2) (h (.code (Bundle.initS cls) rx 2 none) (by cases names <;> simp [Bundle.ownAtomsX, Bundle.chainSAtomsX, Bundle.passSAtoms]))
    (f := g) hg (a := a) (msg := msg) (rest := .ref a :: rest) hstack hd6
  cases Option.some.inj (hnC.symm.trans hP1m)
  have X₁ := X.noted hW₁
  obtain ⟨vm₂, X₂, st2⟩ := X₁.ctorMessageOffV hexec (g := { g with stack := .ref a :: rest }) hg hsize T L Z LZ M LM (P1 :: Ps)
    (fun P hP => by rcases List.mem_cons.mp hP with rfl | hP; exact L1; exact hL P hP) ⟨hlink1, hlink⟩ (u0 := u0) (sen := sen) (self := a) hmsg (cell := freshCell P1.m.cls kX) (cellS := cellS)
    hcell (fun _ => by simp) (by simp) rfl rfl hsel0 hselF hcellS hneS hknownS (by rw [hkeep _ (hout' _)]; exact hu0) (by rw [hkeep _ (hout' _)]; exact hsen)
    (Takes.of_laid hk hord tyC (by rw [Y.causeType]; rfl)) (Takes.of_laid hk hord tyS (by rw [Y.stackType]; exact fits_refV_array _ u0)) (Takes.of_laid hk hord tyP (by rw [Y.suppType]; exact fits_refV_object _ sen))
    (Takes.of_laid hk hord tyM (by rw [Y.msgType]; exact fits_refV_object _ ⟨msg, hmsg⟩)) Y.objLocals hskip htr [] hd6
    (by simp only [List.length_cons, hlen]; omega) (by simp only [List.length_cons, hlen]; exact hRlocals)
  obtain ⟨hwalk, hrun, hended, hWU, hsame⟩ := X₂.athrowLeaves hexec (g := { g with stack := .ref a :: rest, pc := g.pc + 3 }) hg hlocked hentered hout (a := a) (rest := rest) rfl hd9
  have hlt : a < ((W.setVm vm₁).setVm vm₂).heap.size := (Array.getElem?_eq_some_iff.mp hcell).1
  have hU := heapAt_setCell_self (s := (W.setVm vm₁).setVm vm₂) (plainBareV T.toThrowableT (freshCell P1.m.cls kX) a u0 sen msg) hlt
  refine ⟨_, st1 _ (fun acts => ?_), hrun, hended, hWU, hsame.weaken (fun y hy hlt' => ?_) (Nat.le_refl _) (Nat.le_refl _), _, hU, rfl, hfound⟩
  · rw [doInvoke_state]
    exact st2 _ hwalk
  · rcases List.mem_append.mp hy with h1 | h1
    · exact h1
    · exfalso
      have hb : y.base = a := by
        simp only [List.mem_cons, List.not_mem_nil, or_false] at h1
        rcases h1 with rfl | rfl | rfl | rfl | rfl <;> rfl
      rw [hb] at hlt'
      exact Nat.not_lt.mpr hnew hlt'
def pq_atX (own : String) (ic : Nat) (cls : String) (ix : Nat) (rx : ByteArray) : List Cond := (Bundle.ownAtomsX own ic cls ix rx pq_nm2).filter vx_no

theorem vx_throwX {p : Program} {l : Launch} {e : Env} {R : Room} {s : State} {m : MethodId} {args : Array Value} {below : List Frame} {meth : Method} {c : Code} {H : Heap} {locs : List Loc} {cells slots : Nat} {free : Addr → Prop} {ls : Array Slot} {rest : List Value} {Qc : Array Value → State → Outcome → State → Prop} {XC : String → State → State → Prop} {ix : Nat} {rx : ByteArray} (x0 : decode rx 0 = .ok (.aload_n 0, 1)) (x1 : decode rx 1 = .ok (.aload_n 1, 1)) (x2 : decode rx 2 = .ok (.invokespecial ix, 3)) (x5 : decode rx 5 = .ok (.return_, 1)) {cc : ByteArray} {pc : Nat} (hexec : p.tables.exec = Jvm.exec) (hb : c.code = cc) (hl : l.stackTraces = false) {own cls text : String} {ik is ic mc ms sa : Nat} {A : Nat → Prop}
    (hown : s.vm.findClass own = some m.cls) (hcls : Bundle.fit cls = true) 
    (hk : (Cond.classLink own ik cls).before args s = true) (hini : (Cond.initialized cls).before args s = true) (hstr : vk_R own is text sa s) (hat : ∀ w ∈ pq_atX own ic cls ix rx, w.before args s = true)
    (hgood : ∀ w ∈ Cond.classLink own ik cls :: Cond.initialized cls :: pq_atX own ic cls ix rx, vx_ot w = true)
    (hU : vx_Zq Bundle.tN "UNASSIGNED_STACK" Bundle.steD A s s.heap) (hN : vx_Zq Bundle.tN "SUPPRESSED_SENTINEL" Bundle.listD A s s.heap) (hS : va_S A s.heap H locs) (hsize : ls.size = c.maxLocals)
    (d0 : decode cc pc = .ok (.new ik, 3)) (d3 : decode cc (pc + 3) = .ok (.dup, 1)) (d4 : decode cc (pc + 4) = .ok (.ldc is, 2)) (d6 : decode cc (pc + 6) = .ok (.invokespecial ic, 3)) (d9 : decode cc (pc + 9) = .ok (.athrow, 1))
    (hout : ∀ x ∈ c.exceptionTable.toList, covers x (pc + 9) = false)
    (hRframes : pq_nm2.length + 3 < R.frames) (hRlocals : (rest.map fun v => v.category).sum + (13 * (pq_nm2.length + 1) + 43) ≤ R.locals) (hRcells : cells + 1 ≤ R.cells) (hRslots : slots + 6 ≤ R.slots) (hlocks : meth.locks = false)
    (hx : ∀ t : State, s.vm.Alike t.vm → H.size ≤ t.heap.size → (∀ q : Nat, q < H.size → t.heap[q]? = H[q]?) → XC cls s t)
    (hf : ∀ z ∈ locs, free z.base) (hc : cells + 1 ≤ mc) (hs : slots + 6 ≤ ms) :
    W p l e R s m args below meth c H locs cells slots (vx_MQ below Qc XC args s mc ms free) (F0 m pc ls rest) := by
  intro T hT X
  have htr : e.platform.stackTraces = false := (show e.platform.stackTraces = l.stackTraces by rw [X.admits.platform]).trans hl
  have Y := vx_rebase X (R' := { frames := R.frames, locals := R.locals, cells := 1, slots := 6 }) (Nat.le_refl _) (Nat.le_refl _) hRcells hRslots
  obtain ⟨s', hA⟩ : ∃ z, z = (T.setVm s.vm).setFrames (.invoking m args :: below) := ⟨_, rfl⟩
  rw [← hA] at Y
  have hvm : s'.vm = s.vm := by rw [hA]; rfl
  have hhp : s'.heap = H := by rw [hA]; exact hT
  have hW0 : s.WarmedH s'.vm := by rw [hvm]; exact State.WarmedH.refl s
  have hat' : ∀ w ∈ pq_atX own ic cls ix rx, w.before args s' = true := fun w hw => vx_ot_at hW0 hvm.symm (hgood w (List.mem_cons_of_mem _ (List.mem_cons_of_mem _ hw))) (hat w hw)
  have hk' : (Cond.classLink own ik cls).before args s' = true := vx_ot_at hW0 hvm.symm (hgood _ List.mem_cons_self) hk
  have hini' : (Cond.initialized cls).before args s' = true := vx_ot_at hW0 hvm.symm (hgood _ (List.mem_cons_of_mem _ List.mem_cons_self)) hini
  have hU' : vx_Zq Bundle.tN "UNASSIGNED_STACK" Bundle.steD A s' s'.heap := by rw [hhp]; exact vx_Zq.moved hW0.alike (hU.kept hS.2.1)
  have hN' : vx_Zq Bundle.tN "SUPPRESSED_SENTINEL" Bundle.listD A s' s'.heap := by rw [hhp]; exact vx_Zq.moved hW0.alike (hN.kept hS.2.1)
  have h : ∀ w ∈ Bundle.ownAtomsX own ic cls ix rx pq_nm2, w.before args s' = true := vx_own hat' (vx_isRefq hU'.1) (vx_isRefq hN'.1) hU'.2.word hN'.2.word
  have hown' : s'.vm.findClass own = some m.cls := by rw [hvm]; exact hown
  have hins : (Cond.instantiable cls 6).before args s' = true := h _ (by simp [Bundle.ownAtomsX])
  obtain ⟨vm₁, cX, kX, hfX, hkX, -, -, X₁, st1⟩ := Y.newCold hexec (own := own) (C := cls) (index := ik) (n := 6) hown' hk' hins hini'
    (g := F0 m pc ls rest) rfl (by rw [hb]; exact d0) (Nat.le_refl _) (Nat.le_refl _)
  generalize hT1 : (T.setVm vm₁).pushCell { cls := cX, slots := kX.instanceTypes.map defaultValue, vm := .none } = T1 at X₁ st1
  have hcat : (Value.ref T.heap.size).category = 1 := rfl
  have hcellA : T1.heap[T.heap.size]? = some (freshCell cX kX) := by rw [← hT1]; exact State.heap_pushCell_size _ _
  have d3' : decode c.code (pc + 3) = .ok (.dup, 1) := by rw [hb]; exact d3
  have d4' : decode c.code (pc + 4) = .ok (.ldc is, 2) := by rw [hb]; exact d4
  have hstr' : vk_R own is text sa s' := vk_R.warm hW0 hstr
  obtain ⟨U, hsteps, hrun, hend, hW, hsame, ce, hce, hOv, hOc⟩ := pq_ctorX X₁ hexec htr (own := own) (cls := cls) (names := pq_nm2) (ic := ic) x0 x1 x2 x5 hown' hcls (by decide) h (fun x hx => nomatch hx) hfX hkX hcellA (by rw [hhp, hT]; exact Nat.le_refl _) (msg := .ref sa) rfl
    (g := { method := m, pc := pc + 6, locals := ls, stack := .ref sa :: .ref T.heap.size :: .ref T.heap.size :: rest, locked := none }) rfl hsize rfl rfl (rest := rest) rfl
    (by rw [hb]; exact d6) (by rw [hb]; exact d9) hout hRframes (by simp only [List.map_cons, List.sum_cons, hcat]; omega) hlocks
  obtain ⟨f1, f2⟩ := vx_frame hsame
  rw [hhp] at f1 f2
  have hWs : s.WarmedH U.vm := State.WarmedH.trans hW0 hW
  have hcl : s.vm.findClass cls = some ce.cls := by
    have h9 := hOc
    rw [hvm] at h9
    exact h9
  have hall : s.sameButNew ({ U with vm := s.vm } : State) locs mc ms := by
    subst hA
    obtain ⟨e1, e2⟩ := hsame
    rw [State.setFrames_setFrames] at e1
    have h2 : (T.setVm s.vm).sameButNew ({ U with vm := s.vm } : State) [] (0 + 1) (0 + 6) := ⟨e1, e2⟩
    have h3 := X.same.trans h2
    rw [List.append_nil] at h3
    exact h3.mono hc hs
  refine ⟨U, ?_, .threw T.heap.size, hrun, hend, Or.inr ⟨T.heap.size, rfl, cls, ce, locs, hx U hWs.alike f1 (fun q hq => f2 q hq (fun z hz => nomatch hz)), hce, hOv, hcl, hWs, hall, hf⟩⟩
  refine st1 _ ?_
  show Steps p.tables e below (T1.setTop { method := m, pc := pc + 3, locals := ls, stack := .ref T.heap.size :: rest, locked := none }) _
  jvm_step X₁.here [X₁.here.top, hexec, d3', Value.category]
  exact X₁.ldcString hexec (own := own) (text := text) (index := is) (a := sa) hown' hstr'.1 hstr'.2
    (g := { method := m, pc := pc + 4, locals := ls, stack := .ref T.heap.size :: .ref T.heap.size :: rest, locked := none }) rfl d4' _ hsteps

def pq_rx : ByteArray := ⟨#[0x2a, 0x2b, 0xb7, 0x00, 0x0d, 0xb1]⟩
theorem xw_P153 : ∀ w ∈ Bundle.passSAtoms "java/util/NoSuchElementException" "java/lang/RuntimeException" 13 pq_rx, vx_no w = true → w ∈ gtb ∨ w ∈ ntb ∨ w ∈ dtb := List.forall_mem_cons.mpr ⟨fun _ => Or.inl (pq_gt5 (i := 183) rfl rfl), List.forall_mem_cons.mpr ⟨fun _ => Or.inl (pq_gt5 (i := 184) rfl rfl), List.forall_mem_cons.mpr ⟨fun _ => Or.inl (pq_gt5 (i := 185) rfl rfl), List.forall_mem_cons.mpr ⟨fun _ => Or.inl (pq_gt2 (i := 186) rfl rfl), List.forall_mem_cons.mpr ⟨fun _ => Or.inr (Or.inr (List.mem_cons_self)), fun _ h => absurd h List.not_mem_nil⟩⟩⟩⟩⟩
theorem xw_L153 : ∀ w ∈ ([.methodLink "PatternPairs" 153 (Bundle.initS "java/util/NoSuchElementException"), .instantiable "java/util/NoSuchElementException" 6, .castable "java/util/NoSuchElementException" "java/util/NoSuchElementException", .selects "java/util/NoSuchElementException" Bundle.tFill0 Bundle.tFill0, .selects "java/util/NoSuchElementException" Bundle.tFill Bundle.tFill, .lays "java/util/NoSuchElementException" Bundle.tN "cause" "Ljava/lang/Throwable;", .lays "java/util/NoSuchElementException" Bundle.tN "stackTrace" Bundle.steD, .lays "java/util/NoSuchElementException" Bundle.tN "suppressedExceptions" Bundle.listD, .lays "java/util/NoSuchElementException" Bundle.tN "detailMessage" "Ljava/lang/String;", .isRef (.static Bundle.tN "UNASSIGNED_STACK" Bundle.steD), .isRef (.static Bundle.tN "SUPPRESSED_SENTINEL" Bundle.listD), .fieldLink Bundle.tN 198 Bundle.tN "backtrace" "Ljava/lang/Object;", .lays Bundle.tN Bundle.tN "backtrace" "Ljava/lang/Object;", .lays "java/util/NoSuchElementException" Bundle.tN "backtrace" "Ljava/lang/Object;"] : List Cond), vx_no w = true → w ∈ gtb ∨ w ∈ ntb ∨ w ∈ dtb := List.forall_mem_cons.mpr ⟨fun _ => Or.inl (pq_gt5 (i := 182) rfl rfl), List.forall_mem_cons.mpr ⟨fun _ => Or.inl (pq_gt5 (i := 173) rfl rfl), List.forall_mem_cons.mpr ⟨fun _ => Or.inr (Or.inl (pq_nt5 (i := 174) rfl rfl)), List.forall_mem_cons.mpr ⟨fun _ => Or.inl (pq_gt5 (i := 175) rfl rfl), List.forall_mem_cons.mpr ⟨fun _ => Or.inl (pq_gt2 (i := 174) rfl rfl), List.forall_mem_cons.mpr ⟨fun _ => Or.inl (pq_gt5 (i := 176) rfl rfl), List.forall_mem_cons.mpr ⟨fun _ => Or.inl (pq_gt5 (i := 177) rfl rfl), List.forall_mem_cons.mpr ⟨fun _ => Or.inl (pq_gt5 (i := 178) rfl rfl), List.forall_mem_cons.mpr ⟨fun _ => Or.inl (pq_gt5 (i := 179) rfl rfl), List.forall_mem_cons.mpr ⟨fun h => absurd h (by decide), List.forall_mem_cons.mpr ⟨fun h => absurd h (by decide), List.forall_mem_cons.mpr ⟨fun _ => Or.inl (pq_gt2 (i := 159) rfl rfl), List.forall_mem_cons.mpr ⟨fun _ => Or.inl (pq_gt2 (i := 158) rfl rfl), List.forall_mem_cons.mpr ⟨fun _ => Or.inl (pq_gt5 (i := 180) rfl rfl), fun _ h => absurd h List.not_mem_nil⟩⟩⟩⟩⟩⟩⟩⟩⟩⟩⟩⟩⟩⟩
theorem xw_153 : ∀ w ∈ pq_atX "PatternPairs" 153 "java/util/NoSuchElementException" 13 pq_rx, w ∈ gtb ∨ w ∈ ntb ∨ w ∈ dtb := by
  intro w hw
  obtain ⟨hm, hn⟩ := List.mem_filter.mp hw
  unfold Bundle.ownAtomsX at hm
  rcases List.mem_append.mp hm with hm | hm
  · rcases List.mem_append.mp hm with hm | hm
    · rcases List.mem_append.mp hm with hm | hm
      · exact xw_T w hm hn
      · exact xw_S w hm hn
    · have hm' : w ∈ Bundle.passSAtoms "java/util/NoSuchElementException" "java/lang/RuntimeException" 13 pq_rx ++ (Bundle.passSAtoms "java/lang/RuntimeException" "java/lang/Exception" 7 Bundle.six ++ Bundle.passSAtoms "java/lang/Exception" Bundle.tN 7 Bundle.six) := hm
      rcases List.mem_append.mp hm' with hm | hm
      · exact xw_P153 w hm hn
      rcases List.mem_append.mp hm with hm | hm
      · exact xw_RE w hm hn
      · exact xw_EX w hm hn
  · exact xw_L153 w hm hn
theorem xi_153 : Cond.initialized "java/util/NoSuchElementException" ∈ gtb := (by have := pq_gt1 (i := 32) rfl rfl; exact this)
theorem pq_rx0 : decode pq_rx 0 = .ok (.aload_n 0, 1) := by decide +kernel
theorem pq_rx1 : decode pq_rx 1 = .ok (.aload_n 1, 1) := by decide +kernel
theorem pq_rx2 : decode pq_rx 2 = .ok (.invokespecial 13, 3) := by decide +kernel
theorem pq_rx5 : decode pq_rx 5 = .ok (.return_, 1) := by decide +kernel
theorem pq_thrX {p : Program} {l : Launch} {e : Env} {R : Room} {s : State} {m : MethodId} {args : Array Value} {below : List Frame} {meth : Method} {c : Code} {D : va_G} {cy : Nat → ClassId} {A : Nat → Prop} {nL : Nat} {cc : ByteArray} {cells slots pc : Nat} {S S0 : HS} {lc : List (Option Value)} {st : List Value} {mc ms : Nat} {post : Option Value → HS → Prop} {pX : String → HS → Prop} (F : pq_Fx p R s m args c D cy A cc nL "PatternPairs") (ht : (∀ x ∈ c.exceptionTable.toList, False) ∧ pq_Dn s) (hlk : meth.locks = false) (hA : A = va_A (pq_pl cy S0) s.heap.size) (hl0 : l.stackTraces = false)
    (hR : 5 < R.frames ∧ (st.map fun v => v.category).sum + 82 ≤ R.locals) (hc : cells + 1 ≤ R.cells) (hs : slots + 6 ≤ R.slots) (hc2 : cells + 1 ≤ mc) (hs2 : slots + 6 ≤ ms) (hq : pX "java/util/NoSuchElementException" S)
    (d0 : decode cc pc = .ok (.new 149, 3)) (d3 : decode cc (pc + 3) = .ok (.dup, 1)) (d4 : decode cc (pc + 4) = .ok (.ldc 151, 2)) (d6 : decode cc (pc + 6) = .ok (.invokespecial 153, 3)) (d9 : decode cc (pc + 9) = .ok (.athrow, 1)) :
    pq_At p l e R s m args below meth c (pq_ZX below args s D cy S0 mc ms post pX) D cy A nL cells slots pc S lc st := by
  intro H locs ls hT hP hD hS hl
  have hB := F.2.2.2.2.2.2.2.2
  have hts := F.2.2.2.2.1
  obtain ⟨sa, hsa⟩ := hB.2.1 (151, "the text has no such byte") (by decide)
  refine vx_throwX pq_rx0 pq_rx1 pq_rx2 pq_rx5 F.1 F.2.1 hl0 F.2.2.2.1 (cls := "java/util/NoSuchElementException") (by decide +kernel) (hts _ cl_X10_149) (hts _ xi_153) hsa (fun w h => ?_) (fun w h => ?_) hB.2.2.2.1 hB.2.2.2.2.1 hS (by rw [F.2.2.1]; exact hl.1) d0 d3 d4 d6 d9 (fun x hx => (ht.1 x hx).elim) hR.1 hR.2 hc hs hlk (fun t _ h2 h3 => pq_thrown hA hq hT hP hD hS t h2 h3) (fun z hz => hA ▸ hS.2.2 z hz) hc2 hs2
  · rcases xw_153 w h with h | h | h
    · exact hts w h
    · exact pq_wN' F.2.2.2.2.2.2.2.1 h
    · exact ht.2.w h
  · rcases List.mem_cons.mp h with rfl | h
    · exact pq_wot (Or.inl cl_X10_149)
    rcases List.mem_cons.mp h with rfl | h
    · exact pq_wot (Or.inl xi_153)
    exact pq_wot (xw_153 w h)
set_option maxHeartbeats 4000000 in
set_option maxRecDepth 100000 in
theorem k_X10_octet (l : Launch) (D : va_G) (cy : Nat → ClassId) (hl0 : l.stackTraces = false) (S : HS) (a : Nat) (ha : pq_R S a 13) (pi : Int32) (t : Int32) (np nq : Nat) (hI : pq_Ix S a t np nq) : pq_CX l D cy yX10_octet cX10_octet 2 (some .int) 6 1 6 S [.ref a, .int pi] (fun v S2 => pq_Fr [] S S2 ∧ ∃ x : Int32, v = some (.int x) ∧ (pq_Ix S2 a t np nq)) (fun E S2 => E = "java/util/NoSuchElementException" ∧ pq_Fr [] S S2 ∧ pq_Ix S2 a t np nq) := by
  refine pq_startX (by decide) (Nat.le_of_ble_eq_true rfl) ?_
  intro p e s m args below meth c A F hr hlk hnm hA ht
  have lqm1 : (-1 : Int32).toInt = -1 := rfl
  have lq0 : (0 : Int32).toInt = 0 := rfl
  have lq1 : (1 : Int32).toInt = 1 := rfl
  obtain ⟨tp, pl, rd, wk, mg, pt, ct, sr, A9, B9, hIf, fet, ⟨ht0, ht1⟩, hIA, hIB, hIs⟩ := hI
  have hIf2 := hIf
  obtain ⟨⟨fa0, fa1, fa2, fa3, fa4, fa5, fa6, fa7⟩, ⟨fb0, fb1, fb2, fb3, fb4, fb5, fb6, fb7, fb8⟩, ⟨fc0, fc1, fc2, fc3⟩, ⟨fd0, fd1, fd2, fd3⟩⟩ := hIf2
  have hIs2 := hIs
  obtain ⟨pr, og, sn, tx, le, ⟨z1, z2, z3, z4, z5, z6, z7, z8⟩, z9, z10, z11, z12, z13⟩ := hIs2
  refine pq_iload_n F dX10_octet_0 rfl rfl ?_
  refine pq_if_lt (tgt := 15) F dX10_octet_1 (by decide) (fun c1 => ?_) (fun c1 => ?_)
  · skip
    exact pq_thrX F ht hlk hA hl0 ⟨Nat.le_of_ble_eq_true rfl, Nat.le_of_ble_eq_true rfl⟩ (Nat.le_of_ble_eq_true rfl) (Nat.le_of_ble_eq_true rfl) (Nat.le_of_ble_eq_true rfl) (Nat.le_of_ble_eq_true rfl) (⟨rfl, pq_andM (M0 := []) (by decide) (pq_Fr.rf) (fun hFF => ⟨tp, pl, rd, wk, mg, pt, ct, sr, A9, B9, hIf.fr hFF (by decide), fet, ⟨(by focus ((try clear hIf); (try clear hIA); (try clear hIB); (try clear hIs); (try clear p1); (try clear p28); (try clear p36); (try clear p44); (try clear p53); (try clear p62); (try clear hwc); simp only [vp_in_iff, Int32.lt_iff_toInt_lt, Int32.le_iff_toInt_le, ← Int32.toInt_inj, Int32.toInt_add, Int32.toInt_sub, Int32.toInt_mul, Int32.toInt_neg, pq_NuO, pq_NuI, pq_NuJ, pq_NuR, pq_shr6, pq_shr7, pq_shr8, lqm1, lq0, lq1] at *; (try simp (disch := omega) only [pq_bm] at *); all_goals omega)), (by focus ((try clear hIf); (try clear hIA); (try clear hIB); (try clear hIs); (try clear p1); (try clear p28); (try clear p36); (try clear p44); (try clear p53); (try clear p62); (try clear hwc); simp only [vp_in_iff, Int32.lt_iff_toInt_lt, Int32.le_iff_toInt_le, ← Int32.toInt_inj, Int32.toInt_add, Int32.toInt_sub, Int32.toInt_mul, Int32.toInt_neg, pq_NuO, pq_NuI, pq_NuJ, pq_NuR, pq_shr6, pq_shr7, pq_shr8, lqm1, lq0, lq1] at *; (try simp (disch := omega) only [pq_bm] at *); all_goals omega))⟩, hIA.fr fd2 (by decide) (by decide) (by decide) hFF (by decide), hIB.fr fd3 (by decide) (by decide) (by decide) hFF (by decide), hIs.fr fb8 hFF (by decide)⟩)⟩) dX10_octet_15 dX10_octet_18 dX10_octet_19 dX10_octet_21 dX10_octet_24
  · skip
    refine pq_iload_n F dX10_octet_4 rfl rfl ?_
    refine pq_aload_n F dX10_octet_5 rfl rfl ?_
    refine pq_get F ha (by decide) lk_X10_67 fa7 dX10_octet_6 ?_
    refine pq_get F fb8 (by decide) lk_X10_148 z9 dX10_octet_9 ?_
    refine pq_icmp_lt (tgt := 25) F dX10_octet_12 (by decide) (fun c12 => ?_) (fun c12 => ?_)
    · skip
      refine pq_aload_n F dX10_octet_25 rfl rfl ?_
      refine pq_get F ha (by decide) lk_X10_67 fa7 dX10_octet_26 ?_
      refine pq_get F fb8 (by decide) lk_X10_154 z7 dX10_octet_29 ?_
      refine pq_iload_n F dX10_octet_32 rfl rfl ?_
      refine pq_bald F z8 (by decide) (by decide) rfl (fun n1_33 n2_33 => (by focus ((try clear hIf); (try clear hIA); (try clear hIB); (try clear hIs); (try clear p1); (try clear p28); (try clear p36); (try clear p44); (try clear p53); (try clear p62); (try clear hwc); simp only [vp_in_iff, Int32.lt_iff_toInt_lt, Int32.le_iff_toInt_le, ← Int32.toInt_inj, Int32.toInt_add, Int32.toInt_sub, Int32.toInt_mul, Int32.toInt_neg, pq_NuO, pq_NuI, pq_NuJ, pq_NuR, pq_shr6, pq_shr7, pq_shr8, lqm1, lq0, lq1] at *; (try simp (disch := omega) only [pq_bm] at *); all_goals omega))) dX10_octet_33 (fun x33 e33 l33 u33 => ?_)
      exact pq_lift (pq_iret F hr hlk hA (Nat.zero_le _) (Nat.zero_le _) (pq_andM (M0 := []) (by decide) (pq_Fr.rf) (fun hFF => ⟨_, rfl, ⟨tp, pl, rd, wk, mg, pt, ct, sr, A9, B9, hIf.fr hFF (by decide), fet, ⟨(by focus ((try clear hIf); (try clear hIA); (try clear hIB); (try clear hIs); (try clear p1); (try clear p28); (try clear p36); (try clear p44); (try clear p53); (try clear p62); (try clear hwc); simp only [vp_in_iff, Int32.lt_iff_toInt_lt, Int32.le_iff_toInt_le, ← Int32.toInt_inj, Int32.toInt_add, Int32.toInt_sub, Int32.toInt_mul, Int32.toInt_neg, pq_NuO, pq_NuI, pq_NuJ, pq_NuR, pq_shr6, pq_shr7, pq_shr8, lqm1, lq0, lq1] at *; (try simp (disch := omega) only [pq_bm] at *); all_goals omega)), (by focus ((try clear hIf); (try clear hIA); (try clear hIB); (try clear hIs); (try clear p1); (try clear p28); (try clear p36); (try clear p44); (try clear p53); (try clear p62); (try clear hwc); simp only [vp_in_iff, Int32.lt_iff_toInt_lt, Int32.le_iff_toInt_le, ← Int32.toInt_inj, Int32.toInt_add, Int32.toInt_sub, Int32.toInt_mul, Int32.toInt_neg, pq_NuO, pq_NuI, pq_NuJ, pq_NuR, pq_shr6, pq_shr7, pq_shr8, lqm1, lq0, lq1] at *; (try simp (disch := omega) only [pq_bm] at *); all_goals omega))⟩, hIA.fr fd2 (by decide) (by decide) (by decide) hFF (by decide), hIB.fr fd3 (by decide) (by decide) (by decide) hFF (by decide), hIs.fr fb8 hFF (by decide)⟩⟩)) dX10_octet_34)
    · skip
      exact pq_thrX F ht hlk hA hl0 ⟨Nat.le_of_ble_eq_true rfl, Nat.le_of_ble_eq_true rfl⟩ (Nat.le_of_ble_eq_true rfl) (Nat.le_of_ble_eq_true rfl) (Nat.le_of_ble_eq_true rfl) (Nat.le_of_ble_eq_true rfl) (⟨rfl, pq_andM (M0 := []) (by decide) (pq_Fr.rf) (fun hFF => ⟨tp, pl, rd, wk, mg, pt, ct, sr, A9, B9, hIf.fr hFF (by decide), fet, ⟨(by focus ((try clear hIf); (try clear hIA); (try clear hIB); (try clear hIs); (try clear p1); (try clear p28); (try clear p36); (try clear p44); (try clear p53); (try clear p62); (try clear hwc); simp only [vp_in_iff, Int32.lt_iff_toInt_lt, Int32.le_iff_toInt_le, ← Int32.toInt_inj, Int32.toInt_add, Int32.toInt_sub, Int32.toInt_mul, Int32.toInt_neg, pq_NuO, pq_NuI, pq_NuJ, pq_NuR, pq_shr6, pq_shr7, pq_shr8, lqm1, lq0, lq1] at *; (try simp (disch := omega) only [pq_bm] at *); all_goals omega)), (by focus ((try clear hIf); (try clear hIA); (try clear hIB); (try clear hIs); (try clear p1); (try clear p28); (try clear p36); (try clear p44); (try clear p53); (try clear p62); (try clear hwc); simp only [vp_in_iff, Int32.lt_iff_toInt_lt, Int32.le_iff_toInt_le, ← Int32.toInt_inj, Int32.toInt_add, Int32.toInt_sub, Int32.toInt_mul, Int32.toInt_neg, pq_NuO, pq_NuI, pq_NuJ, pq_NuR, pq_shr6, pq_shr7, pq_shr8, lqm1, lq0, lq1] at *; (try simp (disch := omega) only [pq_bm] at *); all_goals omega))⟩, hIA.fr fd2 (by decide) (by decide) (by decide) hFF (by decide), hIB.fr fd3 (by decide) (by decide) (by decide) hFF (by decide), hIs.fr fb8 hFF (by decide)⟩)⟩) dX10_octet_15 dX10_octet_18 dX10_octet_19 dX10_octet_21 dX10_octet_24

