/-! ===== contracts ===== -/
def pq_rm (d mc ms : Nat) : Room := { frames := d, cells := mc, slots := ms, locals := 40 * d }
def pq_Pc (D : va_G) (cy : Nat → ClassId) (S : HS) (sz : Nat) (av : List Value) : Array Value → State → Prop := fun v U => v = av.toArray ∧ pq_T S ∧ U.heap.size = sz ∧ va_P D vwCl (pq_pl cy S) U.heap ∧ va_K D vwCl (pq_ty cy) U ∧ va_D (fun _ => True) (pq_pl cy S) ∧ pq_N U ∧ pq_B cy (va_A (pq_pl cy S) sz) U U.heap
def pq_Qc (D : va_G) (cy : Nat → ClassId) (S : HS) (sz : Nat) (post : Option Value → HS → Prop) : Array Value → State → Outcome → State → Prop := fun _ st oc t => (∃ (r : Option Value) (S' : HS), oc = .returned r ∧ post r S' ∧ pq_T S' ∧ va_P D vwCl (pq_pl cy S') t.heap ∧ va_D (va_A (pq_pl cy S) sz) (pq_pl cy S')) ∧ va_F (va_A (pq_pl cy S) sz) st t
/-- from S with the values av the method returns, at most mc cells of ms slots are new, and 'post' holds of its answer and of the pool behind it -/
def pq_C (l : Launch) (D : va_G) (cy : Nat → ClassId) (y : MethodName) (cc : ByteArray) (nL : Nat) (ret : Option FieldType) (d mc ms : Nat) (S : HS) (av : List Value) (post : Option Value → HS → Prop) : Prop :=
  ∀ sz : Nat, Met l y (.code y cc nL ret :: gtb) (pq_rm d mc ms) (pq_Pc D cy S sz av) (pq_Qc D cy S sz post) mc ms (va_A (pq_pl cy S) sz)
def pq_Z (below : List Frame) (args : Array Value) (s : State) (D : va_G) (cy : Nat → ClassId) (S0 : HS) (mc ms : Nat) (post : Option Value → HS → Prop) : State → Prop := MQ below (pq_Qc D cy S0 s.heap.size post) args s mc ms (va_A (pq_pl cy S0) s.heap.size)
def pq_ar : List Value → List (Option Value)
  | [] => []
  | v :: t => if v.category = 2 then some v :: none :: pq_ar t else some v :: pq_ar t
def pq_l0 (av : List Value) (nL : Nat) : List (Option Value) := pq_ar av ++ List.replicate (nL - (pq_ar av).length) none
theorem pq_ar_get : ∀ (vs : List Value) (o i : Nat) (v : Value), (pq_ar vs)[i]? = some (some v) → (o + i, v) ∈ lv_args o vs
  | [], o, i, v, h => by simp [pq_ar] at h
  | w :: t, o, i, v, h => by
    rw [lv_args]
    by_cases hc : w.category = 2
    · rw [if_pos hc]
      rw [pq_ar, if_pos hc] at h
      match i, h with
      | 0, h => simp at h; subst h; exact List.mem_cons_self
      | 1, h => simp at h
      | i + 2, h => exact List.mem_cons_of_mem _ (by have := pq_ar_get t (o + 2) i v (by simpa using h); rw [show o + (i + 2) = o + 2 + i by omega]; exact this)
    · rw [if_neg hc]
      rw [pq_ar, if_neg hc] at h
      match i, h with
      | 0, h => simp at h; subst h; exact List.mem_cons_self
      | i + 1, h => exact List.mem_cons_of_mem _ (by have := pq_ar_get t (o + 1) i v (by simpa using h); rw [show o + (i + 1) = o + 1 + i by omega]; exact this)
theorem pq_l0_get {av : List Value} {nL i : Nat} {v : Value} (h : (pq_l0 av nL)[i]? = some (some v)) : (i, v) ∈ lv_args 0 av := by
  unfold pq_l0 at h
  by_cases hi : i < (pq_ar av).length
  · rw [List.getElem?_append_left hi] at h
    have := pq_ar_get av 0 i v h
    rwa [Nat.zero_add] at this
  · rw [List.getElem?_append_right (by omega), List.getElem?_replicate] at h
    split at h <;> cases h
theorem pq_start {l : Launch} {D : va_G} {cy : Nat → ClassId} {y : MethodName} {cc : ByteArray} {nL : Nat} {ret : Option FieldType} {d mc ms : Nat} {S : HS} {av : List Value} {post : Option Value → HS → Prop} (hy : plainName y.cls = true) (hlen : (lg_sl av).length ≤ nL)
    (body : ∀ p e s m args below meth c A, pq_Fx p (pq_rm d mc ms) s m args c D cy A cc nL y.cls → meth.sig.returnType = ret → meth.locks = false → meth.name = y.name → A = va_A (pq_pl cy S) s.heap.size →
      pq_At p l e (pq_rm d mc ms) s m args below meth c (pq_Z below args s D cy S mc ms post) D cy A nL 0 0 0 S (pq_l0 av nL) []) : pq_C l D cy y cc nL ret d mc ms S av post := by
  intro sz
  refine Met.ofW (cc := cc) (maxL := nL) (ret := ret) hy rfl ?_
  intro p e s m args below meth c s₁ B hml hv
  obtain ⟨rfl, hT, rfl, hP, hK, hD0, hN, hB⟩ := hv
  have hts := atoms_spec (ws := .code y cc nL ret :: gtb) B.pre
  have hown : s.vm.findClass y.cls = some m.cls := findClass_of_methodNamed B.named
  have hl := lv_entry av (n := nL) hlen
  rw [lg_entry_eq]
  generalize (lg_sl av ++ List.replicate (nL - (lg_sl av).length) Slot.unset).toArray = ls at hl ⊢
  refine body p e s m _ below meth c (va_A (pq_pl cy S) s.heap.size) ⟨B.exec, B.bytes, hml, hown, fun w hw => hts w (List.mem_cons_of_mem _ hw), hK, fun q h => Or.inr h, hN, hB⟩ B.returns B.notSynchronized (name_of_methodNamed B.named B.method).1 rfl s.heap [] ls hT hP hD0.self va_S.rf ⟨hl.1, hl.2.1, fun i v h => hl.2.2 (i, v) (pq_l0_get h)⟩
theorem pq_good {l1 : List Cond} {w : Cond} (h : w ∈ gtb) : GoodIn (w :: gtb) (w :: gtb) ∧ GoodIn gtb (w :: gtb) := by
  have hg : ∀ v ∈ gtb, ((v.onTables && v.keeps) = true ∨ ∃ ty, v = .arrayClass ty) := fun v hv => good_of_word (List.mem_filter.mp hv).2
  refine ⟨fun v hv => ⟨hv, ?_⟩, fun v hv => ?_⟩
  · rcases List.mem_cons.mp hv with rfl | h1
    · exact hg _ h
    · exact hg _ h1
  · rcases List.mem_cons.mp hv with rfl | h1
    · exact ⟨h, hg _ h⟩
    · exact ⟨h1, hg _ h1⟩
section PC
variable {p : Program} {l : Launch} {e : Env} {R : Room} {s : State} {m : MethodId} {args : Array Value} {below : List Frame} {meth : Method} {c : Code} {Q : State → Prop} {D : va_G} {cy : Nat → ClassId} {A : Nat → Prop} {nL : Nat} {cc : ByteArray} {own : String} {cells slots pc : Nat} {S : HS} {lc : List (Option Value)} {st : List Value}
/-! ===== ends ===== -/
theorem pq_wider {c1 s1 : Nat} (h1 : cells ≤ c1) (h2 : slots ≤ s1) (k : pq_At p l e R s m args below meth c Q D cy A nL c1 s1 pc S lc st) : pq_At p l e R s m args below meth c Q D cy A nL cells slots pc S lc st := fun H locs ls hT hP hD hS hl => W.widen h1 h2 (k H locs ls hT hP hD hS hl)
theorem pq_qc {S0 : HS} {post : Option Value → HS → Prop} {v : Option Value} {H : Heap} {locs : List Loc} (hA : A = va_A (pq_pl cy S0) s.heap.size) (hq : post v S) (hT : pq_T S) (hP : va_P D vwCl (pq_pl cy S) H) (hD : va_D A (pq_pl cy S)) (hS : va_S A s.heap H locs) : ∀ t : State, t.heap = H → s.WarmedH t.vm → pq_Qc D cy S0 s.heap.size post args s (.returned v) t := fun t ht _ => by
  subst hA
  exact ⟨⟨v, S, rfl, hq, hT, by rw [ht]; exact hP, hD⟩, hS.F ht⟩
theorem pq_iret {S0 : HS} {mc ms : Nat} {post : Option Value → HS → Prop} (F : pq_Fx p R s m args c D cy A cc nL own) (hr : meth.sig.returnType = some .int) (hlk : meth.locks = false) (hA : A = va_A (pq_pl cy S0) s.heap.size) {x : Int32} (hc : cells ≤ mc) (hs : slots ≤ ms) (hq : post (some (.int x)) S) (hdg : decode cc pc = .ok (.ireturn, 1)) : pq_At p l e R s m args below meth c (pq_Z below args s D cy S0 mc ms post) D cy A nL cells slots pc S lc [.int x] := fun H locs ls hT hP hD hS hl =>
  W.widen hc hs (W.iret F.1 F.2.1 hr (pq_qc hA hq hT hP hD hS) (fun q h => hA ▸ hS.2.2 q h) hdg hlk)
theorem pq_zret {S0 : HS} {mc ms : Nat} {post : Option Value → HS → Prop} (F : pq_Fx p R s m args c D cy A cc nL own) (hr : meth.sig.returnType = some .boolean) (hlk : meth.locks = false) (hA : A = va_A (pq_pl cy S0) s.heap.size) {x : Int32} (hn : narrow .boolean (.int x) = .int x) (hc : cells ≤ mc) (hs : slots ≤ ms) (hq : post (some (.int x)) S) (hdg : decode cc pc = .ok (.ireturn, 1)) : pq_At p l e R s m args below meth c (pq_Z below args s D cy S0 mc ms post) D cy A nL cells slots pc S lc [.int x] := fun H locs ls hT hP hD hS hl =>
  W.widen hc hs (W.zret F.1 F.2.1 hr hn (pq_qc hA hq hT hP hD hS) (fun q h => hA ▸ hS.2.2 q h) hdg hlk)
theorem pq_lret {S0 : HS} {mc ms : Nat} {post : Option Value → HS → Prop} (F : pq_Fx p R s m args c D cy A cc nL own) (hr : meth.sig.returnType = some .long) (hlk : meth.locks = false) (hA : A = va_A (pq_pl cy S0) s.heap.size) {x : Int64} (hc : cells ≤ mc) (hs : slots ≤ ms) (hq : post (some (.long x)) S) (hdg : decode cc pc = .ok (.lreturn, 1)) : pq_At p l e R s m args below meth c (pq_Z below args s D cy S0 mc ms post) D cy A nL cells slots pc S lc [.long x] := fun H locs ls hT hP hD hS hl =>
  W.widen hc hs (W.lret F.1 F.2.1 hr (pq_qc hA hq hT hP hD hS) (fun q h => hA ▸ hS.2.2 q h) hdg hlk)
theorem pq_vret {S0 : HS} {mc ms : Nat} {post : Option Value → HS → Prop} (F : pq_Fx p R s m args c D cy A cc nL own) (hr : meth.sig.returnType = none) (hlk : meth.locks = false) (hA : A = va_A (pq_pl cy S0) s.heap.size) (hc : cells ≤ mc) (hs : slots ≤ ms) (hq : post none S) (hdg : decode cc pc = .ok (.return_, 1)) : pq_At p l e R s m args below meth c (pq_Z below args s D cy S0 mc ms post) D cy A nL cells slots pc S lc [] := fun H locs ls hT hP hD hS hl =>
  W.widen hc hs (W.vret F.1 F.2.1 hr (pq_qc hA hq hT hP hD hS) (fun q h => hA ▸ hS.2.2 q h) hdg hlk)
theorem pq_aret {S0 : HS} {mc ms : Nat} {post : Option Value → HS → Prop} {rt : FieldType} (F : pq_Fx p R s m args c D cy A cc nL own) (hr : meth.sig.returnType = some rt) (hrt : (∃ n, rt = .object n) ∨ ∃ t, rt = .array t) (hlk : meth.locks = false) (hA : A = va_A (pq_pl cy S0) s.heap.size) {x : Nat} (hc : cells ≤ mc) (hs : slots ≤ ms) (hq : post (some (.ref x)) S) (hdg : decode cc pc = .ok (.areturn, 1)) : pq_At p l e R s m args below meth c (pq_Z below args s D cy S0 mc ms post) D cy A nL cells slots pc S lc [.ref x] := fun H locs ls hT hP hD hS hl =>
  W.widen hc hs (W.aret F.1 F.2.1 hr hrt (Or.inr ⟨x, rfl⟩) (pq_qc hA hq hT hP hD hS) (fun q h => hA ▸ hS.2.2 q h) hdg hlk)
/-! ===== calls ===== -/
theorem pq_blind {sz : Nat} {av : List Value} : FrameBlind (pq_Pc D cy S sz av) := fun a U g mk q => by
  obtain ⟨q1, q2, q3, q4, q5, q6, q7⟩ := q
  exact ⟨q1, q2, q3, q4, va_K.moved (u := U) (U := U.calling g mk a) (Vm.Alike.refl U.vm) q5, q6, pq_N.same (u := U) (U := U.calling g mk a) rfl q7.1, q7.2.go (s := U) (U := U.calling g mk a) (State.WarmedH.refl U) (fun _ _ _ => rfl) (fun _ h => h)⟩
/-- what a call leaves -/
theorem pq_behind {mc ms : Nat} {av : List Value} {rest st0 : List Value} {post : Option Value → HS → Prop} (F : pq_Fx p R s m args c D cy A cc nL own) {H : Heap} {locs : List Loc} {ls : Array Slot} (hD : va_D A (pq_pl cy S)) (hS : va_S A s.heap H locs) (hl : pq_has ls nL lc)
    (hr : va_Run p l e R s m args below meth c H locs cells slots mc ms (F0 m pc ls st0) rest (pq_Qc D cy S H.size post av.toArray) (va_A (pq_pl cy S) H.size))
    (kk : ∀ (v : Option Value) (S' : HS), post v S' → pq_At p l e R s m args below meth c Q D cy A nL (cells + mc) (slots + ms) (pc + 3) S' lc (v.toList ++ rest)) : W p l e R s m args below meth c H locs cells slots Q (F0 m pc ls st0) := by
  have hf : ∀ q, va_A (pq_pl cy S) H.size q → A q := by
    intro q h
    rcases h with ⟨k, e, h⟩ | h
    · exact hD.2 k _ h
    · exact F.2.2.2.2.2.2.1 q (Nat.le_trans hS.1 h)
  intro T hT X
  obtain ⟨v, st₀, t, T', L, h0, X', hL, e1, e2, ⟨⟨r, S', hv, hp, hT', hP', hD'⟩, hz, hk⟩, stp⟩ := hr T hT X
  cases hv
  rw [h0] at hz hk
  have hS' : va_S A s.heap T'.heap (locs ++ L) := ⟨Nat.le_trans hS.1 (by rw [e1]; exact hz), fun q h1 h2 => by rw [e1, hk q (Nat.lt_of_lt_of_le h1 hS.1) (fun z => h2 (hf q z))]; exact hS.2.1 q h1 h2, fun q hq => by
    rcases List.mem_append.mp hq with h | h
    · exact hS.2.2 q h
    · exact hf _ (hL q h)⟩
  obtain ⟨t2, a1, b1⟩ := kk v S' hp T'.heap (locs ++ L) ls hT' (by rw [e1]; exact hP') (hD'.weaken (fun k q _ h => hf q.1 h)) hS' hl T' rfl X'
  exact ⟨t2, stp t2 a1, b1⟩
/-- the words of an instance call, its own or a nest mate's -/
def pq_MV (own : String) (index n : Nat) (y : MethodName) (cc2 : ByteArray) (nL2 : Nat) (ret2 : Option FieldType) : Prop := Cond.code y cc2 nL2 ret2 ∈ gtb ∧ Cond.initialized y.cls ∈ gtb ∧ Cond.instanceMethod y ∈ gtb ∧ Cond.selects y.cls y y ∈ gtb ∧ (y.cls ≠ "java/lang/invoke/MethodHandle" ∧ y.cls ≠ "java/lang/invoke/VarHandle" ∧ (parseMethodDescriptor y.desc).map (fun d => d.parameters.length) = some n) ∧ (Cond.methodLink own index y ∈ gtb ∨ ∃ host, Cond.methodLinkNest own index y host ∈ ntb)
def pq_MS (own : String) (index n : Nat) (y : MethodName) (cc2 : ByteArray) (nL2 : Nat) (ret2 : Option FieldType) : Prop := Cond.code y cc2 nL2 ret2 ∈ gtb ∧ Cond.initialized y.cls ∈ gtb ∧ Cond.static y ∈ gtb ∧ (y.cls ≠ "java/lang/invoke/MethodHandle" ∧ y.cls ≠ "java/lang/invoke/VarHandle" ∧ (parseMethodDescriptor y.desc).map (fun d => d.parameters.length) = some n) ∧ (Cond.methodLink own index y ∈ gtb ∨ ∃ host, Cond.methodLinkNest own index y host ∈ ntb)
def pq_MI (own : String) (index n : Nat) (y : MethodName) (cc2 : ByteArray) (nL2 : Nat) : Prop := Cond.code y cc2 nL2 none ∈ gtb ∧ Cond.initialized y.cls ∈ gtb ∧ Cond.instanceMethod y ∈ gtb ∧ y.name = "<init>" ∧ (y.cls ≠ "java/lang/invoke/MethodHandle" ∧ y.cls ≠ "java/lang/invoke/VarHandle" ∧ (parseMethodDescriptor y.desc).map (fun d => d.parameters.length) = some n) ∧ (Cond.methodLink own index y ∈ gtb ∨ ∃ host, Cond.methodLinkNest own index y host ∈ ntb)
theorem pq_pre {av : List Value} (F : pq_Fx p R s m args c D cy A cc nL own) {H : Heap} (hT : pq_T S) (hP : va_P D vwCl (pq_pl cy S) H) (hD : va_D A (pq_pl cy S)) {locs : List Loc} (hS : va_S A s.heap H locs) : ∀ U : State, U.heap = H → s.WarmedH U.vm → pq_Pc D cy S H.size av av.toArray U := fun U hU hW =>
  ⟨rfl, hT, by rw [hU], by rw [hU]; exact hP, va_K.moved hW.alike F.2.2.2.2.2.1, hD.weaken (fun _ _ _ _ => trivial), F.2.2.2.2.2.2.2.1.warm hW, by rw [hU]; exact F.2.2.2.2.2.2.2.2.go hW hS.2.1 (fun q h => (by rcases h with ⟨k, e9, h⟩ | h; exact hD.2 k _ h; exact F.2.2.2.2.2.2.1 q (Nat.le_trans hS.1 h)))⟩
theorem pq_callV (F : pq_Fx p R s m args c D cy A cc nL own) {y : MethodName} {cc2 : ByteArray} {nL2 : Nat} {ret2 : Option FieldType} {d mc ms index b r : Nat} {As : List Value} {post : Option Value → HS → Prop} (hC : pq_C l D cy y cc2 nL2 ret2 d mc ms S (.ref b :: As) post) (hM : pq_MV own index As.length y cc2 nL2 ret2) (hb : pq_R S b r) (hr : r < 100) (hcl : (vwCl[pq_ci r]?).map (fun q => q.1) = some y.cls) (hw : (st.map fun v => v.category).sum ≤ 8) (hroom : d + 1 ≤ R.frames ∧ 8 + (nL2 + 11) + 40 * d ≤ R.locals) (hcs : cells + mc ≤ R.cells ∧ slots + ms ≤ R.slots) (hdg : decode cc pc = .ok (.invokevirtual index, 3))
    (kk : ∀ (v : Option Value) (S' : HS), post v S' → pq_At p l e R s m args below meth c Q D cy A nL (cells + mc) (slots + ms) (pc + 3) S' lc (v.toList ++ st)) : pq_At p l e R s m args below meth c Q D cy A nL cells slots pc S lc (As.reverse ++ .ref b :: st) := by
  intro H locs ls hT hP hD hS hl
  obtain ⟨hcode, hini, hins, hsel, hd, hlk⟩ := hM
  have hts := F.2.2.2.2.1
  have hfx : CallFix p m c cc nL s args gtb own := ⟨F.1, F.2.1, F.2.2.1, F.2.2.2.1, hts⟩
  obtain ⟨q0, hq⟩ := pq_at (cy := cy) hb
  rw [pq_eO hb hr] at hq
  obtain ⟨vc, hvc, hvc2⟩ := Option.map_eq_some_iff.mp hcl
  have hrecv := va_recv F.2.2.2.2.2.1 hP hvc hq
  rw [hvc2] at hrecv
  have hpv : PreV s H y.cls b (pq_Pc D cy S H.size (.ref b :: As)) As := ⟨pq_blind, hrecv, pq_pre F hT hP hD hS⟩
  refine pq_behind F hD hS hl (av := .ref b :: As) ?_ kk
  rcases hlk with hlk | ⟨host, hlk⟩
  · exact va_runV hfx (hC H.size) ⟨callB_of As.length hts (pq_good (l1 := []) hcode).2 rfl rfl rfl (hts _ hini) (hts _ hlk) hd hroom, hts _ hins, hts _ hsel⟩ hpv rfl rfl hl.1 rfl (lv_room hw) hdg hcs
  · exact va_runVN hfx (hC H.size) ⟨va_cnB As.length hts (pq_good (l1 := []) hcode).2 rfl rfl rfl (F.2.2.2.2.2.2.2.1 _ hlk) (hts _ hini) hd hroom, hts _ hins, hts _ hsel⟩ hpv rfl rfl hl.1 rfl (lv_room hw) hdg hcs
theorem pq_callS (F : pq_Fx p R s m args c D cy A cc nL own) {y : MethodName} {cc2 : ByteArray} {nL2 : Nat} {ret2 : Option FieldType} {d mc ms index : Nat} {As : List Value} {post : Option Value → HS → Prop} (hC : pq_C l D cy y cc2 nL2 ret2 d mc ms S As post) (hM : pq_MS own index As.length y cc2 nL2 ret2) (hw : (st.map fun v => v.category).sum ≤ 8) (hroom : d + 1 ≤ R.frames ∧ 8 + (nL2 + 11) + 40 * d ≤ R.locals) (hcs : cells + mc ≤ R.cells ∧ slots + ms ≤ R.slots) (hdg : decode cc pc = .ok (.invokestatic index, 3))
    (kk : ∀ (v : Option Value) (S' : HS), post v S' → pq_At p l e R s m args below meth c Q D cy A nL (cells + mc) (slots + ms) (pc + 3) S' lc (v.toList ++ st)) : pq_At p l e R s m args below meth c Q D cy A nL cells slots pc S lc (As.reverse ++ st) := by
  intro H locs ls hT hP hD hS hl
  obtain ⟨hcode, hini, hst, hd, hlk⟩ := hM
  have hts := F.2.2.2.2.1
  have hfx : CallFix p m c cc nL s args gtb own := ⟨F.1, F.2.1, F.2.2.1, F.2.2.2.1, hts⟩
  have hpv : PreS s H (pq_Pc D cy S H.size As) As := ⟨pq_blind, pq_pre F hT hP hD hS⟩
  refine pq_behind F hD hS hl (av := As) ?_ kk
  rcases hlk with hlk | ⟨host, hlk⟩
  · exact va_runS hfx (hC H.size) ⟨callB_of As.length hts (pq_good (l1 := []) hcode).2 rfl rfl rfl (hts _ hini) (hts _ hlk) hd hroom, hts _ hst⟩ hpv rfl rfl hl.1 rfl (lv_room hw) hdg hcs
  · exact va_runSN hfx (hC H.size) ⟨va_cnB As.length hts (pq_good (l1 := []) hcode).2 rfl rfl rfl (F.2.2.2.2.2.2.2.1 _ hlk) (hts _ hini) hd hroom, hts _ hst, trivial⟩ hpv rfl rfl hl.1 rfl (lv_room hw) hdg hcs
theorem pq_callI (F : pq_Fx p R s m args c D cy A cc nL own) {y : MethodName} {cc2 : ByteArray} {nL2 : Nat} {d mc ms index b : Nat} {As : List Value} {post : Option Value → HS → Prop} (hC : pq_C l D cy y cc2 nL2 none d mc ms S (.ref b :: As) post) (hM : pq_MI own index As.length y cc2 nL2) (hw : (st.map fun v => v.category).sum ≤ 8) (hroom : d + 1 ≤ R.frames ∧ 8 + (nL2 + 11) + 40 * d ≤ R.locals) (hcs : cells + mc ≤ R.cells ∧ slots + ms ≤ R.slots) (hdg : decode cc pc = .ok (.invokespecial index, 3))
    (kk : ∀ (v : Option Value) (S' : HS), post v S' → pq_At p l e R s m args below meth c Q D cy A nL (cells + mc) (slots + ms) (pc + 3) S' lc (v.toList ++ st)) : pq_At p l e R s m args below meth c Q D cy A nL cells slots pc S lc (As.reverse ++ .ref b :: st) := by
  intro H locs ls hT hP hD hS hl
  obtain ⟨hcode, hini, hins, hnm, hd, hlk⟩ := hM
  have hts := F.2.2.2.2.1
  have hfx : CallFix p m c cc nL s args gtb own := ⟨F.1, F.2.1, F.2.2.1, F.2.2.2.1, hts⟩
  have hpv : PreS s H (pq_Pc D cy S H.size (.ref b :: As)) (.ref b :: As) := ⟨pq_blind, pq_pre F hT hP hD hS⟩
  refine pq_behind F hD hS hl (av := .ref b :: As) ?_ kk
  rcases hlk with hlk | ⟨host, hlk⟩
  · exact va_runI hfx (hC H.size) ⟨callB_of As.length hts (pq_good (l1 := []) hcode).2 rfl rfl rfl (hts _ hini) (hts _ hlk) hd hroom, hnm, hts _ hins⟩ hpv rfl rfl hl.1 rfl (lv_room hw) hdg hcs
  · exact va_runIN hfx (hC H.size) ⟨va_cnB As.length hts (pq_good (l1 := []) hcode).2 rfl rfl rfl (F.2.2.2.2.2.2.2.1 _ hlk) (hts _ hini) hd hroom, hnm, hts _ hins⟩ hpv rfl rfl hl.1 rfl (lv_room hw) hdg hcs
/-! ===== new cells ===== -/
theorem pq_e_nw {S : HS} {q r n : Nat} {ds : Nat → Value} {b : Nat} (hb : b ≠ q) : pq_e cy (pq_nw S q r n ds) b = pq_e cy S b := by
  unfold pq_e
  dsimp only [hK, hO, hI, hJ, hN, hR, pq_nw]
  simp only [va_up_ne _ _ hb]
theorem pq_newa (F : pq_Fx p R s m args c D cy A cc nL own) {atype : ArrayType} {ty : FieldType} {j r n : Nat} {i : Int32} {a0 : vp_A} (hty : newarray.typeOf atype = ty) (hj : (pq_ty cy)[j]? = some (cy j, ty)) (hprim : ∀ C, ty ≠ .object C) (hcls : Cond.arrayClass ty ∈ gtb) (hi : ¬ i < 0) (hn : i.toNatClampNeg = n) (ha0 : ∀ cA : ClassId, vp_cell cA a0 = arrV cA n (fun _ => defaultValue ty)) (hr : 100 ≤ r) (he : ∀ q : Nat, pq_e cy (pq_nw S q r n (fun _ => .null)) q = .inl (cy j, a0)) (ht : ((pq_al r).1 ≤ n ∧ n ≤ (pq_al r).2.1) ∧ ((pq_al r).2.2.1 ≤ 0 ∧ 0 ≤ (pq_al r).2.2.2)) (hbytes : n * componentBytes ty ≤ 536870912) (hc : cells + 1 ≤ R.cells) (hs : slots + n ≤ R.slots) (hdg : decode cc pc = .ok (.newarray atype, 2))
    (kk : ∀ q : Nat, q ∉ S.1 → pq_At p l e R s m args below meth c Q D cy A nL (cells + 1) (slots + n) (pc + 2) (pq_nw S q r n (fun _ => .null)) lc (.ref q :: st)) : pq_At p l e R s m args below meth c Q D cy A nL cells slots pc S lc (.int i :: st) := by
  intro H locs ls hT hP hD hS hl
  have hK := F.2.2.2.2.2.1
  refine va_newa F.1 F.2.1 (by rw [hty]; exact F.2.2.2.2.1 _ hcls) hty hK hP hD hS F.2.2.2.2.2.2.1 (a0 := a0) ha0 hi hn hbytes hc hs hdg (fun q cA H1 hK1 hP1 hD1 hS1 => ?_)
  have h1 := (hK1.2 6 (cA, ty) (by rw [show pq_ty cy ++ [(cA, ty)] = [(cy 0, .byte), (cy 1, .int), (cy 2, .long), (cy 3, .boolean), (cy 4, .object "PatternPairs$Automaton"), (cy 5, .object "PatternPairs$Ends"), (cA, ty)] from rfl]; rfl)).2
  have h2 := (hK.2 j _ hj).2
  have hcA : cA = cy j := by
    have e1 : s.vm.findClass ("[" ++ ty.toString) = some cA := by
      cases ty with
      | object C => exact absurd rfl (hprim C)
      | _ => exact h1
    have e2 : s.vm.findClass ("[" ++ ty.toString) = some (cy j) := by
      cases ty with
      | object C => exact absurd rfl (hprim C)
      | _ => exact h2
    exact Option.some.inj (e1.symm.trans e2)
  subst hcA
  have hq : q ∉ S.1 := by
    intro hm
    obtain ⟨k, hk⟩ := va_pl_get (X := []) (f := pq_e cy S) hm
    have hlt := (List.getElem?_eq_some_iff.mp hk).1
    have e1 : (pq_pl cy S ++ [(q, Sum.inl (cy j, a0))])[k]? = some (q, pq_e cy S q) := by
      rw [List.getElem?_append_left (by exact hlt)]; exact hk
    have e2 : (pq_pl cy S ++ [(q, Sum.inl (cy j, a0))])[(pq_pl cy S).length]? = some (q, Sum.inl (cy j, a0)) := by simp
    have e3 := hD1.1 k _ _ _ e1 e2 rfl
    have hlt' : k < (pq_pl cy S).length := hlt
    omega
  have hw := pq_wN (cy := cy) (S' := pq_nw S q r n (fun _ => .null)) hq rfl (he q) (fun b hb => pq_e_nw hb)
  rw [hw] at hP1 hD1
  exact kk q hq H1 locs ls (hT.nw hq (fun h => by omega) (fun _ => ht)) hP1 hD1 hS1 hl
end PC
