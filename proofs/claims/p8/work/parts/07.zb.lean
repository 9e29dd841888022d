/-! ===== rows for new objects, references in rows, switches, String constants ===== -/
section PX
variable {p : Program} {l : Launch} {e : Env} {R : Room} {s : State} {m : MethodId} {args : Array Value} {below : List Frame} {meth : Method} {c : Code} {Q : State → Prop} {D : va_G} {cy : Nat → ClassId} {A : Nat → Prop} {nL : Nat} {cc : ByteArray} {own : String} {cells slots pc : Nat} {S : HS} {lc : List (Option Value)} {st : List Value}
def pq_Ow (own : String) (index : Nat) : Prop := Cond.methodLink own index Lib.objectInit ∈ gtb ∧ Cond.instanceMethod Lib.objectInit ∈ gtb ∧ Cond.code Lib.objectInit { data := #[177] } 1 none ∈ gtb
theorem pq_objI (F : pq_Fx p R s m args c D cy A cc nL own) {index a : Nat} (hw : pq_Ow own index) (hfr : 1 ≤ R.frames ∧ (st.map fun v => v.category).sum + 12 ≤ R.locals) (hdg : decode cc pc = .ok (.invokespecial index, 3)) (kk : pq_At p l e R s m args below meth c Q D cy A nL cells slots (pc + 3) S lc st) : pq_At p l e R s m args below meth c Q D cy A nL cells slots pc S lc (.ref a :: st) := fun H locs ls hT hP hD hS hl =>
  W.objInit F.1 F.2.1 F.2.2.2.1 (F.2.2.2.2.1 _ hw.1) (F.2.2.2.2.1 _ hw.2.1) (F.2.2.2.2.1 _ hw.2.2) (g := F0 m pc ls (.ref a :: st)) rfl (by rw [F.2.2.1]; exact hl.1) rfl hdg hfr.1 (by show 2 * 0 + _ + 12 ≤ _; have := hfr.2; omega) (kk H locs ls hT hP hD hS hl)
/-! new objects: raw until their fields are set -/
def pq_Nw (own : String) (index ci N : Nat) (ds : Nat → Value) : Prop := ∃ (C : String) (T : u_T) (ty : Nat → FieldType), vwCl[ci]? = some (C, T, N) ∧ pq_nf ci = N ∧ (∀ w ∈ u_ws C T N, w ∈ gtb) ∧ (∀ k, k < N → parseFieldDescriptor (T k).2.2.1 = some (ty k)) ∧ (∀ k, k < N → defaultValue (ty k) = ds k) ∧ Cond.classLink own index C ∈ gtb ∧ Cond.instantiable C N ∈ gtb ∧ Cond.initialized C ∈ gtb
theorem pq_newO (F : pq_Fx p R s m args c D cy A cc nL own) {index ci N : Nat} {ds : Nat → Value} (hw : pq_Nw own index ci N ds) (hci : ci < 40) (hft : ∀ k, pq_ft (60 + ci) k = (0, 0, 0)) (hc : cells + 1 ≤ R.cells) (hs : slots + N ≤ R.slots) (hdg : decode cc pc = .ok (.new index, 3))
    (kk : ∀ q : Nat, q ∉ S.1 → pq_R (pq_nw S q (60 + ci) 0 ds) q (60 + ci) → pq_At p l e R s m args below meth c Q D cy A nL (cells + 1) (slots + N) (pc + 3) (pq_nw S q (60 + ci) 0 ds) lc (.ref q :: st)) : pq_At p l e R s m args below meth c Q D cy A nL cells slots pc S lc st := by
  intro H locs ls hT hP hD hS hl
  obtain ⟨C, T, ty, hcl, hnf, hin, hty, hds, hk, hi, hii⟩ := hw
  have hts := F.2.2.2.2.1
  refine va_new F.1 F.2.1 hts hin ty hty F.2.2.2.1 (hts _ hk) (hts _ hi) (hts _ hii) F.2.2.2.2.2.1 hP hD hS F.2.2.2.2.2.2.1 hcl (fs := (List.range N).map ds) (fun j hj => ?_) hc hs hdg (fun q H1 hP1 hD1 hS1 => ?_)
  · rw [hds j hj]
    simp [vp_V, hj]
  · have hq : q ∉ S.1 := by
      intro hm
      obtain ⟨k, hk⟩ := va_pl_get (X := []) (f := pq_e cy S) hm
      have hlt := (List.getElem?_eq_some_iff.mp hk).1
      have e1 : (pq_pl cy S ++ [(q, Sum.inr (ci, (List.range N).map ds))])[k]? = some (q, pq_e cy S q) := by
        rw [List.getElem?_append_left (by exact hlt)]; exact hk
      have e2 : (pq_pl cy S ++ [(q, Sum.inr (ci, (List.range N).map ds))])[(pq_pl cy S).length]? = some (q, Sum.inr (ci, (List.range N).map ds)) := by simp
      have e3 := hD1.1 k _ _ _ e1 e2 rfl
      have hlt' : k < (pq_pl cy S).length := hlt
      omega
    have he : pq_e cy (pq_nw S q (60 + ci) 0 ds) q = Sum.inr (ci, (List.range N).map ds) := by
      rw [pq_eO pq_R.nw (by omega)]
      have hci2 : pq_ci (60 + ci) = ci := by unfold pq_ci; rw [if_neg (by omega)]; omega
      rw [hci2, hnf]
      show Sum.inr (ci, (List.range N).map (va_up S.2.2.1 q ds q)) = _
      rw [va_up_self]
    have hw2 := pq_wN (cy := cy) (S' := pq_nw S q (60 + ci) 0 ds) hq rfl he (fun b hb => pq_e_nw hb)
    rw [hw2] at hP1 hD1
    exact kk q hq pq_R.nw H1 locs ls (hT.nw hq (fun _ k => by rw [hft k]; trivial) (fun h => by omega)) hP1 hD1 hS1 hl
def pq_rr (S : HS) (a r : Nat) : HS := (S.1, va_up S.2.1 a r, S.2.2)
theorem pq_rrR {S : HS} {a r r0 : Nat} (h : pq_R S a r0) : pq_R (pq_rr S a r) a r := ⟨h.1, va_up_self _ _ _⟩
theorem pq_rrO {S : HS} {a b r r0 : Nat} (h : pq_R S b r0) (hne : b ≠ a) : pq_R (pq_rr S a r) b r0 := ⟨h.1, (va_up_ne _ _ hne).trans h.2⟩
theorem pq_rrX {S : HS} {a r r0 : Nat} (h : pq_R S a r0) (h1 : 60 ≤ r0) (h2 : r0 < 100) : pq_X S (pq_rr S a r) := by
  intro b rb hb hr
  have hne : b ≠ a := fun e => by
    subst e
    have := hb.2.symm.trans h.2
    omega
  exact ⟨pq_rrO hb hne, rfl⟩
/-- the raw object is whole -/
theorem pq_prom {a r0 r : Nat} (h : pq_R S a r0) (h1 : 60 ≤ r0) (h2 : r0 < 100) (h3 : r < 60) (hci : pq_ci r = pq_ci r0) (hf : ∀ k, pq_ok (pq_ft r k) S (hO S a k)) (kk : pq_At p l e R s m args below meth c Q D cy A nL cells slots pc (pq_rr S a r) lc st) : pq_At p l e R s m args below meth c Q D cy A nL cells slots pc S lc st := by
  intro H locs ls hT hP hD hS hl
  have hX := pq_rrX (r := r) h h1 h2
  have hpl : pq_pl cy (pq_rr S a r) = pq_pl cy S := by
    refine va_pl_congr (fun b => ?_)
    by_cases e : b = a
    · subst e
      rw [pq_eO (pq_rrR h) (by omega), pq_eO h (by omega), hci]
      rfl
    · unfold pq_e
      dsimp only [hK, hO, hI, hJ, hN, hR, pq_rr]
      simp only [va_up_ne _ _ e]
  refine kk H locs ls ⟨fun b rb hb hr k => ?_, fun b rb hb hr => ?_⟩ (by rw [hpl]; exact hP) (by rw [hpl]; exact hD) hS hl
  · show pq_ok (pq_ft rb k) (pq_rr S a r) (hO S b k)
    by_cases e : b = a
    · subst e
      have : rb = r := hb.2.symm.trans (va_up_self _ _ _)
      subst this
      exact (hf k).ext hX
    · have hb' : pq_R S b rb := ⟨hb.1, (va_up_ne _ _ e).symm.trans hb.2⟩
      exact (hT.1 b rb hb' hr k).ext hX
  · have e : b ≠ a := fun e => by
      subst e
      have : rb = r := hb.2.symm.trans (va_up_self _ _ _)
      omega
    have hb' : pq_R S b rb := ⟨hb.1, (va_up_ne _ _ e).symm.trans hb.2⟩
    obtain ⟨g1, g2⟩ := hT.2 b rb hb' hr
    exact ⟨g1, fun i => ⟨(g2 i).1, (g2 i).2.ext hX⟩⟩
/-! rows of primitive numbers -/
theorem pq_neg {x : Int32} (hx : 0 ≤ x.toInt) : ¬ x < 0 := fun h => by
  rw [Int32.lt_iff_toInt_lt] at h
  have : (0 : Int32).toInt = 0 := rfl
  omega
theorem pq_newJ (F : pq_Fx p R s m args c D cy A cc nL own) {r n n1 n2 : Nat} {lo hi : Int} {i : Int32} (h1 : 180 ≤ r) (h2 : r < 200) (hcls : Cond.arrayClass .long ∈ gtb) (hal : pq_al r = (n1, n2, lo, hi)) (hlo : lo ≤ 0 ∧ 0 ≤ hi) (hi0 : 0 ≤ i.toInt) (hn : i.toNatClampNeg = n) (hn1 : n1 ≤ n ∧ n ≤ n2) (hb : n ≤ 10000000) (hc : cells + 1 ≤ R.cells) (hs : slots + n ≤ R.slots) (hdg : decode cc pc = .ok (.newarray .long, 2))
    (kk : ∀ q : Nat, q ∉ S.1 → pq_R (pq_nw S q r n (fun _ => .null)) q r → pq_At p l e R s m args below meth c Q D cy A nL (cells + 1) (slots + n) (pc + 2) (pq_nw S q r n (fun _ => .null)) lc (.ref q :: st)) : pq_At p l e R s m args below meth c Q D cy A nL cells slots pc S lc (.int i :: st) := by
  refine pq_newa F (ty := .long) (j := 2) (r := r) (n := n) (a0 := (n, .inr (.inl (fun _ => 0)))) rfl rfl (fun C h => by cases h) hcls (pq_neg hi0) hn (fun _ => rfl) (by omega) (fun q => ?_) ⟨by rw [hal]; exact hn1, by rw [hal]; exact hlo⟩ (by show n * 8 ≤ _; omega) hc hs hdg (fun q hq => kk q hq pq_R.nw)
  rw [pq_eJ pq_R.nw h1 h2]
  show Sum.inl (cy 2, va_up S.2.2.2.2.2.1 q n q, Sum.inr (Sum.inl (va_up S.2.2.2.2.1 q (fun _ => 0) q))) = _
  rw [va_up_self, va_up_self]
theorem pq_newZ (F : pq_Fx p R s m args c D cy A cc nL own) {r n n1 n2 : Nat} {lo hi : Int} {i : Int32} (h1 : 200 ≤ r) (h2 : r < 220) (hcls : Cond.arrayClass .boolean ∈ gtb) (hal : pq_al r = (n1, n2, lo, hi)) (hlo : lo ≤ 0 ∧ 0 ≤ hi) (hi0 : 0 ≤ i.toInt) (hn : i.toNatClampNeg = n) (hn1 : n1 ≤ n ∧ n ≤ n2) (hb : n ≤ 10000000) (hc : cells + 1 ≤ R.cells) (hs : slots + n ≤ R.slots) (hdg : decode cc pc = .ok (.newarray .boolean, 2))
    (kk : ∀ q : Nat, q ∉ S.1 → pq_R (pq_nw S q r n (fun _ => .null)) q r → pq_At p l e R s m args below meth c Q D cy A nL (cells + 1) (slots + n) (pc + 2) (pq_nw S q r n (fun _ => .null)) lc (.ref q :: st)) : pq_At p l e R s m args below meth c Q D cy A nL cells slots pc S lc (.int i :: st) := by
  refine pq_newa F (ty := .boolean) (j := 3) (r := r) (n := n) (a0 := (n, .inl (fun _ => 0))) rfl rfl (fun C h => by cases h) hcls (pq_neg hi0) hn (fun _ => rfl) (by omega) (fun q => ?_) ⟨by rw [hal]; exact hn1, by rw [hal]; exact hlo⟩ (by show n * 1 ≤ _; omega) hc hs hdg (fun q hq => kk q hq pq_R.nw)
  rw [pq_eZ pq_R.nw h1 h2]
  show Sum.inl (cy 3, va_up S.2.2.2.2.2.1 q n q, Sum.inl (va_up S.2.2.2.1 q (fun _ => 0) q)) = _
  rw [va_up_self, va_up_self]
theorem pq_newB (F : pq_Fx p R s m args c D cy A cc nL own) {r n n1 n2 : Nat} {lo hi : Int} {i : Int32} (h1 : 100 ≤ r) (h2 : r < 120) (hcls : Cond.arrayClass .byte ∈ gtb) (hal : pq_al r = (n1, n2, lo, hi)) (hlo : lo ≤ 0 ∧ 0 ≤ hi) (hi0 : 0 ≤ i.toInt) (hn : i.toNatClampNeg = n) (hn1 : n1 ≤ n ∧ n ≤ n2) (hb : n ≤ 10000000) (hc : cells + 1 ≤ R.cells) (hs : slots + n ≤ R.slots) (hdg : decode cc pc = .ok (.newarray .byte, 2))
    (kk : ∀ q : Nat, q ∉ S.1 → pq_R (pq_nw S q r n (fun _ => .null)) q r → pq_At p l e R s m args below meth c Q D cy A nL (cells + 1) (slots + n) (pc + 2) (pq_nw S q r n (fun _ => .null)) lc (.ref q :: st)) : pq_At p l e R s m args below meth c Q D cy A nL cells slots pc S lc (.int i :: st) := by
  refine pq_newa F (ty := .byte) (j := 0) (r := r) (n := n) (a0 := (n, .inl (fun _ => 0))) rfl rfl (fun C h => by cases h) hcls (pq_neg hi0) hn (fun _ => rfl) (by omega) (fun q => ?_) ⟨by rw [hal]; exact hn1, by rw [hal]; exact hlo⟩ (by show n * 1 ≤ _; omega) hc hs hdg (fun q hq => kk q hq pq_R.nw)
  rw [pq_eB pq_R.nw h1 h2]
  show Sum.inl (cy 0, va_up S.2.2.2.2.2.1 q n q, Sum.inl (va_up S.2.2.2.1 q (fun _ => 0) q)) = _
  rw [va_up_self, va_up_self]
/-! rows of references: j the class's place (4 Automaton, 5 Ends) -/
def pq_rj (r : Nat) : Nat := if r < 230 then 4 else 5
def pq_rc (r : Nat) : String := if r < 230 then "PatternPairs$Automaton" else "PatternPairs$Ends"
theorem pq_eR {S : HS} {a r : Nat} (h : pq_R S a r) (h1 : 220 ≤ r) : pq_e cy S a = .inl (cy (pq_rj r), S.2.2.2.2.2.1 a, .inr (.inr (.inr (.inr (S.2.2.2.2.2.2 a))))) := by
  obtain ⟨-, h⟩ := h
  unfold pq_rj
  simp only [pq_e, hK, h]
  rw [if_neg (by omega), if_neg (by omega), if_neg (by omega), if_neg (by omega), if_neg (by omega)]
  by_cases h2 : r < 230
  · rw [if_pos h2, if_pos h2]
  · rw [if_neg h2, if_neg h2]
theorem pq_rjt (r : Nat) : (pq_ty cy)[pq_rj r]? = some (cy (pq_rj r), .object (pq_rc r)) := by
  unfold pq_rj pq_rc
  by_cases h2 : r < 230
  · rw [if_pos h2, if_pos h2]; rfl
  · rw [if_neg h2, if_neg h2]; rfl
theorem pq_e_uR {S : HS} {a : Nat} {f : Nat → Option Nat} {b : Nat} (hb : b ≠ a) : pq_e cy (pq_uR S a f) b = pq_e cy S b := by
  unfold pq_e
  dsimp only [hK, hO, hI, hJ, hN, hR, pq_uR]
  rw [va_up_ne _ _ hb]
  rfl
theorem pq_newR (F : pq_Fx p R s m args c D cy A cc nL own) {index r n : Nat} {i : Int32} (h1 : 220 ≤ r) (hk : Cond.classLink own index (pq_rc r) ∈ gtb) (hi0 : 0 ≤ i.toInt) (hn : i.toNatClampNeg = n) (hn1 : (pq_al r).1 ≤ n ∧ n ≤ (pq_al r).2.1) (hlo : (pq_al r).2.2.1 ≤ 0 ∧ 0 ≤ (pq_al r).2.2.2) (hb : n ≤ 1000000) (hc : cells + 1 ≤ R.cells) (hs : slots + n ≤ R.slots) (hdg : decode cc pc = .ok (.anewarray index, 3))
    (kk : ∀ q : Nat, q ∉ S.1 → pq_R (pq_nw S q r n (fun _ => .null)) q r → pq_At p l e R s m args below meth c Q D cy A nL (cells + 1) (slots + n) (pc + 3) (pq_nw S q r n (fun _ => .null)) lc (.ref q :: st)) : pq_At p l e R s m args below meth c Q D cy A nL cells slots pc S lc (.int i :: st) := by
  intro H locs ls hT hP hD hS hl
  have hK := F.2.2.2.2.2.1
  have hB := F.2.2.2.2.2.2.2.2
  have hao : va_AO (pq_rc r) s := by
    unfold pq_rc
    by_cases h2 : r < 230
    · rw [if_pos h2]; exact hB.2.2.2.2.2.1
    · rw [if_neg h2]; exact hB.2.2.2.2.2.2
  refine va_newq F.1 F.2.1 F.2.2.2.1 (F.2.2.2.2.1 _ hk) hao hK hP hD hS F.2.2.2.2.2.2.1 (pq_neg hi0) hn (by omega) hc hs hdg (fun q cA H1 hK1 hP1 hD1 hS1 => ?_)
  have t1 : (pq_ty cy ++ [(cA, FieldType.object (pq_rc r))])[6]? = some (cA, .object (pq_rc r)) := rfl
  obtain ⟨kA, comp, k1, k2, k3, k4⟩ := (hK1.2 6 _ t1).2
  obtain ⟨kA', comp', k1', k2', k3', k4'⟩ := (hK.2 _ _ (pq_rjt r)).2
  have hcA : cA = cy (pq_rj r) := by
    first
      | exact Option.some.inj (k4.symm.trans k4')
      | (have := k4; have := k4'; simp_all)
  subst hcA
  have hq : q ∉ S.1 := by
    intro hm
    obtain ⟨k, hk⟩ := va_pl_get (X := []) (f := pq_e cy S) hm
    have hlt := (List.getElem?_eq_some_iff.mp hk).1
    have e2 : (pq_pl cy S ++ [(q, (Sum.inl (cy (pq_rj r), n, .inr (.inr (.inr (.inr (fun _ => none))))) : va_E))])[(pq_pl cy S).length]? = some (q, (Sum.inl (cy (pq_rj r), n, .inr (.inr (.inr (.inr (fun _ => none))))) : va_E)) := by simp
    have e1 : (pq_pl cy S ++ [(q, (Sum.inl (cy (pq_rj r), n, .inr (.inr (.inr (.inr (fun _ => none))))) : va_E))])[k]? = some (q, pq_e cy S q) := by
      rw [List.getElem?_append_left (by exact hlt)]; exact hk
    have e3 := hD1.1 k _ _ _ e1 e2 rfl
    have hlt' : k < (pq_pl cy S).length := hlt
    omega
  have he : pq_e cy (pq_nw S q r n (fun _ => .null)) q = (Sum.inl (cy (pq_rj r), n, .inr (.inr (.inr (.inr (fun _ => none))))) : va_E) := by
    rw [pq_eR pq_R.nw h1]
    show (Sum.inl (cy (pq_rj r), va_up S.2.2.2.2.2.1 q n q, .inr (.inr (.inr (.inr (va_up S.2.2.2.2.2.2 q (fun _ => none) q))))) : va_E) = _
    rw [va_up_self, va_up_self]
  have hw := pq_wN (cy := cy) (S' := pq_nw S q r n (fun _ => .null)) hq rfl he (fun b hb => pq_e_nw hb)
  rw [hw] at hP1 hD1
  exact kk q hq pq_R.nw H1 locs ls (hT.nw hq (fun h => by omega) (fun _ => ⟨hn1, hlo⟩)) hP1 hD1 hS1 hl
theorem pq_aald (F : pq_Fx p R s m args c D cy A cc nL own) {a r : Nat} {i : Int32} (h : pq_R S a r) (h1 : 220 ≤ r) (hin : (pq_al r).1 ≤ hN S a → hN S a ≤ (pq_al r).2.1 → vp_in i (hN S a)) (hdg : decode cc pc = .ok (.aaload, 1)) (kk : ∀ v : Option Nat, v = hR S a i.toNatClampNeg → pq_rk r i.toNatClampNeg S v → pq_At p l e R s m args below meth c Q D cy A nL cells slots (pc + 1) S lc (va_rf v :: st)) : pq_At p l e R s m args below meth c Q D cy A nL cells slots pc S lc (.int i :: .ref a :: st) := by
  intro H locs ls hT hP hD hS hl
  obtain ⟨q0, hq⟩ := pq_at (cy := cy) h
  rw [pq_eR h h1] at hq
  obtain ⟨g1, g2⟩ := hT.2 a r h (by omega)
  exact va_aldq F.1 F.2.1 F.2.2.2.2.2.1 hP q0 _ hq (pq_rjt r) (hin g1.1 g1.2) hdg (kk _ rfl (g2 _).2 H locs ls hT hP hD hS hl)
theorem pq_aast (F : pq_Fx p R s m args c D cy A cc nL own) {a b r rb : Nat} {i : Int32} (h : pq_R S a r) (h1 : 220 ≤ r) (hb : pq_R S b rb) (hb1 : rb < 100) (hcl : (vwCl[pq_ci rb]?).map (fun q => q.1) = some (pq_rc r)) (hin : (pq_al r).1 ≤ hN S a → hN S a ≤ (pq_al r).2.1 → vp_in i (hN S a)) (hx : pq_rk r i.toNatClampNeg S (some b)) (hdg : decode cc pc = .ok (.aastore, 1)) (kk : pq_At p l e R s m args below meth c Q D cy A nL cells slots (pc + 1) (pq_uR S a (va_up (hR S a) i.toNatClampNeg (some b))) lc st) : pq_At p l e R s m args below meth c Q D cy A nL cells slots pc S lc (.ref b :: .int i :: .ref a :: st) := by
  intro H locs ls hT hP hD hS hl
  obtain ⟨q0, hq0⟩ := pq_at (cy := cy) h
  have hq := hq0
  rw [pq_eR h h1] at hq
  obtain ⟨q1, hq1⟩ := pq_at (cy := cy) hb
  rw [pq_eO hb hb1] at hq1
  obtain ⟨vc, hvc, hvc2⟩ := Option.map_eq_some_iff.mp hcl
  obtain ⟨g1, g2⟩ := hT.2 a r h (by omega)
  refine va_astq F.1 F.2.1 F.2.2.2.2.2.1 hP hD hS q0 _ q1 _ (r := vc) hq (by rw [hvc2]; exact pq_rjt r) hq1 hvc (hin g1.1 g1.2) hdg (fun H1 locs1 k1 k2 k3 => ?_)
  have hR' : pq_R (pq_uR S a (va_up (hR S a) i.toNatClampNeg (some b))) a r := h
  have he := pq_wA (S' := pq_uR S a (va_up (hR S a) i.toNatClampNeg (some b))) hD h hq0 rfl (pq_eR hR' h1) (fun b hb => pq_e_uR hb)
  rw [show (pq_uR S a (va_up (hR S a) i.toNatClampNeg (some b))).2.2.2.2.2.2 a = va_up (hR S a) i.toNatClampNeg (some b) from va_up_self _ _ _] at he
  rw [show (pq_pl cy S).set q0 (a, Sum.inl (cy (pq_rj r), S.2.2.2.2.2.1 a, Sum.inr (Sum.inr (Sum.inr (Sum.inr (va_up (S.2.2.2.2.2.2 a) i.toNatClampNeg (some b))))))) = _ from he] at k1 k2
  refine kk H1 locs1 ls (hT.uR h (fun j => ?_)) k1 k2 k3 hl
  by_cases e : j = i.toNatClampNeg
  · subst e; rw [va_up_self]; exact hx
  · rw [va_up_ne _ _ e]; exact (g2 j).2
theorem pq_Fr.uR {M : List (Nat × Nat)} {S S1 : HS} {a r : Nat} {f : Nat → Option Nat} (h : pq_Fr M S S1) (ha : pq_R S1 a r) (hm : (r, 0) ∈ M) : pq_Fr M S (pq_uR S1 a f) := by
  refine ⟨fun b rb hb hr => ⟨(h.1 b rb hb hr).1, (h.1 b rb hb hr).2⟩, h.2.1, fun b rb hb hr hk => ?_⟩
  have hne : b ≠ a := fun e => by
    subst e
    have h5 := (h.1 b rb hb (Or.inr hr)).1.2
    have h6 := ha.2
    rw [h5] at h6
    exact hk (h6 ▸ hm)
  obtain ⟨x1, x2, x3⟩ := h.2.2 b rb hb hr hk
  refine ⟨x1, x2, ?_⟩
  show va_up S1.2.2.2.2.2.2 a f b = _
  rw [va_up_ne _ _ hne]; exact x3
theorem pq_nonnull (F : pq_Fx p R s m args c D cy A cc nL own) {x : Nat} {off : Int} {tgt : Nat} (hdg : decode cc pc = .ok (.ifnonnull off, 3)) (ht : (pc : Int) + off = (tgt : Int)) (k : pq_At p l e R s m args below meth c Q D cy A nL cells slots tgt S lc st) : pq_At p l e R s m args below meth c Q D cy A nL cells slots pc S lc (.ref x :: st) := fun H locs ls hT hP hD hS hl => lv_ifnonnull F.1 F.2.1 hdg ht (k H locs ls hT hP hD hS hl)
theorem pq_nonnullN (F : pq_Fx p R s m args c D cy A cc nL own) {off : Int} (hdg : decode cc pc = .ok (.ifnonnull off, 3)) (k : pq_At p l e R s m args below meth c Q D cy A nL cells slots (pc + 3) S lc st) : pq_At p l e R s m args below meth c Q D cy A nL cells slots pc S lc (.null :: st) := fun H locs ls hT hP hD hS hl => lv_ifnonnullN F.1 F.2.1 hdg (k H locs ls hT hP hD hS hl)
/-! switches -/
theorem pq_tabOut (F : pq_Fx p R s m args c D cy A cc nL own) {dflt lo hi : Int} {offs : Array Int} {len : Nat} {x : Int32} {tgt : Nat} (hdg : decode cc pc = .ok (.tableswitch dflt lo hi offs, len)) (h : x.toInt < lo ∨ hi < x.toInt) (ht : (pc : Int) + dflt = (tgt : Int)) (k : pq_At p l e R s m args below meth c Q D cy A nL cells slots tgt S lc st) : pq_At p l e R s m args below meth c Q D cy A nL cells slots pc S lc (.int x :: st) := fun H locs ls hT hP hD hS hl => lv_tableOut F.1 F.2.1 hdg h ht (k H locs ls hT hP hD hS hl)
theorem pq_tabIn (F : pq_Fx p R s m args c D cy A cc nL own) {dflt lo hi : Int} {offs : Array Int} {len : Nat} {x : Int32} {off : Int} {tgt : Nat} (hdg : decode cc pc = .ok (.tableswitch dflt lo hi offs, len)) (h1 : ¬ x.toInt < lo) (h2 : ¬ hi < x.toInt) (ho : offs[(x.toInt - lo).toNat]? = some off) (ht : (pc : Int) + off = (tgt : Int)) (k : pq_At p l e R s m args below meth c Q D cy A nL cells slots tgt S lc st) : pq_At p l e R s m args below meth c Q D cy A nL cells slots pc S lc (.int x :: st) := fun H locs ls hT hP hD hS hl => lv_tableIn F.1 F.2.1 hdg h1 h2 ho ht (k H locs ls hT hP hD hS hl)
theorem pq_look (F : pq_Fx p R s m args c D cy A cc nL own) {dflt : Int} {ps : Array (Int × Int)} {len : Nat} {x : Int32} {off : Int} {tgt : Nat} (hdg : decode cc pc = .ok (.lookupswitch dflt ps, len)) (hp : (ps.toList.zip (ps.toList.drop 1)).all (fun (a, next) => a.1 < next.1) = true) (ho : Op.lookupswitch.offset ps.toList dflt x.toInt = off) (ht : (pc : Int) + off = (tgt : Int)) (k : pq_At p l e R s m args below meth c Q D cy A nL cells slots tgt S lc st) : pq_At p l e R s m args below meth c Q D cy A nL cells slots pc S lc (.int x :: st) := fun H locs ls hT hP hD hS hl => lv_lookup F.1 F.2.1 hdg hp ho ht (k H locs ls hT hP hD hS hl)
/-! the JDK's -/
def pq_Mx (own : String) (index : Nat) : Prop := Cond.methodLink own index Lib.Math.max.name ∈ gtb ∧ Cond.static Lib.Math.max.name ∈ gtb ∧ Cond.initialized "java/lang/Math" ∈ gtb ∧ Cond.code Lib.Math.max.name Lib.Math.max.code 2 (some .int) ∈ gtb
theorem pq_mmax (F : pq_Fx p R s m args c D cy A cc nL own) {index : Nat} {x y : Int32} (hw : pq_Mx own index) (hfr : 1 ≤ R.frames ∧ (st.map fun v => v.category).sum + 13 ≤ R.locals) (hc : cells ≤ R.cells) (hs : slots ≤ R.slots) (hdg : decode cc pc = .ok (.invokestatic index, 3)) (kk : ∀ z : Int32, x.toInt ≤ z.toInt → y.toInt ≤ z.toInt → (z = x ∨ z = y) → pq_At p l e R s m args below meth c Q D cy A nL cells slots (pc + 3) S lc (.int z :: st)) : pq_At p l e R s m args below meth c Q D cy A nL cells slots pc S lc (.int y :: .int x :: st) := fun H locs ls hT hP hD hS hl => by
  refine va_mmax F.1 F.2.1 (by rw [F.2.2.1]; exact hl.1.symm) F.2.2.2.1 (F.2.2.2.2.1 _ hw.1) (F.2.2.2.2.1 _ hw.2.1) (F.2.2.2.2.1 _ hw.2.2.1) (F.2.2.2.2.1 _ hw.2.2.2) hfr.1 hfr.2 hc hs hdg ?_
  by_cases h : x < y
  · rw [if_pos h]
    rw [Int32.lt_iff_toInt_lt] at h
    exact kk y (by omega) (Int.le_refl _) (Or.inr rfl) H locs ls hT hP hD hS hl
  · rw [if_neg h]
    rw [Int32.lt_iff_toInt_lt] at h
    exact kk x (Int.le_refl _) (by omega) (Or.inl rfl) H locs ls hT hP hD hS hl
theorem pq_copyJ (F : pq_Fx p R s m args c D cy A cc nL own) {index a0 a r0 r1 : Nat} {sp dp n : Int32} (hw : pq_Cw own index) (h0 : pq_R S a0 r0) (h1 : pq_R S a r1) (k1 : 180 ≤ r0) (k2 : r0 < 200) (k3 : 180 ≤ r1) (k4 : r1 < 200) (i1 : 0 ≤ sp.toInt) (i2 : 0 ≤ dp.toInt) (i3 : 0 ≤ n.toInt) (i4 : sp.toNatClampNeg + n.toNatClampNeg ≤ hN S a0) (i5 : dp.toNatClampNeg + n.toNatClampNeg ≤ hN S a) (hfr : 1 ≤ R.frames ∧ (st.map fun v => v.category).sum + 18 ≤ R.locals) (hdg : decode cc pc = .ok (.invokestatic index, 3))
    (kk : pq_At p l e R s m args below meth c Q D cy A nL cells slots (pc + 3) (pq_uJ S a (va_cpy (hJ S a0) (hJ S a) sp.toNatClampNeg dp.toNatClampNeg n.toNatClampNeg)) lc st) : pq_At p l e R s m args below meth c Q D cy A nL cells slots pc S lc (.int n :: .int dp :: .ref a :: .int sp :: .ref a0 :: st) := by
  intro H locs ls hT hP hD hS hl
  obtain ⟨q0, hq0⟩ := pq_at (cy := cy) h0
  obtain ⟨q1, hq1⟩ := pq_at (cy := cy) h1
  have hq1' := hq1
  rw [pq_eJ h0 k1 k2] at hq0
  rw [pq_eJ h1 k3 k4] at hq1
  have hts := F.2.2.2.2.1
  refine va_copyl F.1 F.2.1 (by rw [F.2.2.1]; exact hl.1.symm) F.2.2.2.1 (hts _ hw.1) (hts _ hw.2.1) (hts _ hw.2.2.1) (hts _ hw.2.2.2) F.2.2.2.2.2.1 hP hD hS q0 q1 2 2 hq0 hq1 rfl rfl rfl (pq_neg i1) (pq_neg i2) (pq_neg i3) i4 i5 (fun _ _ => rfl) hfr.1 (Nat.le_trans (Nat.le_of_eq rfl) hfr.2) hdg (fun H1 locs1 g1 g2 g3 => ?_)
  have hR' : pq_R (pq_uJ S a (va_cpy (hJ S a0) (hJ S a) sp.toNatClampNeg dp.toNatClampNeg n.toNatClampNeg)) a r1 := h1
  have he := pq_wA (S' := pq_uJ S a (va_cpy (hJ S a0) (hJ S a) sp.toNatClampNeg dp.toNatClampNeg n.toNatClampNeg)) hD h1 hq1' rfl (pq_eJ hR' k3 k4) (fun b hb => pq_e_uJ hb)
  rw [show (pq_uJ S a (va_cpy (hJ S a0) (hJ S a) sp.toNatClampNeg dp.toNatClampNeg n.toNatClampNeg)).2.2.2.2.1 a = va_cpy (hJ S a0) (hJ S a) sp.toNatClampNeg dp.toNatClampNeg n.toNatClampNeg from va_up_self _ _ _] at he
  rw [show (pq_pl cy S).set q1 (a, Sum.inl (cy 2, S.2.2.2.2.2.1 a, Sum.inr (Sum.inl (va_cpy (S.2.2.2.2.1 a0) (S.2.2.2.2.1 a) sp.toNatClampNeg dp.toNatClampNeg n.toNatClampNeg)))) = _ from he] at g1 g2
  exact kk H1 locs1 ls hT.uJ g1 g2 g3 hl
/-! String constants -/
theorem pq_ldcS (F : pq_Fx p R s m args c D cy A cc nL own) {index i : Nat} (hi : i < 6) (ho : (pq_sg i).1 = own) (hk : (pq_sg i).2.1 = index) (hdg : decode cc pc = .ok (.ldc index, 2)) (kk : pq_At p l e R s m args below meth c Q D cy A nL cells slots (pc + 2) S lc (.ref (cy (10 + i)) :: st)) : pq_At p l e R s m args below meth c Q D cy A nL cells slots pc S lc st := fun H locs ls hT hP hD hS hl => by
  have h := (F.2.2.2.2.2.2.2.2.1 i hi).1
  rw [ho, hk] at h
  exact va_ldcS F.1 F.2.1 F.2.2.2.1 h hdg (kk H locs ls hT hP hD hS hl)
theorem pq_kval (F : pq_Fx p R s m args c D cy A cc nL own) {index i : Nat} (hi : i < 6) (hlk : Cond.fieldLink own index "java/lang/String" "value" "[B" ∈ gtb) (hdg : decode cc pc = .ok (.getfield index, 3)) (kk : pq_At p l e R s m args below meth c Q D cy A nL cells slots (pc + 3) S lc (.ref (cy (20 + i)) :: st)) : pq_At p l e R s m args below meth c Q D cy A nL cells slots pc S lc (.ref (cy (10 + i)) :: st) := fun H locs ls hT hP hD hS hl =>
  vk_getf F.1 F.2.1 (F.2.2.2.2.2.2.2.2.1 i hi).2.2.2.1 hS F.2.2.2.1 (F.2.2.2.2.1 _ hlk) (fun _ h => h) hdg (kk H locs ls hT hP hD hS hl)
theorem pq_kcod (F : pq_Fx p R s m args c D cy A cc nL own) {index i : Nat} (hi : i < 6) (hlk : Cond.fieldLink own index "java/lang/String" "coder" "B" ∈ gtb) (hdg : decode cc pc = .ok (.getfield index, 3)) (kk : pq_At p l e R s m args below meth c Q D cy A nL cells slots (pc + 3) S lc (.int 0 :: st)) : pq_At p l e R s m args below meth c Q D cy A nL cells slots pc S lc (.ref (cy (10 + i)) :: st) := fun H locs ls hT hP hD hS hl =>
  vk_getf F.1 F.2.1 (F.2.2.2.2.2.2.2.2.1 i hi).2.2.1 hS F.2.2.2.1 (F.2.2.2.2.1 _ hlk) (fun _ h => h) hdg (kk H locs ls hT hP hD hS hl)
theorem pq_klen (F : pq_Fx p R s m args c D cy A cc nL own) {i : Nat} (hi : i < 6) (hdg : decode cc pc = .ok (.arraylength, 1)) (kk : pq_At p l e R s m args below meth c Q D cy A nL cells slots (pc + 1) S lc (.int (nI (pq_sg i).2.2.2.length) :: st)) : pq_At p l e R s m args below meth c Q D cy A nL cells slots pc S lc (.ref (cy (20 + i)) :: st) := fun H locs ls hT hP hD hS hl =>
  va_tlen F.1 F.2.1 (F.2.2.2.2.2.2.2.2.1 i hi).2.2.2.2 hS rfl hdg (kk H locs ls hT hP hD hS hl)
theorem pq_kbyt (F : pq_Fx p R s m args c D cy A cc nL own) {i : Nat} {j : Int32} (hi : i < 6) (hin : vp_in j (pq_sg i).2.2.2.length) (hdg : decode cc pc = .ok (.baload, 1)) (kk : pq_At p l e R s m args below meth c Q D cy A nL cells slots (pc + 1) S lc (.int ((pq_sg i).2.2.2.getD j.toNatClampNeg 0) :: st)) : pq_At p l e R s m args below meth c Q D cy A nL cells slots pc S lc (.int j :: .ref (cy (20 + i)) :: st) := fun H locs ls hT hP hD hS hl =>
  va_tb F.1 F.2.1 (F.2.2.2.2.2.2.2.2.1 i hi).2.2.2.2 hS hin rfl hdg (kk H locs ls hT hP hD hS hl)
theorem pq_kcs (F : pq_Fx p R s m args c D cy A cc nL own) {index : Nat} (hlk : Cond.fieldLink own index "java/lang/String" "COMPACT_STRINGS" "Z" ∈ gtb) (hdg : decode cc pc = .ok (.getstatic index, 3)) (kk : pq_At p l e R s m args below meth c Q D cy A nL cells slots (pc + 3) S lc (.int 1 :: st)) : pq_At p l e R s m args below meth c Q D cy A nL cells slots pc S lc st := fun H locs ls hT hP hD hS hl =>
  va_gets F.1 F.2.1 F.2.2.2.2.2.2.2.2.2.2.1 hS F.2.2.2.1 (F.2.2.2.2.1 _ hlk) (fun _ h => h) hdg (kk H locs ls hT hP hD hS hl)
theorem pq_kcallV (F : pq_Fx p R s m args c D cy A cc nL own) {y : MethodName} {cc2 : ByteArray} {nL2 : Nat} {ret2 : Option FieldType} {d mc ms index i : Nat} {As : List Value} {post : Option Value → HS → Prop} (hi : i < 6) (hC : pq_C l D cy y cc2 nL2 ret2 d mc ms S (.ref (cy (10 + i)) :: As) post) (hM : pq_MV own index As.length y cc2 nL2 ret2) (hcl : y.cls = "java/lang/String") (hw : (st.map fun v => v.category).sum ≤ 8) (hroom : d + 1 ≤ R.frames ∧ 8 + (nL2 + 11) + 40 * d ≤ R.locals) (hcs : cells + mc ≤ R.cells ∧ slots + ms ≤ R.slots) (hdg : decode cc pc = .ok (.invokevirtual index, 3))
    (kk : ∀ (v : Option Value) (S' : HS), post v S' → pq_At p l e R s m args below meth c Q D cy A nL (cells + mc) (slots + ms) (pc + 3) S' lc (v.toList ++ st)) : pq_At p l e R s m args below meth c Q D cy A nL cells slots pc S lc (As.reverse ++ .ref (cy (10 + i)) :: st) := by
  intro H locs ls hT hP hD hS hl
  obtain ⟨hcode, hini, hins, hsel, hd, hlk⟩ := hM
  have hts := F.2.2.2.2.1
  have hfx : CallFix p m c cc nL s args gtb own := ⟨F.1, F.2.1, F.2.2.1, F.2.2.2.1, hts⟩
  have hrecv : ∃ cell : Cell, H[cy (10 + i)]? = some cell ∧ cell.vm.isStatics = false ∧ s.vm.findClass y.cls = some cell.cls := by
    obtain ⟨cell, h1, h2, h3, -⟩ := (F.2.2.2.2.2.2.2.2.1 i hi).2.1.kept hS.2.1
    exact ⟨cell, h1, h2, by rw [hcl]; exact h3⟩
  have hpv : PreV s H y.cls (cy (10 + i)) (pq_Pc D cy S H.size (.ref (cy (10 + i)) :: As)) As := ⟨pq_blind, hrecv, pq_pre F hT hP hD hS⟩
  refine pq_behind F hD hS hl (av := .ref (cy (10 + i)) :: As) ?_ kk
  rcases hlk with hlk | ⟨host, hlk⟩
  · exact va_runV hfx (hC H.size) ⟨callB_of As.length hts (pq_good (l1 := []) hcode).2 rfl rfl rfl (hts _ hini) (hts _ hlk) hd hroom, hts _ hins, hts _ hsel⟩ hpv rfl rfl hl.1 rfl (lv_room hw) hdg hcs
  · exact va_runVN hfx (hC H.size) ⟨va_cnB As.length hts (pq_good (l1 := []) hcode).2 rfl rfl rfl (F.2.2.2.2.2.2.2.1 _ hlk) (hts _ hini) hd hroom, hts _ hins, hts _ hsel⟩ hpv rfl rfl hl.1 rfl (lv_room hw) hdg hcs
end PX
