/-! ===== what a method leaves as it was: M lists (role, field), a row as (role, 0) ===== -/
def pq_Fr (M : List (Nat × Nat)) (S S' : HS) : Prop := pq_X S S' ∧ (∀ a r, pq_R S a r → r < 60 → ∀ k, (r, k) ∉ M → hO S' a k = hO S a k) ∧ ∀ a r, pq_R S a r → 100 ≤ r → (r, 0) ∉ M → hI S' a = hI S a ∧ hJ S' a = hJ S a ∧ hR S' a = hR S a
theorem pq_Fr.rf {M : List (Nat × Nat)} {S : HS} : pq_Fr M S S := ⟨pq_X.rf, fun _ _ _ _ _ _ => rfl, fun _ _ _ _ _ => ⟨rfl, rfl, rfl⟩⟩
theorem pq_Fr.tr {M : List (Nat × Nat)} {S S1 S2 : HS} (h : pq_Fr M S S1) (h1 : pq_Fr M S1 S2) : pq_Fr M S S2 := by
  refine ⟨h.1.tr h1.1, fun a r ha hr k hk => ?_, fun a r ha hr hk => ?_⟩
  · rw [h1.2.1 a r (h.1 a r ha (Or.inl hr)).1 hr k hk]; exact h.2.1 a r ha hr k hk
  · obtain ⟨x1, x2, x3⟩ := h1.2.2 a r (h.1 a r ha (Or.inr hr)).1 hr hk
    obtain ⟨y1, y2, y3⟩ := h.2.2 a r ha hr hk
    exact ⟨x1.trans y1, x2.trans y2, x3.trans y3⟩
theorem pq_Fr.mono {M M' : List (Nat × Nat)} {S S1 : HS} (h : pq_Fr M S S1) (hm : ∀ q ∈ M, q ∈ M') : pq_Fr M' S S1 := ⟨h.1, fun a r ha hr k hk => h.2.1 a r ha hr k (fun q => hk (hm _ q)), fun a r ha hr hk => h.2.2 a r ha hr (fun q => hk (hm _ q))⟩
theorem pq_Fr.cm {M M' : List (Nat × Nat)} {S S1 S2 : HS} (h : pq_Fr M S S1) (h1 : pq_Fr M' S1 S2) (hm : ∀ q ∈ M', q ∈ M) : pq_Fr M S S2 := h.tr (h1.mono hm)
theorem pq_Fr.uO {M : List (Nat × Nat)} {S S1 : HS} {a r k : Nat} {v : Value} (h : pq_Fr M S S1) (ha : pq_R S1 a r) (hm : (r, k) ∈ M) : pq_Fr M S (pq_uO S1 a k v) := by
  refine h.tr ⟨fun _ _ q _ => ⟨q, rfl⟩, fun b r2 hb hr j hj => ?_, fun _ _ _ _ _ => ⟨rfl, rfl, rfl⟩⟩
  show va_up S1.2.2.1 a (va_up (S1.2.2.1 a) k v) b j = _
  by_cases e : b = a
  · subst e
    rw [va_up_self, va_up_ne]
    intro e2
    subst e2
    exact hj (by rw [show r2 = r from hb.2.symm.trans ha.2]; exact hm)
  · rw [va_up_ne _ _ e]
theorem pq_Fr.uI {M : List (Nat × Nat)} {S S1 : HS} {a r : Nat} {f : Nat → Int32} (h : pq_Fr M S S1) (ha : pq_R S1 a r) (hm : (r, 0) ∈ M) : pq_Fr M S (pq_uI S1 a f) := by
  refine h.tr ⟨fun _ _ q _ => ⟨q, rfl⟩, fun _ _ _ _ _ _ => rfl, fun b r2 hb hr hj => ⟨?_, rfl, rfl⟩⟩
  show va_up S1.2.2.2.1 a f b = _
  rw [va_up_ne]
  intro e
  subst e
  exact hj (by rw [show r2 = r from hb.2.symm.trans ha.2]; exact hm)
theorem pq_Fr.uJ {M : List (Nat × Nat)} {S S1 : HS} {a r : Nat} {f : Nat → Int64} (h : pq_Fr M S S1) (ha : pq_R S1 a r) (hm : (r, 0) ∈ M) : pq_Fr M S (pq_uJ S1 a f) := by
  refine h.tr ⟨fun _ _ q _ => ⟨q, rfl⟩, fun _ _ _ _ _ _ => rfl, fun b r2 hb hr hj => ⟨rfl, ?_, rfl⟩⟩
  show va_up S1.2.2.2.2.1 a f b = _
  rw [va_up_ne]
  intro e
  subst e
  exact hj (by rw [show r2 = r from hb.2.symm.trans ha.2]; exact hm)
theorem pq_Fr.nw {M : List (Nat × Nat)} {S S1 : HS} {q r n : Nat} {ds : Nat → Value} (h : pq_Fr M S S1) (hq : q ∉ S1.1) : pq_Fr M S (pq_nw S1 q r n ds) := by
  refine h.tr ⟨pq_X.nw hq, fun b r2 hb _ j _ => ?_, fun b r2 hb _ _ => ?_⟩
  · have e : b ≠ q := fun e => hq (e ▸ hb.1)
    show va_up S1.2.2.1 q ds b j = _
    rw [va_up_ne _ _ e]
  · have e : b ≠ q := fun e => hq (e ▸ hb.1)
    exact ⟨va_up_ne _ _ e, va_up_ne _ _ e, va_up_ne _ _ e⟩
theorem pq_Fr.R {M : List (Nat × Nat)} {S S1 : HS} {a r : Nat} (h : pq_Fr M S S1) (ha : pq_R S a r) (hr : r < 60 ∨ 100 ≤ r) : pq_R S1 a r := (h.1 a r ha hr).1
theorem pq_Fr.O {M : List (Nat × Nat)} {S S1 : HS} {a r k : Nat} {w : Value} (h : pq_Fr M S S1) (ha : pq_R S a r) (hr : r < 60) (hk : (r, k) ∉ M) (hw : hO S a k = w) : hO S1 a k = w := (h.2.1 a r ha hr k hk).trans hw
/-! ===== to know less of the locals ===== -/
def pq_sub : List (Option Value) → List (Option Value) → Prop
  | [], _ => True
  | none :: t, [] => pq_sub t []
  | none :: t, _ :: t2 => pq_sub t t2
  | some _ :: _, [] => False
  | some v :: t, x :: t2 => x = some v ∧ pq_sub t t2
theorem pq_sub_nil : ∀ (l1 : List (Option Value)) (i : Nat) (v : Value), pq_sub l1 [] → ¬ l1[i]? = some (some v)
  | [], i, v, _, h => by simp at h
  | none :: t, 0, v, _, h => by simp at h
  | none :: t, i + 1, v, hs, h => pq_sub_nil t i v hs (by simpa using h)
  | some w :: t, i, v, hs, _ => hs
theorem pq_sub_get : ∀ (l1 l2 : List (Option Value)) (i : Nat) (v : Value), pq_sub l1 l2 → l1[i]? = some (some v) → l2[i]? = some (some v)
  | [], _, i, v, _, h => by simp at h
  | none :: t, [], i, v, hs, h => absurd h (pq_sub_nil (none :: t) i v hs)
  | none :: t, y :: t2, 0, v, _, h => by simp at h
  | none :: t, y :: t2, i + 1, v, hs, h => by
    simp only [List.getElem?_cons_succ] at h ⊢
    exact pq_sub_get t t2 i v hs h
  | some w :: t, [], i, v, hs, _ => hs.elim
  | some w :: t, y :: t2, 0, v, hs, h => by
    simp only [List.getElem?_cons_zero, Option.some.injEq] at h ⊢
    rw [hs.1, h]
  | some w :: t, y :: t2, i + 1, v, hs, h => by
    simp only [List.getElem?_cons_succ] at h ⊢
    exact pq_sub_get t t2 i v hs.2 h
theorem pq_fg {p : Program} {l : Launch} {e : Env} {R : Room} {s : State} {m : MethodId} {args : Array Value} {below : List Frame} {meth : Method} {c : Code} {Q : State → Prop} {D : va_G} {cy : Nat → ClassId} {A : Nat → Prop} {nL cells slots pc : Nat} {S : HS} {lc lc' : List (Option Value)} {st : List Value} (k : pq_At p l e R s m args below meth c Q D cy A nL cells slots pc S lc' st) (hs : pq_sub lc' lc) : pq_At p l e R s m args below meth c Q D cy A nL cells slots pc S lc st := fun H locs ls hT hP hD hS hl => k H locs ls hT hP hD hS ⟨hl.1, hl.2.1, fun i v h => hl.2.2 i v (pq_sub_get lc' lc i v hs h)⟩
theorem pq_nz (x : Int32) : (0 : Int) ≤ (vp_nar .boolean x).toInt ∧ (vp_nar .boolean x).toInt ≤ 1 := by
  have h : vp_nar .boolean x = x &&& 1 := rfl
  rw [h]
  obtain ⟨j, hj, hx⟩ := pk_andE x (m := 1) 1 (by decide)
  rw [hx, nI_toInt (by omega)]
  omega
theorem pq_bz {x : Int32} (h0 : 0 ≤ x.toInt) (h1 : x.toInt ≤ 1) : narrow .boolean (.int x) = .int x ∧ fits .boolean (.int x) = true := by
  have h : x = 0 ∨ x = 1 := by
    have h2 : x.toInt = 0 ∨ x.toInt = 1 := by omega
    rcases h2 with h2 | h2
    · left; exact Int32.toInt_inj.mp (by rw [h2]; rfl)
    · right; exact Int32.toInt_inj.mp (by rw [h2]; rfl)
  rcases h with rfl | rfl <;> exact ⟨rfl, rfl⟩
theorem pq_and1023 (x : Int32) : (0 : Int) ≤ (x &&& 1023).toInt ∧ (x &&& 1023).toInt ≤ 1023 := by
  obtain ⟨j, hj, hx⟩ := pk_andE x (m := 1023) 10 (by decide)
  rw [hx, nI_toInt (by omega)]
  omega
theorem pq_bm {n : Int} (h1 : -2147483648 ≤ n) (h2 : n ≤ 2147483647) : n.bmod (2 ^ 32) = n := Int.bmod_eq_of_le (by omega) (by omega)
theorem pq_dv {x y : Int32} (h0 : 0 ≤ x.toInt) (h1 : 0 < y.toInt) : (x / y).toInt = x.toInt / y.toInt := by
  rw [Int32.toInt_div, Int.tdiv_eq_ediv_of_nonneg h0]
  have h2 := Int32.toInt_lt x
  have h3 : x.toInt / y.toInt ≤ x.toInt := Int.ediv_le_self _ h0
  have h4 : 0 ≤ x.toInt / y.toInt := Int.ediv_nonneg h0 (by omega)
  exact pq_bm (by omega) (by omega)
section PL
variable {p : Program} {l : Launch} {e : Env} {R : Room} {s : State} {m : MethodId} {args : Array Value} {below : List Frame} {meth : Method} {c : Code} {Q : State → Prop} {D : va_G} {cy : Nat → ClassId} {A : Nat → Prop} {nL : Nat} {cc : ByteArray} {own : String} {cells slots pc : Nat} {S : HS} {lc : List (Option Value)} {st : List Value}
theorem pq_ldc (F : pq_Fx p R s m args c D cy A cc nL own) {index : Nat} {v : Int32} (hc : Cond.constant own index v ∈ gtb) (hdg : decode cc pc = .ok (.ldc index, 2)) (k : pq_At p l e R s m args below meth c Q D cy A nL cells slots (pc + 2) S lc (.int v :: st)) : pq_At p l e R s m args below meth c Q D cy A nL cells slots pc S lc st := fun H locs ls hT hP hD hS hl => lv_ldc F.1 F.2.1 F.2.2.2.1 (F.2.2.2.2.1 _ hc) hdg (k H locs ls hT hP hD hS hl)
theorem pq_ldc2 (F : pq_Fx p R s m args c D cy A cc nL own) {index : Nat} {v : Int64} (hc : Cond.constantLong own index v ∈ gtb) (hdg : decode cc pc = .ok (.ldc2_w index, 3)) (k : pq_At p l e R s m args below meth c Q D cy A nL cells slots (pc + 3) S lc (.long v :: st)) : pq_At p l e R s m args below meth c Q D cy A nL cells slots pc S lc st := fun H locs ls hT hP hD hS hl => lv_ldc2 F.1 F.2.1 F.2.2.2.1 (F.2.2.2.2.1 _ hc) hdg (k H locs ls hT hP hD hS hl)
theorem pq_putZ (F : pq_Fx p R s m args c D cy A cc nL own) {a r k index : Nat} {x : Int32} (h : pq_R S a r) (hr : r < 100) (hk : pq_Lp own index (pq_ci r) k .boolean) (ht : pq_ft r k = (1, 0, 1)) (h1 : 0 ≤ x.toInt) (h2 : x.toInt ≤ 1) (hdg : decode cc pc = .ok (.putfield index, 3)) (kk : pq_At p l e R s m args below meth c Q D cy A nL cells slots (pc + 3) (pq_uO S a k (.int x)) lc st) : pq_At p l e R s m args below meth c Q D cy A nL cells slots pc S lc (.int x :: .ref a :: st) :=
  pq_put F h hr hk (pq_bz h1 h2).1 (pq_bz h1 h2).2 (by rw [ht]; exact ⟨x, rfl, h1, h2⟩) hdg kk
end PL
theorem pq_NuO {S : HS} {a k : Nat} {v : Value} : hN (pq_uO S a k v) = hN S := rfl
theorem pq_NuI {S : HS} {a : Nat} {f : Nat → Int32} : hN (pq_uI S a f) = hN S := rfl
theorem pq_NuJ {S : HS} {a : Nat} {f : Nat → Int64} : hN (pq_uJ S a f) = hN S := rfl
theorem pq_nO {S : HS} {q r n b rb k : Nat} {ds : Nat → Value} {w : Value} (hq : q ∉ S.1) (hb : pq_R S b rb) (h : hO S b k = w) : hO (pq_nw S q r n ds) b k = w := by
  show va_up S.2.2.1 q ds b k = w
  rw [va_up_ne _ _ (show b ≠ q from fun e => hq (e ▸ hb.1))]; exact h
theorem pq_nR {S : HS} {q r n b rb : Nat} {ds : Nat → Value} (hq : q ∉ S.1) (hb : pq_R S b rb) : pq_R (pq_nw S q r n ds) b rb := by
  have hne : b ≠ q := fun e => hq (e ▸ hb.1)
  exact ⟨List.mem_append_left _ hb.1, by show va_up S.2.1 q r b = rb; rw [va_up_ne _ _ hne]; exact hb.2⟩
theorem pq_nN {S : HS} {q r n : Nat} {ds : Nat → Value} : hN (pq_nw S q r n ds) q = n := va_up_self _ _ _
theorem pq_nM {S : HS} {q r n b rb : Nat} {ds : Nat → Value} (hq : q ∉ S.1) (hb : pq_R S b rb) : hN (pq_nw S q r n ds) b = hN S b := va_up_ne _ _ (show b ≠ q from fun e => hq (e ▸ hb.1))
section PN
variable {p : Program} {l : Launch} {e : Env} {R : Room} {s : State} {m : MethodId} {args : Array Value} {below : List Frame} {meth : Method} {c : Code} {Q : State → Prop} {D : va_G} {cy : Nat → ClassId} {A : Nat → Prop} {nL : Nat} {cc : ByteArray} {own : String} {cells slots pc : Nat} {S : HS} {lc : List (Option Value)} {st : List Value}
theorem pq_newI (F : pq_Fx p R s m args c D cy A cc nL own) {r n n1 n2 : Nat} {lo hi : Int} {i : Int32} (h1 : 120 ≤ r) (h2 : r < 180) (hcls : Cond.arrayClass .int ∈ gtb) (hal : pq_al r = (n1, n2, lo, hi)) (hlo : lo ≤ 0 ∧ 0 ≤ hi) (hi0 : 0 ≤ i.toInt) (hn : i.toNatClampNeg = n) (hn1 : n1 ≤ n ∧ n ≤ n2) (hb : n ≤ 100000000) (hc : cells + 1 ≤ R.cells) (hs : slots + n ≤ R.slots) (hdg : decode cc pc = .ok (.newarray .int, 2))
    (kk : ∀ q : Nat, q ∉ S.1 → pq_R (pq_nw S q r n (fun _ => .null)) q r → pq_At p l e R s m args below meth c Q D cy A nL (cells + 1) (slots + n) (pc + 2) (pq_nw S q r n (fun _ => .null)) lc (.ref q :: st)) : pq_At p l e R s m args below meth c Q D cy A nL cells slots pc S lc (.int i :: st) := by
  refine pq_newa F (ty := .int) (j := 1) (r := r) (n := n) (a0 := (n, .inl (fun _ => 0))) rfl rfl (fun C h => by cases h) hcls (fun h => ?_) hn (fun _ => rfl) (by omega) (fun q => ?_) ⟨by rw [hal]; exact hn1, by rw [hal]; exact hlo⟩ (by show n * 4 ≤ _; omega) hc hs hdg (fun q hq => kk q hq pq_R.nw)
  · rw [Int32.lt_iff_toInt_lt] at h
    have : (0 : Int32).toInt = 0 := rfl
    omega
  · rw [pq_eI pq_R.nw h1 h2]
    show Sum.inl (cy 1, va_up S.2.2.2.2.2.1 q n q, Sum.inl (va_up S.2.2.2.1 q (fun _ => 0) q)) = _
    rw [va_up_self, va_up_self]
end PN
section PY
variable {p : Program} {l : Launch} {e : Env} {R : Room} {s : State} {m : MethodId} {args : Array Value} {below : List Frame} {meth : Method} {c : Code} {Q : State → Prop} {D : va_G} {cy : Nat → ClassId} {A : Nat → Prop} {nL : Nat} {cc : ByteArray} {own : String} {cells slots pc : Nat} {S : HS} {lc : List (Option Value)} {st : List Value}
def pq_Cw (own : String) (index : Nat) : Prop := Cond.methodLink own index arraycopyName ∈ gtb ∧ Cond.native arraycopyName ∈ gtb ∧ Cond.static arraycopyName ∈ gtb ∧ Cond.initialized "java/lang/System" ∈ gtb
theorem pq_copyI (F : pq_Fx p R s m args c D cy A cc nL own) {index a0 a r0 r1 : Nat} {sp dp n : Int32} (hw : pq_Cw own index) (h0 : pq_R S a0 r0) (h1 : pq_R S a r1) (k1 : 120 ≤ r0) (k2 : r0 < 180) (k3 : 120 ≤ r1) (k4 : r1 < 180) (hty : (pq_al r1).2.2.1 ≤ (pq_al r0).2.2.1 ∧ (pq_al r0).2.2.2 ≤ (pq_al r1).2.2.2) (i1 : 0 ≤ sp.toInt) (i2 : 0 ≤ dp.toInt) (i3 : 0 ≤ n.toInt) (i4 : sp.toNatClampNeg + n.toNatClampNeg ≤ hN S a0) (i5 : dp.toNatClampNeg + n.toNatClampNeg ≤ hN S a) (hfr : 1 ≤ R.frames ∧ (st.map fun v => v.category).sum + 18 ≤ R.locals) (hdg : decode cc pc = .ok (.invokestatic index, 3))
    (kk : pq_At p l e R s m args below meth c Q D cy A nL cells slots (pc + 3) (pq_uI S a (va_cpy (hI S a0) (hI S a) sp.toNatClampNeg dp.toNatClampNeg n.toNatClampNeg)) lc st) : pq_At p l e R s m args below meth c Q D cy A nL cells slots pc S lc (.int n :: .int dp :: .ref a :: .int sp :: .ref a0 :: st) := by
  intro H locs ls hT hP hD hS hl
  obtain ⟨q0, hq0⟩ := pq_at (cy := cy) h0
  obtain ⟨q1, hq1⟩ := pq_at (cy := cy) h1
  have hq1' := hq1
  rw [pq_eI h0 k1 k2] at hq0
  rw [pq_eI h1 k3 k4] at hq1
  have neg : ∀ x : Int32, 0 ≤ x.toInt → ¬ x < 0 := fun x hx h => by
    rw [Int32.lt_iff_toInt_lt] at h
    have : (0 : Int32).toInt = 0 := rfl
    omega
  have hts := F.2.2.2.2.1
  refine va_copyi F.1 F.2.1 (by rw [F.2.2.1]; exact hl.1.symm) F.2.2.2.1 (hts _ hw.1) (hts _ hw.2.1) (hts _ hw.2.2.1) (hts _ hw.2.2.2) F.2.2.2.2.2.1 hP hD hS q0 q1 1 1 hq0 hq1 rfl rfl rfl (neg _ i1) (neg _ i2) (neg _ i3) i4 i5 (fun _ _ => rfl) hfr.1 (Nat.le_trans (Nat.le_of_eq rfl) hfr.2) hdg (fun H1 locs1 g1 g2 g3 => ?_)
  have hR' : pq_R (pq_uI S a (va_cpy (hI S a0) (hI S a) sp.toNatClampNeg dp.toNatClampNeg n.toNatClampNeg)) a r1 := h1
  have he := pq_wA (S' := pq_uI S a (va_cpy (hI S a0) (hI S a) sp.toNatClampNeg dp.toNatClampNeg n.toNatClampNeg)) hD h1 hq1' rfl (pq_eI hR' k3 k4) (fun b hb => pq_e_uI hb)
  rw [show (pq_uI S a (va_cpy (hI S a0) (hI S a) sp.toNatClampNeg dp.toNatClampNeg n.toNatClampNeg)).2.2.2.1 a = va_cpy (hI S a0) (hI S a) sp.toNatClampNeg dp.toNatClampNeg n.toNatClampNeg from va_up_self _ _ _] at he
  rw [show (pq_pl cy S).set q1 (a, Sum.inl (cy 1, S.2.2.2.2.2.1 a, Sum.inl (va_cpy (S.2.2.2.1 a0) (S.2.2.2.1 a) sp.toNatClampNeg dp.toNatClampNeg n.toNatClampNeg))) = _ from he] at g1 g2
  refine kk H1 locs1 ls (hT.uI h1 (fun j => ?_)) g1 g2 g3 hl
  unfold va_cpy
  split
  · have := ((hT.2 a0 r0 h0 (by omega)).2 (sp.toNatClampNeg + (j - dp.toNatClampNeg))).1
    exact ⟨Int.le_trans hty.1 this.1, Int.le_trans this.2 hty.2⟩
  · exact ((hT.2 a r1 h1 (by omega)).2 j).1
end PY
theorem pq_Ia {S : HS} {a : Nat} {f : Nat → Int32} : hI (pq_uI S a f) a = f := va_up_self _ _ _
theorem pq_Ib {S : HS} {a b ra rb : Nat} {f : Nat → Int32} (hb : pq_R S b rb) (ha : pq_R S a ra) (hne : rb ≠ ra) : hI (pq_uI S a f) b = hI S b := va_up_ne _ _ (fun e => hne (by rw [← hb.2, e]; exact ha.2))
theorem pq_Fr.I {M : List (Nat × Nat)} {S S1 : HS} {a r : Nat} (h : pq_Fr M S S1) (ha : pq_R S a r) (hr : 100 ≤ r) (hk : (r, 0) ∉ M) : hI S1 a = hI S a := (h.2.2 a r ha hr hk).1
theorem pq_cl {x : Int32} (h : 0 ≤ x.toInt) : ((x.toNatClampNeg : Nat) : Int) = x.toInt := by
  show ((x.toInt.toNat : Nat) : Int) = x.toInt
  omega
theorem pq_Fr.uIn {M : List (Nat × Nat)} {S S1 : HS} {q : Nat} {f : Nat → Int32} (h : pq_Fr M S S1) (hq : q ∉ S.1) : pq_Fr M S (pq_uI S1 q f) := by
  refine ⟨fun a r ha hr => h.1 a r ha hr, h.2.1, fun a r ha hr hk => ?_⟩
  obtain ⟨x1, x2, x3⟩ := h.2.2 a r ha hr hk
  refine ⟨?_, x2, x3⟩
  show va_up S1.2.2.2.1 q f a = _
  rw [va_up_ne _ _ (show a ≠ q from fun e => hq (e ▸ ha.1))]
  exact x1
def pq_Mn (own : String) (index : Nat) : Prop := Cond.methodLink own index Lib.Math.min.name ∈ gtb ∧ Cond.static Lib.Math.min.name ∈ gtb ∧ Cond.initialized "java/lang/Math" ∈ gtb ∧ Cond.code Lib.Math.min.name Lib.Math.min.code 2 (some .int) ∈ gtb
theorem pq_mmin {p : Program} {l : Launch} {e : Env} {R : Room} {s : State} {m : MethodId} {args : Array Value} {below : List Frame} {meth : Method} {c : Code} {Q : State → Prop} {D : va_G} {cy : Nat → ClassId} {A : Nat → Prop} {nL : Nat} {cc : ByteArray} {own : String} {cells slots pc : Nat} {S : HS} {lc : List (Option Value)} {st : List Value} (F : pq_Fx p R s m args c D cy A cc nL own) {index : Nat} {x y : Int32} (hw : pq_Mn own index) (hfr : 1 ≤ R.frames ∧ (st.map fun v => v.category).sum + 13 ≤ R.locals) (hc : cells ≤ R.cells) (hs : slots ≤ R.slots) (hdg : decode cc pc = .ok (.invokestatic index, 3)) (kk : pq_At p l e R s m args below meth c Q D cy A nL cells slots (pc + 3) S lc (.int (if y < x then y else x) :: st)) : pq_At p l e R s m args below meth c Q D cy A nL cells slots pc S lc (.int y :: .int x :: st) := fun H locs ls hT hP hD hS hl =>
  va_mmin F.1 F.2.1 (by rw [F.2.2.1]; exact hl.1.symm) F.2.2.2.1 (F.2.2.2.2.1 _ hw.1) (F.2.2.2.2.1 _ hw.2.1) (F.2.2.2.2.1 _ hw.2.2.1) (F.2.2.2.2.1 _ hw.2.2.2) hfr.1 hfr.2 hc hs hdg (kk H locs ls hT hP hD hS hl)
