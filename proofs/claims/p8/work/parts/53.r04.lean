/-! ===== the reference: what its build and its kinds rest on ===== -/
theorem pq_refF {p : Program} {l : Launch} {e : Env} {R : Room} {s : State} {m : MethodId} {args : Array Value} {below : List Frame} {meth : Method} {c : Code} {Q : State → Prop} {D : va_G} {cy : Nat → ClassId} {A : Nat → Prop} {nL cells slots pc : Nat} {S : HS} {lc : List (Option Value)} {st : List Value} {a r k t : Nat} {lo hi : Int} (h : pq_R S a r) (hr : r < 100) (ht : pq_ft r k = (t + 3, lo, hi)) (kk : ∀ b, hO S a k = .ref b → pq_R S b t → pq_At p l e R s m args below meth c Q D cy A nL cells slots pc S lc st) : pq_At p l e R s m args below meth c Q D cy A nL cells slots pc S lc st := fun H locs ls hT hP hD hS hl => by
  have h1 := hT.1 a r h hr k
  rw [ht] at h1
  obtain ⟨-, b, hb, hb2⟩ := h1
  exact kk b hb hb2 H locs ls hT hP hD hS hl
theorem pq_intF {p : Program} {l : Launch} {e : Env} {R : Room} {s : State} {m : MethodId} {args : Array Value} {below : List Frame} {meth : Method} {c : Code} {Q : State → Prop} {D : va_G} {cy : Nat → ClassId} {A : Nat → Prop} {nL cells slots pc : Nat} {S : HS} {lc : List (Option Value)} {st : List Value} {a r k : Nat} {lo hi : Int} (h : pq_R S a r) (hr : r < 100) (ht : pq_ft r k = (1, lo, hi)) (kk : ∀ x : Int32, hO S a k = .int x → lo ≤ x.toInt → x.toInt ≤ hi → pq_At p l e R s m args below meth c Q D cy A nL cells slots pc S lc st) : pq_At p l e R s m args below meth c Q D cy A nL cells slots pc S lc st := fun H locs ls hT hP hD hS hl => by
  have h1 := hT.1 a r h hr k
  rw [ht] at h1
  obtain ⟨x, hb, h2, h3⟩ := h1
  exact kk x hb h2 h3 H locs ls hT hP hD hS hl
/-- where each mask's byte stands, of the first n instructions: something stands behind it -/
def pq_wr (f g w : Nat → Int32) (n : Int) (m : Nat) : Prop := ∀ j p : Nat, (j : Int) < n → f j = 0 → (g j).toInt = (p : Int) → 0 ≤ (w p).toInt ∧ (w p).toInt + 1 < (m : Int)
theorem pq_wr.no {f g w : Nat → Int32} {m : Nat} {i : Int32} (H : pq_wr f g w i.toInt m) (h0 : 0 ≤ i.toInt) (h : ¬ f i.toNatClampNeg = 0) : pq_wr f g w (i.toInt + 1) m := fun j p hj hf hg => by
  have := pq_cl h0
  by_cases e : j = i.toNatClampNeg
  · rw [e] at hf; exact absurd hf h
  · exact H j p (by omega) hf hg
theorem pq_wr.one {f g w : Nat → Int32} {m : Nat} {i x : Int32} (H : pq_wr f g w i.toInt m) (h0 : 0 ≤ i.toInt) (hx : x = g i.toNatClampNeg) (hx0 : 0 ≤ x.toInt) (h1 : i.toInt + 1 < (m : Int)) : pq_wr f g (upd w x.toNatClampNeg i) (i.toInt + 1) m := fun j p hj hf hg => by
  have c1 := pq_cl h0
  have c2 := pq_cl hx0
  by_cases e : p = x.toNatClampNeg
  · rw [e, pk_us]; omega
  · rw [pk_un e]
    refine H j p ?_ hf hg
    have : j ≠ i.toNatClampNeg := fun z => e (by rw [z, ← hx] at hg; omega)
    omega
theorem pq_wr.lk {f g w : Nat → Int32} {n mk : Nat} (H : pq_wr f g w (n : Int) n) (hp : pq_Pf f g n mk) {p : Int32} (h0 : 0 ≤ p.toInt) (h1 : p.toInt < (mk : Int)) : 0 ≤ (w p.toNatClampNeg).toInt ∧ (w p.toNatClampNeg).toInt + 1 < (n : Int) := by
  have c := pq_cl h0
  obtain ⟨i, a1, a2, a3⟩ := (hp.2.2 p.toNatClampNeg (by omega)).1
  exact H i p.toNatClampNeg (by omega) a2 a3
/-- the kinds while they are found: kd the old kinds, nk the new ones of the first n states, fi the first of each of the kn kinds -/
def pq_fk (kd nk fi lv : Nat → Int32) (n kn : Int) : Prop := (∀ s : Nat, (s : Int) < n → ¬ lv s = 0 → 0 ≤ (nk s).toInt ∧ (nk s).toInt < kn ∧ kd (fi (nk s).toNatClampNeg).toNatClampNeg = kd s) ∧ ∀ k : Nat, (k : Int) < kn → 0 ≤ (fi k).toInt ∧ (fi k).toInt < n ∧ ¬ lv (fi k).toNatClampNeg = 0 ∧ (nk (fi k).toNatClampNeg).toInt = (k : Int)
theorem pq_fk.zero {kd nk fi lv : Nat → Int32} : pq_fk kd nk fi lv 0 0 := ⟨fun s hs => absurd hs (by omega), fun s hs => absurd hs (by omega)⟩
theorem pq_fk.skip {kd nk fi lv : Nat → Int32} {s : Int32} {kn : Int} (H : pq_fk kd nk fi lv s.toInt kn) (h0 : 0 ≤ s.toInt) (h : lv s.toNatClampNeg = 0) : pq_fk kd nk fi lv (s.toInt + 1) kn := by
  have c := pq_cl h0
  refine ⟨fun t ht hl => ?_, fun k hk => ?_⟩
  · by_cases e : t = s.toNatClampNeg
    · rw [e] at hl; exact absurd h hl
    · exact H.1 t (by omega) hl
  · have := H.2 k hk
    exact ⟨this.1, by omega, this.2.2⟩
theorem pq_fk.old {kd nk fi lv : Nat → Int32} {s k : Int32} {kn : Int} (H : pq_fk kd nk fi lv s.toInt kn) (h0 : 0 ≤ s.toInt) (k0 : 0 ≤ k.toInt) (k1 : k.toInt < kn) (he : kd (fi k.toNatClampNeg).toNatClampNeg = kd s.toNatClampNeg) : pq_fk kd (upd nk s.toNatClampNeg k) fi lv (s.toInt + 1) kn := by
  have c := pq_cl h0
  refine ⟨fun t ht hl => ?_, fun j hj => ?_⟩
  · by_cases e : t = s.toNatClampNeg
    · rw [e, pk_us]; exact ⟨k0, k1, he⟩
    · rw [pk_un e]; exact H.1 t (by omega) hl
  · have h := H.2 j hj
    have c2 := pq_cl h.1
    rw [pk_un (show (fi j).toNatClampNeg ≠ s.toNatClampNeg by omega)]
    exact ⟨h.1, by omega, h.2.2⟩
theorem pq_fk.new {kd nk fi lv : Nat → Int32} {s k : Int32} (H : pq_fk kd nk fi lv s.toInt k.toInt) (h0 : 0 ≤ s.toInt) (k0 : 0 ≤ k.toInt) (h : ¬ lv s.toNatClampNeg = 0) : pq_fk kd (upd nk s.toNatClampNeg k) (upd fi k.toNatClampNeg s) lv (s.toInt + 1) (k.toInt + 1) := by
  have c := pq_cl h0
  have ck := pq_cl k0
  refine ⟨fun t ht hl => ?_, fun j hj => ?_⟩
  · by_cases e : t = s.toNatClampNeg
    · rw [e, pk_us, pk_us]; exact ⟨k0, by omega, rfl⟩
    · have a := H.1 t (by omega) hl
      have ca := pq_cl a.1
      rw [pk_un e, pk_un (show (nk t).toNatClampNeg ≠ k.toNatClampNeg by omega)]
      exact ⟨a.1, by omega, a.2.2⟩
  · by_cases e : j = k.toNatClampNeg
    · rw [e, pk_us, pk_us]; exact ⟨h0, by omega, h, by omega⟩
    · have a := H.2 j (by omega)
      have ca := pq_cl a.1
      rw [pk_un e, pk_un (show (fi j).toNatClampNeg ≠ s.toNatClampNeg by omega)]
      exact ⟨a.1, by omega, a.2.2⟩
/-- each of the kn kinds is some living state's -/
def pq_fw (kd lv : Nat → Int32) (ns kn : Int) : Prop := ∃ w : Nat → Nat, ∀ k : Nat, (k : Int) < kn → (w k : Int) < ns ∧ ¬ lv (w k) = 0 ∧ (kd (w k)).toInt = (k : Int)
theorem pq_fw.le {kd nk fi lv : Nat → Int32} {ns k0 kn : Int} (H : pq_fw kd lv ns k0) (h : pq_fk kd nk fi lv ns kn) (h0 : 0 ≤ k0) (hkn : 0 ≤ kn) : k0 ≤ kn := by
  obtain ⟨w, hw⟩ := H
  have key := pq_pg kn.toNat k0.toNat (fun i => (nk (w i)).toNatClampNeg) (fun i hi => ?_) (fun i j hij hj => ?_)
  · omega
  · have a := hw i (by omega)
    have b := h.1 (w i) a.1 a.2.1
    have c := pq_cl b.1
    show (nk (w i)).toNatClampNeg < kn.toNat
    omega
  · intro e
    have a1 := hw i (by omega)
    have a2 := hw j (by omega)
    have b1 := h.1 (w i) a1.1 a1.2.1
    have b2 := h.1 (w j) a2.1 a2.2.1
    have e2 : (nk (w i)).toNatClampNeg = (nk (w j)).toNatClampNeg := e
    have e3 : kd (w i) = kd (w j) := by rw [← b1.2.2, ← b2.2.2, e2]
    have := a1.2.2
    rw [e3, a2.2.2] at this
    omega
/-- how long the kinds may still go on: bf the number before, kn the number now -/
def pq_fm (kd lv : Nat → Int32) (ns bf kn : Int) (md : Nat) : Prop := (bf = 0 ∧ kn = 1 ∧ md = 1000) ∨ (kn = 0 ∧ bf = 1 ∧ md = 999) ∨ (bf ≤ kn ∧ (md : Int) = 500 - bf ∧ pq_fw kd lv ns kn)
theorem pq_fm.step {kd nk fi lv kd2 : Nat → Int32} {ns bf kn K : Int} {md : Nat} (H : pq_fm kd lv ns bf kn md) (hne : ¬ kn = bf) (h : pq_fk kd nk fi lv ns K) (he : ∀ s : Nat, (s : Int) < ns → kd2 s = nk s) (hk0 : 0 ≤ kn) (hk1 : kn ≤ 401) (hK : 0 ≤ K) : ∃ md2, md2 < md ∧ pq_fm kd2 lv ns kn K md2 := by
  have hw : pq_fw kd2 lv ns K := ⟨fun k => (fi k).toNatClampNeg, fun k hk => by
    have a := h.2 k hk
    have c := pq_cl a.1
    refine ⟨by show ((fi k).toNatClampNeg : Int) < ns; omega, a.2.2.1, ?_⟩
    show (kd2 (fi k).toNatClampNeg).toInt = (k : Int)
    rw [he _ (by omega)]; exact a.2.2.2⟩
  rcases H with ⟨a, b, c⟩ | ⟨a, b, c⟩ | ⟨a, b, c⟩
  · by_cases e : K = 0
    · exact ⟨999, by omega, Or.inr (Or.inl ⟨e, b, rfl⟩)⟩
    · exact ⟨499, by omega, Or.inr (Or.inr ⟨by omega, by omega, hw⟩)⟩
  · exact ⟨500, by omega, Or.inr (Or.inr ⟨by omega, by omega, hw⟩)⟩
  · have := c.le h hk0 hK
    exact ⟨(500 - kn).toNat, by omega, Or.inr (Or.inr ⟨by omega, by omega, hw⟩)⟩
/-- what build carries from state to state -/
def pq_Bd (f g : Nat → Int32) (S1 : HS) (a mn t kk wh hd ac : Nat) (ns : Int32) : Prop :=
  (hO S1 a 21 = .ref t ∧ pq_R S1 t 127 ∧ hO S1 a 22 = .ref kk ∧ pq_R S1 kk 128 ∧ hN S1 kk = hN S1 t) ∧ (hO S1 a 20 = .int ns ∧ 1 ≤ ns.toInt ∧ ns.toInt ≤ 401) ∧ pq_ch (hI S1 hd) (hI S1 ac) 1 ns.toInt ∧ pq_wr f g (hI S1 wh) (mn : Int) mn
theorem pq_Bd.fr {f g : Nat → Int32} {S1 S2 : HS} {a mn t kk wh hd ac : Nat} {ns : Int32} {M : List (Nat × Nat)} (H : pq_Bd f g S1 a mn t kk wh hd ac ns) (hF : pq_Fr M S1 S2) (ha : pq_R S1 a 14) (hhd : pq_R S1 hd 131) (hac : pq_R S1 ac 132) (hwh : pq_R S1 wh 130) (m1 : (14, 21) ∉ M) (m2 : (14, 22) ∉ M) (m3 : (14, 20) ∉ M) (m4 : (131, 0) ∉ M) (m5 : (132, 0) ∉ M) (m6 : (130, 0) ∉ M) : pq_Bd f g S2 a mn t kk wh hd ac ns := by
  obtain ⟨⟨a1, a2, a3, a4, a5⟩, ⟨b1, b2⟩, c, d⟩ := H
  refine ⟨⟨hF.O ha (by decide) m1 a1, hF.R a2 (by decide), hF.O ha (by decide) m2 a3, hF.R a4 (by decide), ?_⟩, ⟨hF.O ha (by decide) m3 b1, b2⟩, ?_, ?_⟩
  · rw [(hF.1 kk 128 a4 (by decide)).2, (hF.1 t 127 a2 (by decide)).2]; exact a5
  · rw [hF.I hhd (by decide) m4, hF.I hac (by decide) m5]; exact c
  · rw [hF.I hwh (by decide) m6]; exact d
theorem pq_Bd.bg {f g : Nat → Int32} {S1 S2 : HS} {a mn t kk wh hd ac t2 k2 : Nat} {ns : Int32} (H : pq_Bd f g S1 a mn t kk wh hd ac ns) (hF : pq_Fr [(14, 21), (14, 22), (14, 23), (14, 24)] S1 S2) (ha : pq_R S1 a 14) (hhd : pq_R S1 hd 131) (hac : pq_R S1 ac 132) (hwh : pq_R S1 wh 130) (h1 : hO S2 a 21 = .ref t2) (h2 : pq_R S2 t2 127) (h3 : hO S2 a 22 = .ref k2) (h4 : pq_R S2 k2 128) (h5 : hN S2 k2 = hN S2 t2) : pq_Bd f g S2 a mn t2 k2 wh hd ac ns := by
  obtain ⟨-, ⟨b1, b2⟩, c, d⟩ := H
  refine ⟨⟨h1, h2, h3, h4, h5⟩, ⟨hF.O ha (by decide) (by decide) b1, b2⟩, ?_, ?_⟩
  · rw [hF.I hhd (by decide) (by decide), hF.I hac (by decide) (by decide)]; exact c
  · rw [hF.I hwh (by decide) (by decide)]; exact d
theorem pq_Bd.st {f g : Nat → Int32} {S1 S2 : HS} {a mn t kk wh hd ac : Nat} {ns n2 : Int32} (H : pq_Bd f g S1 a mn t kk wh hd ac ns) (hF : pq_Fr [(182, 0), (132, 0), (131, 0), (14, 20)] S1 S2) (ha : pq_R S1 a 14) (hwh : pq_R S1 wh 130) (h1 : hO S2 a 20 = .int n2) (h2 : ns.toInt ≤ n2.toInt) (h3 : n2.toInt ≤ 401) (h4 : pq_ch (hI S2 hd) (hI S2 ac) 1 n2.toInt) : pq_Bd f g S2 a mn t kk wh hd ac n2 := by
  obtain ⟨⟨a1, a2, a3, a4, a5⟩, ⟨b1, b2, b3⟩, c, d⟩ := H
  refine ⟨⟨hF.O ha (by decide) (by decide) a1, hF.R a2 (by decide), hF.O ha (by decide) (by decide) a3, hF.R a4 (by decide), ?_⟩, ⟨h1, by omega, h3⟩, h4, ?_⟩
  · rw [(hF.1 kk 128 a4 (by decide)).2, (hF.1 t 127 a2 (by decide)).2]; exact a5
  · rw [hF.I hwh (by decide) (by decide)]; exact d

