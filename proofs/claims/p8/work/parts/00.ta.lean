/-! ===== the rows that the reference lays, against what is read ===== -/
def tk_P (f g : Nat → Int32) : tq_P := fun k => ((f k).toInt.toNat, (g k).toInt)
def tk_n (G : Nat → Int32) (d : Nat) : Nat := (G d).toInt.toNat
theorem tk_P.e {f g f2 g2 : Nat → Int32} {i j : Nat} (h : f2 i = f j ∧ g2 i = g j) : tk_P f2 g2 i = tk_P f g j := by
  unfold tk_P
  rw [h.1, h.2]
theorem tk_P.v {f g : Nat → Int32} {i : Nat} {v : Int32} {n : Nat} {x : Int} (h1 : f i = v) (hv : v.toInt = (n : Int)) (h2 : (g i).toInt = x) : tk_P f g i = (n, x) := by
  unfold tk_P
  rw [h1, h2, hv]
  rfl
def tk_how (how : Int32) (A : tq_E) (F : Nat → Nat → Prop) : Prop := (how = 0 ∨ how = 42 ∨ how = 43 ∨ how = 63) ∧ ((how = 42 ∨ how = 43) → ∀ p q, A.2.2 p → A.1 q → F p q) ∧ ((how = 42 ∨ how = 63) → A.2.1)
def tk_Q (T : Nat → Int32) (n : Nat) (f g G C hE : Nat → Int32) (lo hi : Nat → Int64) (Ls : Nat → List Nat) (D mn mk : Nat) (am how : Int32) (k : Nat) : Prop :=
  ∃ (fu : Nat) (pd : Bool) (a : Nat) (ce se : Nat → tq_E) (A : tq_E) (F : Nat → Nat → Prop) (mf : Nat → tr_M),
    (tr_all T n = tr_run T n fu k D mk mf pd ce se A F ∧ n + 1 ≤ k + fu ∧ k ≤ n) ∧ tq_I (tk_P f g) mn D (tk_n G) (tk_n C) Ls a ce se A mk F ∧
    ((pd = false ∧ am = -1 ∧ a = mn ∧ A = tq_e1) ∨ (pd = true ∧ am.toInt = (a : Int) ∧ tk_how how A F)) ∧ (∀ d, d ≤ D → hE d = 1 → (ce d).2.1) ∧ ∀ p, p < mk → mf p = (lo p, hi p)
theorem tq_I.cg {P : tq_P} {m dep : Nat} {g c g' c' : Nat → Nat} {CL CL' : Nat → List Nat} {a : Nat} {ce se ce' se' : Nat → tq_E} {A : tq_E} {n : Nat} {F : Nat → Nat → Prop} (h : tq_I P m dep g c CL a ce se A n F) (hg : ∀ d, d ≤ dep → g' d = g d ∧ c' d = c d ∧ CL' d = CL d ∧ ce' d = ce d ∧ se' d = se d) : tq_I P m dep g' c' CL' a ce' se' A n F := by
  have hJ : ∀ k, tq_J CL' dep k ↔ tq_J CL dep k := fun k => ⟨fun ⟨d, d1, d2⟩ => ⟨d, d1, by rw [← (hg d d1).2.2.1]; exact d2⟩, fun ⟨d, d1, d2⟩ => ⟨d, d1, by rw [(hg d d1).2.2.1]; exact d2⟩⟩
  have hJe : tq_J CL' dep = tq_J CL dep := funext fun k => propext (hJ k)
  obtain ⟨h1, h2, h3, h4, h5, h6, h7⟩ := h
  refine ⟨fun d hd => ?_, by rw [hJe]; exact h2, fun d hd j hj => ?_, h4, h5, h6, by rw [(hg 0 (Nat.zero_le _)).1]; exact h7⟩
  · obtain ⟨e1, e2, e3, e4, e5⟩ := hg d hd
    have ee : tq_end g' dep a d = tq_end g dep a d := by
      unfold tq_end
      by_cases e : d < dep
      · rw [if_pos e, if_pos e, (hg (d + 1) (by omega)).1]
      · rw [if_neg e, if_neg e]
    rw [hJe, e1, e2, e4, e5, ee]
    exact h1 d hd
  · obtain ⟨e1, e2, e3, e4, e5⟩ := hg d hd
    rw [e3] at hj
    rw [e1, e2]
    exact h3 d hd j hj
/-- the atom joined, as the reading names it -/
theorem tq_I.fo {P : tq_P} {m dep : Nat} {g c : Nat → Nat} {CL : Nat → List Nat} {a : Nat} {ce se : Nat → tq_E} {A : tq_E} {n : Nat} {F : Nat → Nat → Prop} (h : tq_I P m dep g c CL a ce se A n F) : tq_I P m dep g c CL m ce (tr_up se dep (tq_ap (se dep) A)) tq_e1 n (tq_li F (se dep) A) :=
  h.fold (fun _ hd => tr_upn (Nat.ne_of_lt hd)) tr_ups
theorem tk_Q.start {T : Nat → Int32} {n : Nat} {f g G C hE : Nat → Int32} {lo hi : Nat → Int64} {x : Int32} (hx : x.toInt = 0) : tk_Q T n f g (upd G 0 x) (upd C 0 x) (upd hE 0 0) lo hi (fun _ => []) 0 0 0 (-1) 0 0 := by
  have e : ∀ G : Nat → Int32, tk_n (upd G 0 x) 0 = 0 := fun G => by unfold tk_n; rw [pk_us, hx]; rfl
  refine ⟨n + 1, false, 0, fun _ => tq_e0, fun _ => tq_e1, tq_e1, fun _ _ => False, fun _ => (0, 0), ⟨rfl, by omega, Nat.zero_le _⟩, tq_I.beg ⟨e G, e C, rfl, rfl, rfl⟩ (fun _ _ h => h), Or.inl ⟨rfl, rfl, rfl, rfl⟩, fun d hd z => ?_, fun p hp => absurd hp (Nat.not_lt_zero _)⟩
  have : d = 0 := by omega
  subst this
  rw [pk_us] at z
  exact absurd z (by decide)
theorem tk_fu {n k fu : Nat} (h : n + 1 ≤ k + fu) (hk : k ≤ n) : ∃ f, fu = f + 1 := ⟨fu - 1, by omega⟩
section TK
variable {T : Nat → Int32} {n : Nat} {f g G C hE : Nat → Int32} {lo hi : Nat → Int64} {Ls : Nat → List Nat} {D mn mk : Nat} {am how : Int32} {k : Nat}
theorem tk_Q.opn (h : tk_Q T n f g G C hE lo hi Ls D mn mk am how k) (hk : k < n) (hc : T k = 40) (hD : D ≠ 40) {x : Int32} (hx : x.toInt = (mn : Int)) : tk_Q T n f g (upd G (D + 1) x) (upd C (D + 1) x) (upd hE (D + 1) 0) lo hi (fun d => if d = D + 1 then [] else Ls d) (D + 1) mn mk (-1) how (k + 1) := by
  obtain ⟨fu, pd, a, ce, se, A, F, mf, ⟨h1, h2, h3⟩, h4, h5, h6, h7⟩ := h
  obtain ⟨fu, rfl⟩ := tk_fu h2 h3
  rw [tr_run.lp hk hc hD] at h1
  have en : ∀ G : Nat → Int32, tk_n (upd G (D + 1) x) (D + 1) = mn := fun G => by unfold tk_n; rw [pk_us, hx]; rfl
  have eo : ∀ (G : Nat → Int32) (d : Nat), d ≤ D → tk_n (upd G (D + 1) x) d = tk_n G d := fun G d hd => by unfold tk_n; rw [pk_un (by omega)]
  refine ⟨fu, false, mn, _, _, tq_e1, _, mf, ⟨h1, by omega, by omega⟩, h4.fo.lp (fun d hd => ⟨eo G d hd, eo C d hd, if_neg (by omega), tr_upn (by omega), tr_upn (by omega)⟩) ⟨en G, en C, if_pos rfl, tr_ups, tr_ups⟩, Or.inl ⟨rfl, rfl, rfl, rfl⟩, fun d hd z => ?_, h7⟩
  by_cases e : d = D + 1
  · subst e
    rw [pk_us] at z
    exact absurd z (by decide)
  · rw [pk_un e] at z
    rw [tr_upn e]
    exact h6 d (by omega) z
theorem tk_Q.opnb (h : tk_Q T n f g G C hE lo hi Ls D mn mk am how k) (hk : k < n) (hc : T k = 40) (hD : D = 40) : tr_all T n = Sum.inl k := by
  obtain ⟨fu, pd, a, ce, se, A, F, mf, ⟨h1, h2, h3⟩, h4, h5, h6, h7⟩ := h
  obtain ⟨fu, rfl⟩ := tk_fu h2 h3
  rwa [tr_run.lpb hk hc hD] at h1
theorem tk_Q.close {g2 : Nat → Int32} (h : tk_Q T n f g G C hE lo hi Ls (D + 1) mn mk am how k) (hk : k < n) (hc : T k = 41) (h1 : ∀ i, i ∉ Ls (D + 1) → g2 i = g i) (h2 : ∀ i ∈ Ls (D + 1), (i : Int) + (g2 i).toInt = (mn : Int)) (hG : 0 ≤ (G (D + 1)).toInt) : tk_Q T n f g2 G C hE lo hi Ls D mn mk (G (D + 1)) 0 (k + 1) := by
  obtain ⟨fu, pd, a, ce, se, A, F, mf, ⟨a1, a2, a3⟩, h4, h5, h6, h7⟩ := h
  obtain ⟨fu, rfl⟩ := tk_fu a2 a3
  rw [tr_run.rp hk hc (Nat.succ_ne_zero D)] at a1
  have hf := h4.fo
  have r2 : ∀ i ∈ Ls (D + 1), tk_P f g2 i = (2, (mn : Int) - i) := fun i hi => by
    have := (hf.2.2.1 (D + 1) (Nat.le_refl _) i hi).2.2
    have e := h2 i hi
    exact Prod.ext this (by show (g2 i).toInt = (mn : Int) - i; omega)
  have r1 : ∀ i, i < mn → i ∉ Ls (D + 1) → tk_P f g2 i = tk_P f g i := fun i _ hi => tk_P.e ⟨rfl, h1 i hi⟩
  have hr := hf.rp r2 r1
  refine ⟨fu, true, tk_n G (D + 1), ce, se, _, _, mf, ⟨a1, by omega, by omega⟩, (by rw [tr_ups] at hr; exact hr.cg (fun d hd => ⟨rfl, rfl, rfl, rfl, (tr_upn (by omega)).symm⟩)), Or.inr ⟨rfl, (by show (G (D + 1)).toInt = ((G (D + 1)).toInt.toNat : Int); omega), ⟨Or.inl rfl, fun z => absurd z (by decide), fun z => absurd z (by decide)⟩⟩, fun d hd z => h6 d (by omega) z, h7⟩
theorem tk_Q.closeb (h : tk_Q T n f g G C hE lo hi Ls 0 mn mk am how k) (hk : k < n) (hc : T k = 41) : tr_all T n = Sum.inl k := by
  obtain ⟨fu, pd, a, ce, se, A, F, mf, ⟨h1, h2, h3⟩, h4, h5, h6, h7⟩ := h
  obtain ⟨fu, rfl⟩ := tk_fu h2 h3
  rwa [tr_run.rpb hk hc] at h1
theorem tk_nil {P : tq_P} {J : Nat → Prop} {i : Nat} {F : Nat → Nat → Prop} {E : tq_E} (h : tq_K P J i i F E) : E = tq_e1 := by
  obtain ⟨w, ⟨a1, a2, -⟩, ⟨a4, -⟩, -⟩ := h
  refine Prod.ext (funext fun q => propext ⟨fun z => ?_, False.elim⟩) (Prod.ext (propext ⟨fun _ => trivial, fun _ => a2.mpr tq_rc.rf⟩) (funext fun q => propext ⟨fun z => ?_, False.elim⟩))
  · obtain ⟨x, b1, b2, _⟩ := (a1 q).mp z
    omega
  · obtain ⟨x, b1, b2, _⟩ := a4 q z
    omega
/-- | and rows -/
theorem tk_Q.alt {f2 g2 hE2 : Nat → Int32} (h : tk_Q T n f g G C hE lo hi Ls D mn mk am how k) (hk : k < n) (hc : T k = 124) {q : Nat} (hq : (q : Int) = (C D).toInt) (h1 : ∀ i, i < q → f2 i = f i ∧ g2 i = g i) (h2 : ∀ i, q ≤ i → i < mn → f2 (i + 1) = f i ∧ g2 (i + 1) = g i) (h3 : f2 q = 1) (h4 : (q : Int) + (g2 q).toInt = (mn : Int) + 2) (h5 : f2 (mn + 1) = 2) {y : Int32} (hy : y.toInt = (mn : Int) + 2) (hE1 : ∀ d, d ≠ D → hE2 d = hE d) (hE3 : hE2 D = 1 → hE D = 1 ∨ (C D).toInt = (mn : Int)) : tk_Q T n f2 g2 G (upd C D y) hE2 lo hi (fun d => if d = D then (mn + 1) :: Ls D else Ls d) D (mn + 2) mk (-1) how (k + 1) := by
  obtain ⟨fu, pd, a, ce, se, A, F, mf, ⟨a1, a2, a3⟩, b4, b5, b6, b7⟩ := h
  obtain ⟨fu, rfl⟩ := tk_fu a2 a3
  rw [tr_run.bar hk hc] at a1
  have hf := b4.fo
  have eq : tk_n C D = q := by unfold tk_n; rw [← hq]; rfl
  have en : tk_n (upd C D y) D = mn + 2 := by unfold tk_n; rw [pk_us, hy]; omega
  have eo : ∀ d, d ≠ D → tk_n (upd C D y) d = tk_n C d := fun d hd => by unfold tk_n; rw [pk_un hd]
  have hb := hf.bar (P' := tk_P f2 g2) (c' := tk_n (upd C D y)) (CL' := fun d => if d = D then (mn + 1) :: Ls D else Ls d) (ce' := tr_up ce D (tq_or (ce D) (tq_ap (se D) A))) (se' := tr_up se D tq_e1) (x := (g2 (mn + 1)).toInt)
    (fun i hi => tk_P.e (h1 i (by omega))) (by rw [eq]; exact tk_P.v h3 rfl (by omega)) (fun i z1 z2 => tk_P.e (h2 i (by omega) z2)) (tk_P.v h5 rfl rfl)
    (fun d hd => ⟨eo d (by omega), if_neg (by omega), tr_upn (by omega), (tr_upn (by omega)).trans (tr_upn (by omega)).symm⟩) ⟨en, if_pos rfl, by rw [tr_ups, tr_ups], tr_ups⟩
  refine ⟨fu, false, mn + 2, _, _, tq_e1, _, mf, ⟨a1, by omega, by omega⟩, hb, Or.inl ⟨rfl, rfl, rfl, rfl⟩, fun d hd z => ?_, b7⟩
  by_cases e : d = D
  · subst e
    rw [tr_ups]
    rcases hE3 z with z | z
    · exact Or.inl (b6 d hd z)
    · obtain ⟨-, -, -, hK⟩ := hf.1 d hd
      unfold tq_end at hK
      rw [if_neg (Nat.lt_irrefl _), tr_ups] at hK
      have e2 : tk_n C d = mn := by omega
      rw [e2] at hK
      have := tk_nil hK
      exact Or.inr (by rw [this]; exact trivial)
  · rw [tr_upn e]
    exact b6 d hd (by rw [← hE1 d e]; exact z)
theorem tq_or1 {a : tq_E} (h : a.2.1) : tq_or a tq_e1 = a :=
  Prod.ext (funext fun q => propext ⟨fun z => z.elim id False.elim, Or.inl⟩) (Prod.ext (propext ⟨fun _ => h, Or.inl⟩) (funext fun q => propext ⟨fun z => z.elim id False.elim, Or.inl⟩))
/-- | and no rows -/
theorem tk_Q.alt0 {hE2 : Nat → Int32} (h : tk_Q T n f g G C hE lo hi Ls D mn mk am how k) (hk : k < n) (hc : T k = 124) (h1 : (C D).toInt = (mn : Int)) (h2 : hE D = 1) (hE1 : ∀ d, d ≠ D → hE2 d = hE d) : tk_Q T n f g G C hE2 lo hi Ls D mn mk (-1) how (k + 1) := by
  obtain ⟨fu, pd, a, ce, se, A, F, mf, ⟨a1, a2, a3⟩, b4, b5, b6, b7⟩ := h
  obtain ⟨fu, rfl⟩ := tk_fu a2 a3
  rw [tr_run.bar hk hc] at a1
  have hf := b4.fo
  obtain ⟨-, -, -, hK⟩ := hf.1 D (Nat.le_refl _)
  unfold tq_end at hK
  rw [if_neg (Nat.lt_irrefl _), tr_ups] at hK
  have e2 : tk_n C D = mn := by unfold tk_n; omega
  rw [e2] at hK
  have e3 := tk_nil hK
  have e4 : tq_or (ce D) (tq_ap (se D) A) = ce D := by rw [e3]; exact tq_or1 (b6 D (Nat.le_refl _) h2)
  have e5 : tr_up ce D (tq_or (ce D) (tq_ap (se D) A)) = ce := funext fun d => by
    by_cases e : d = D
    · subst e; rw [tr_ups, e4]
    · rw [tr_upn e]
  rw [e5] at a1
  rw [e3] at hf
  refine ⟨fu, false, mn, ce, _, tq_e1, _, mf, ⟨a1, by omega, by omega⟩, hf, Or.inl ⟨rfl, rfl, rfl, rfl⟩, fun d hd z => ?_, b7⟩
  by_cases e : d = D
  · subst e; exact b6 d hd h2
  · exact b6 d hd (by rw [← hE1 d e]; exact z)
theorem tk_Q.sgb (h : tk_Q T n f g G C hE lo hi Ls D mn mk (-1) how k) (hk : k < n) (hc : T k = 42 ∨ T k = 43 ∨ T k = 63) : tr_all T n = Sum.inl k := by
  obtain ⟨fu, pd, a, ce, se, A, F, mf, ⟨h1, h2, h3⟩, h4, h5, h6, h7⟩ := h
  obtain ⟨fu, rfl⟩ := tk_fu h2 h3
  rcases h5 with ⟨rfl, -⟩ | ⟨rfl, z, -⟩
  · rwa [tr_run.sgb hk hc] at h1
  · have : (-1 : Int32).toInt = -1 := rfl
    omega
theorem tk_liF {A : tq_E} {F : Nat → Nat → Prop} (h : ∀ p q, A.2.2 p → A.1 q → F p q) : tq_li F A A = F :=
  funext fun p => funext fun q => propext ⟨fun z => z.elim id (fun y => h p q y.1 y.2), Or.inl⟩
theorem tk_skA {A : tq_E} (h : A.2.1) : tq_sk A = A := Prod.ext rfl (Prod.ext (propext ⟨fun _ => h, fun _ => trivial⟩) rfl)
/-- a sign, in general: what the rows must have become -/
theorem tk_Q.sg {f2 g2 : Nat → Int32} {how2 : Int32} {mn2 : Nat} (h : tk_Q T n f g G C hE lo hi Ls D mn mk am how k) (hk : k < n) (hc : T k = 42 ∨ T k = 43 ∨ T k = 63) (ham : am ≠ -1)
    (hs : ∀ (a : Nat) (ce se : Nat → tq_E) (A : tq_E) (F : Nat → Nat → Prop), am.toInt = (a : Int) → tk_how how A F → tq_I (tk_P f g) mn D (tk_n G) (tk_n C) Ls a ce se A mk F → tq_I (tk_P f2 g2) mn2 D (tk_n G) (tk_n C) Ls a ce se (if T k = 43 then A else tq_sk A) mk (if T k = 63 then F else tq_li F A A) ∧ tk_how how2 (if T k = 43 then A else tq_sk A) (if T k = 63 then F else tq_li F A A)) : tk_Q T n f2 g2 G C hE lo hi Ls D mn2 mk am how2 (k + 1) := by
  obtain ⟨fu, pd, a, ce, se, A, F, mf, ⟨a1, a2, a3⟩, b4, b5, b6, b7⟩ := h
  obtain ⟨fu, rfl⟩ := tk_fu a2 a3
  rcases b5 with ⟨-, z, -⟩ | ⟨rfl, z, hw⟩
  · exact absurd z ham
  · rw [tr_run.sgn hk hc] at a1
    obtain ⟨c1, c2⟩ := hs a ce se A F z hw b4
    exact ⟨fu, true, a, ce, se, _, _, mf, ⟨a1, by omega, by omega⟩, c1, Or.inr ⟨rfl, z, c2⟩, b6, b7⟩
theorem tk_Q.same (h : tk_Q T n f g G C hE lo hi Ls D mn mk am how k) (hk : k < n) (hc : T k = 42 ∨ T k = 43 ∨ T k = 63) (ham : am ≠ -1) (hh : how = 42 ∨ how = T k) : tk_Q T n f g G C hE lo hi Ls D mn mk am how (k + 1) := by
  refine h.sg hk hc ham (fun a ce se A F _ hw hI => ?_)
  have e1 : (if T k = 43 then A else tq_sk A) = A := by
    by_cases e : T k = 43
    · rw [if_pos e]
    · rw [if_neg e]
      refine tk_skA (hw.2.2 ?_)
      rcases hh with z | z
      · exact Or.inl z
      · rcases hc with y | y | y
        · exact Or.inl (z.trans y)
        · exact absurd y e
        · exact Or.inr (z.trans y)
  have e2 : (if T k = 63 then F else tq_li F A A) = F := by
    by_cases e : T k = 63
    · rw [if_pos e]
    · rw [if_neg e]
      refine tk_liF (hw.2.1 ?_)
      rcases hh with z | z
      · exact Or.inl z
      · rcases hc with y | y | y
        · exact Or.inl (z.trans y)
        · exact Or.inr (z.trans y)
        · exact absurd y e
  rw [e1, e2]
  exact ⟨hI, hw⟩
theorem tk_Q.plus {f2 g2 : Nat → Int32} (h : tk_Q T n f g G C hE lo hi Ls D mn mk am how k) (hk : k < n) (hc : T k = 43) (ham : am ≠ -1) (hh : how ≠ 42 ∧ how ≠ 43) (h1 : ∀ i, i < mn → f2 i = f i ∧ g2 i = g i) (h2 : f2 mn = 1) (h3 : (g2 mn).toInt = am.toInt - (mn : Int)) : tk_Q T n f2 g2 G C hE lo hi Ls D (mn + 1) mk am (if how = 0 then 43 else 42) (k + 1) := by
  refine h.sg hk (Or.inr (Or.inl hc)) ham (fun a ce se A F e hw hI => ?_)
  rw [if_pos hc, if_neg (by rw [hc]; decide)]
  refine ⟨hI.plus (fun i hi => tk_P.e (h1 i hi)) (tk_P.v h2 rfl (by omega)), ?_⟩
  by_cases z : how = 0
  · rw [if_pos z]
    exact ⟨Or.inr (Or.inr (Or.inl rfl)), fun _ p q y1 y2 => Or.inr ⟨y1, y2⟩, fun y => absurd y (by decide)⟩
  · rw [if_neg z]
    refine ⟨Or.inr (Or.inl rfl), fun _ p q y1 y2 => Or.inr ⟨y1, y2⟩, fun _ => hw.2.2 (Or.inr ?_)⟩
    rcases hw.1 with y | y | y | y
    · exact absurd y z
    · exact absurd y hh.1
    · exact absurd y hh.2
    · exact y
theorem tk_Q.opt {f2 g2 : Nat → Int32} (h : tk_Q T n f g G C hE lo hi Ls D mn mk am how k) (hk : k < n) (hc : T k = 63) (ham : am ≠ -1) (hh : how ≠ 42 ∧ how ≠ 63) {q : Nat} (hq : (q : Int) = am.toInt) (h1 : ∀ i, i < q → f2 i = f i ∧ g2 i = g i) (h2 : ∀ i, q ≤ i → i < mn → f2 (i + 1) = f i ∧ g2 (i + 1) = g i) (h3 : f2 q = 1) (h4 : (q : Int) + (g2 q).toInt = (mn : Int) + 1) : tk_Q T n f2 g2 G C hE lo hi Ls D (mn + 1) mk am (if how = 0 then 63 else 42) (k + 1) := by
  refine h.sg hk (Or.inr (Or.inr hc)) ham (fun a ce se A F e hw hI => ?_)
  have eq : a = q := by omega
  subst eq
  rw [if_neg (by rw [hc]; decide), if_pos hc]
  refine ⟨hI.opt (fun i hi => tk_P.e (h1 i hi)) (tk_P.v h3 rfl (by omega)) (fun i z1 z2 => tk_P.e (h2 i z1 z2)), ?_⟩
  by_cases z : how = 0
  · rw [if_pos z]
    exact ⟨Or.inr (Or.inr (Or.inr rfl)), fun y => absurd y (by decide), fun _ => trivial⟩
  · rw [if_neg z]
    refine ⟨Or.inr (Or.inl rfl), fun _ => hw.2.1 (Or.inr ?_), fun _ => trivial⟩
    rcases hw.1 with y | y | y | y
    · exact absurd y z
    · exact absurd y hh.1
    · exact y
    · exact absurd y hh.2
theorem tk_Q.star {f2 g2 : Nat → Int32} {how2 : Int32} (h : tk_Q T n f g G C hE lo hi Ls D mn mk am how k) (hk : k < n) (hc : T k = 42) (ham : am ≠ -1) (hh : how2 = 42) {q : Nat} (hq : (q : Int) = am.toInt) (h1 : ∀ i, i < q → f2 i = f i ∧ g2 i = g i) (h2 : ∀ i, q ≤ i → i < mn → f2 (i + 1) = f i ∧ g2 (i + 1) = g i) (h3 : f2 q = 1) (h4 : (q : Int) + (g2 q).toInt = (mn : Int) + 2) (h5 : f2 (mn + 1) = 2) (h6 : (g2 (mn + 1)).toInt = (q : Int) - (mn : Int) - 1) : tk_Q T n f2 g2 G C hE lo hi Ls D (mn + 2) mk am how2 (k + 1) := by
  refine h.sg hk (Or.inl hc) ham (fun a ce se A F e hw hI => ?_)
  have eq : a = q := by omega
  subst eq
  rw [if_neg (by rw [hc]; decide), if_neg (by rw [hc]; decide), hh]
  exact ⟨hI.star (fun i hi => tk_P.e (h1 i hi)) (tk_P.v h3 rfl (by omega)) (fun i z1 z2 => tk_P.e (h2 i z1 z2)) (tk_P.v h5 rfl h6), Or.inr (Or.inl rfl), fun _ p q y1 y2 => Or.inr ⟨y1, y2⟩, fun _ => trivial⟩
theorem tk_Q.fub (h : tk_Q T n f g G C hE lo hi Ls D mn 400 am how k) (hk : k < n) (hc : tr_pl (T k)) : tr_all T n = Sum.inl k := by
  obtain ⟨fu, pd, a, ce, se, A, F, mf, ⟨h1, h2, h3⟩, h4, h5, h6, h7⟩ := h
  obtain ⟨fu, rfl⟩ := tk_fu h2 h3
  rwa [tr_run.fu hk hc] at h1
theorem tk_Q.plb {j : Nat} (h : tk_Q T n f g G C hE lo hi Ls D mn mk am how k) (hk : k < n) (hc : tr_pl (T k)) (hm : mk ≠ 400) (hs : tr_sg T n k = Sum.inl j) : tr_all T n = Sum.inl j := by
  obtain ⟨fu, pd, a, ce, se, A, F, mf, ⟨h1, h2, h3⟩, h4, h5, h6, h7⟩ := h
  obtain ⟨fu, rfl⟩ := tk_fu h2 h3
  rwa [tr_run.pb hk hc hm hs] at h1
theorem tk_Q.pl {f2 g2 : Nat → Int32} {lo2 hi2 : Nat → Int64} {j : Nat} {m : tr_M} {y : Int32} (h : tk_Q T n f g G C hE lo hi Ls D mn mk am how k) (hk : k < n) (hc : tr_pl (T k)) (hm : mk ≠ 400) (hs : tr_sg T n k = Sum.inr (j, m)) (h1 : ∀ i, i < mn → f2 i = f i ∧ g2 i = g i) (h2 : f2 mn = 0) (h3 : (g2 mn).toInt = (mk : Int)) (h4 : ∀ p, p < mk → lo2 p = lo p ∧ hi2 p = hi p) (h5 : lo2 mk = m.1) (h6 : hi2 mk = m.2) (hy : y.toInt = (mn : Int)) : tk_Q T n f2 g2 G C hE lo2 hi2 Ls D (mn + 1) (mk + 1) y 0 j := by
  obtain ⟨fu, pd, a, ce, se, A, F, mf, ⟨a1, a2, a3⟩, b4, b5, b6, b7⟩ := h
  obtain ⟨fu, rfl⟩ := tk_fu a2 a3
  rw [tr_run.p hk hc hm hs] at a1
  have ok := tr_sg.ok hk hs
  refine ⟨fu, true, mn, ce, _, _, _, _, ⟨a1, by omega, by omega⟩, b4.fo.one (fun i hi => tk_P.e (h1 i hi)) (tk_P.v h2 rfl h3), Or.inr ⟨rfl, hy, Or.inl rfl, fun z => absurd z (by decide), fun z => absurd z (by decide)⟩, b6, fun p hp => ?_⟩
  by_cases e : p = mk
  · subst e; rw [tr_ups, h5, h6]
  · rw [tr_upn e, (h4 p (by omega)).1, (h4 p (by omega)).2]
    exact b7 p (by omega)
theorem tk_Q.eb (h : tk_Q T n f g G C hE lo hi Ls D mn mk am how k) (hk : n ≤ k) (hD : D ≠ 0) : tr_all T n = Sum.inl n := by
  obtain ⟨fu, pd, a, ce, se, A, F, mf, ⟨h1, h2, h3⟩, h4, h5, h6, h7⟩ := h
  obtain ⟨fu, rfl⟩ := tk_fu h2 h3
  rwa [tr_run.zb hk hD] at h1
/-- what the rows are worth in the end -/
def tk_F (T : Nat → Int32) (n : Nat) (f g : Nat → Int32) (lo hi : Nat → Int64) (mn mk : Nat) (z : tr_Z) : Prop := tr_all T n = Sum.inr z ∧ z.1 = mk ∧ (∀ p, p < mk → z.2.1 p = (lo p, hi p)) ∧ tq_C (tk_P f g) 0 mn z.2.2.2 z.2.2.1.1 z.2.2.1.2.1 z.2.2.1.2.2
theorem tk_Q.fin {g2 f3 g3 : Nat → Int32} (h : tk_Q T n f g G C hE lo hi Ls 0 mn mk am how k) (hk : n ≤ k) (h1 : ∀ i, i ∉ Ls 0 → g2 i = g i) (h2 : ∀ i ∈ Ls 0, (i : Int) + (g2 i).toInt = (mn : Int)) (h3 : ∀ i, i < mn → f3 i = f i ∧ g3 i = g2 i) : ∃ z, tk_F T n f3 g3 lo hi mn mk z := by
  obtain ⟨fu, pd, a, ce, se, A, F, mf, ⟨a1, a2, a3⟩, b4, b5, b6, b7⟩ := h
  obtain ⟨fu, rfl⟩ := tk_fu a2 a3
  rw [tr_run.z hk] at a1
  have hf := b4.fo
  have lt : ∀ i ∈ Ls 0, i < mn := fun i hi => by
    have x1 := (hf.2.2.1 0 (Nat.le_refl _) i hi).2.1
    have x2 := (hf.gc (d := 0) (Nat.le_refl _)).2.2 rfl
    omega
  have r2 : ∀ i ∈ Ls 0, tk_P f3 g3 i = (2, (mn : Int) - i) := fun i hi => by
    have := (hf.2.2.1 0 (Nat.le_refl _) i hi).2.2
    have e := h2 i hi
    have e3 := h3 i (lt i hi)
    exact Prod.ext (by show (f3 i).toInt.toNat = 2; rw [e3.1]; exact this) (by show (g3 i).toInt = (mn : Int) - i; rw [e3.2]; omega)
  have r1 : ∀ i, i < mn → i ∉ Ls 0 → tk_P f3 g3 i = tk_P f g i := fun i hi hn => tk_P.e ⟨(h3 i hi).1, (h3 i hi).2.trans (h1 i hn)⟩
  have hl := hf.lnd r2 r1
  rw [tr_ups, hf.2.2.2.2.2.2] at hl
  exact ⟨_, a1, rfl, b7, hl⟩
end TK
