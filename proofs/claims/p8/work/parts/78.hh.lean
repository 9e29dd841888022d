/-! ===== telling the living states apart ===== -/
def tk_ki (lv kd : Nat → Int32) (t : Nat) : Int32 := if lv t = 0 then -1 else kd t
def tk_f (lv kd : Nat → Int32) (t : Nat) : Int := (tk_ki lv kd t).toInt
def tk_al (lv kd nx : Nat → Int32) (s t : Nat) : Prop := kd s = kd t ∧ ∀ b, b < 128 → tk_ki lv kd (tk_nx nx s b) = tk_ki lv kd (tk_nx nx t b)
theorem tk_al.rf {lv kd nx : Nat → Int32} {s : Nat} : tk_al lv kd nx s s := ⟨rfl, fun _ _ => rfl⟩
theorem tk_al.sy {lv kd nx : Nat → Int32} {s t : Nat} (h : tk_al lv kd nx s t) : tk_al lv kd nx t s := ⟨h.1.symm, fun b hb => (h.2 b hb).symm⟩
theorem tk_al.tr {lv kd nx : Nat → Int32} {s t u : Nat} (h : tk_al lv kd nx s t) (g : tk_al lv kd nx t u) : tk_al lv kd nx s u := ⟨h.1.trans g.1, fun b hb => (h.2 b hb).trans (g.2 b hb)⟩
def tk_mr (lv kd nx : Nat → Int32) (s : Nat) : Nat → Int32
  | 0 => kd s
  | b + 1 => 31 * tk_mr lv kd nx s b + tk_ki lv kd (tk_nx nx s b)
def tk_mo (lv kd nx : Nat → Int32) (s : Nat) : Int32 := (tk_mr lv kd nx s 128 ^^^ ((tk_mr lv kd nx s 128).toUInt32 >>> ((15 : Int32).toUInt32 &&& Int32.toUInt32 31)).toInt32) &&& 1023
theorem tk_mr.c {lv kd nx : Nat → Int32} {s t : Nat} (h : tk_al lv kd nx s t) : ∀ b, b ≤ 128 → tk_mr lv kd nx s b = tk_mr lv kd nx t b
  | 0, _ => h.1
  | b + 1, hb => by
    show 31 * tk_mr lv kd nx s b + tk_ki lv kd (tk_nx nx s b) = 31 * tk_mr lv kd nx t b + tk_ki lv kd (tk_nx nx t b)
    rw [tk_mr.c h b (by omega), h.2 b (by omega)]
theorem tk_mo.c {lv kd nx : Nat → Int32} {s t : Nat} (h : tk_al lv kd nx s t) : tk_mo lv kd nx s = tk_mo lv kd nx t := by
  unfold tk_mo
  rw [tk_mr.c h 128 (Nat.le_refl _)]
/-- numbers nk for the states below sv, the first of each in fi -/
def tk_Fk (lv kd nx nk fi : Nat → Int32) (sv kn : Nat) : Prop :=
  (∀ t, t < sv → lv t = 1 → ∃ k : Nat, (nk t).toInt = (k : Int) ∧ k < kn ∧ tk_al lv kd nx (tk_n fi k) t) ∧ (∀ k, k < kn → ∃ s : Nat, (fi k).toInt = (s : Int) ∧ s < sv ∧ lv s = 1 ∧ (nk s).toInt = (k : Int)) ∧ ∀ k k', k < kn → k' < kn → tk_al lv kd nx (tk_n fi k) (tk_n fi k') → k = k'
theorem tk_n.e {f : Nat → Int32} {k s : Nat} (h : (f k).toInt = (s : Int)) : tk_n f k = s := by unfold tk_n; rw [h]; rfl
section TF
variable {lv kd nx nk fi : Nat → Int32} {sv kn : Nat}
theorem tk_Fk.zero : tk_Fk lv kd nx nk fi 0 0 := ⟨fun t ht => absurd ht (Nat.not_lt_zero _), fun k hk => absurd hk (Nat.not_lt_zero _), fun k _ hk => absurd hk (Nat.not_lt_zero _)⟩
theorem tk_Fk.skip (h : tk_Fk lv kd nx nk fi sv kn) (h0 : lv sv = 0) : tk_Fk lv kd nx nk fi (sv + 1) kn := by
  refine ⟨fun t ht hl => h.1 t (by have hne : t ≠ sv := (fun e => (by rw [e, h0] at hl; exact absurd hl (by decide))); omega) hl, fun k hk => ?_, h.2.2⟩
  obtain ⟨s, a, b, c⟩ := h.2.1 k hk
  exact ⟨s, a, by omega, c⟩
theorem tk_Fk.old {q : Int32} {qn : Nat} (h : tk_Fk lv kd nx nk fi sv kn) (hq : q.toInt = (qn : Int)) (hk : qn < kn) (ha : tk_al lv kd nx (tk_n fi qn) sv) : tk_Fk lv kd nx (upd nk sv q) fi (sv + 1) kn := by
  refine ⟨fun t ht hl => ?_, fun k hk => ?_, h.2.2⟩
  · by_cases e : t = sv
    · subst e
      rw [pk_us]
      exact ⟨qn, hq, hk, ha⟩
    · rw [pk_un e]
      exact h.1 t (by omega) hl
  · obtain ⟨s, a, b, c, d⟩ := h.2.1 k hk
    exact ⟨s, a, by omega, c, by rw [pk_un (by omega)]; exact d⟩
theorem tk_Fk.new {q v : Int32} (h : tk_Fk lv kd nx nk fi sv kn) (hq : q.toInt = (kn : Int)) (hv : v.toInt = (sv : Int)) (hl : lv sv = 1) (ha : ∀ k, k < kn → ¬ tk_al lv kd nx (tk_n fi k) sv) : tk_Fk lv kd nx (upd nk sv q) (upd fi kn v) (sv + 1) (kn + 1) := by
  have en : tk_n (upd fi kn v) kn = sv := tk_n.e (by rw [pk_us]; exact hv)
  have eo : ∀ k, k < kn → tk_n (upd fi kn v) k = tk_n fi k := fun k hk => by unfold tk_n; rw [pk_un (by omega)]
  refine ⟨fun t ht hl => ?_, fun k hk => ?_, fun k k' hk hk' hh => ?_⟩
  · by_cases e : t = sv
    · subst e
      rw [pk_us]
      exact ⟨kn, hq, Nat.lt_succ_self _, by rw [en]; exact tk_al.rf⟩
    · rw [pk_un e]
      obtain ⟨k, a, b, c⟩ := h.1 t (by omega) hl
      exact ⟨k, a, by omega, by rw [eo k b]; exact c⟩
  · by_cases e : k = kn
    · subst e
      exact ⟨sv, by rw [pk_us]; exact hv, Nat.lt_succ_self _, hl, by rw [pk_us]; exact hq⟩
    · obtain ⟨s, a, b, c, d⟩ := h.2.1 k (by omega)
      exact ⟨s, by rw [pk_un e]; exact a, by omega, c, by rw [pk_un (by omega)]; exact d⟩
  · by_cases e : k = kn
    · by_cases e' : k' = kn
      · omega
      · subst e
        rw [en, eo k' (by omega)] at hh
        exact absurd hh.sy (ha k' (by omega))
    · by_cases e' : k' = kn
      · subst e'
        rw [en, eo k (by omega)] at hh
        exact absurd hh (ha k (by omega))
      · rw [eo k (by omega), eo k' (by omega)] at hh
        exact h.2.2 k k' (by omega) (by omega) hh
/-- alike: one number -/
theorem tk_Fk.eq (h : tk_Fk lv kd nx nk fi sv kn) {s t : Nat} (hs : s < sv) (ht : t < sv) (ls : lv s = 1) (lt : lv t = 1) : nk s = nk t ↔ tk_al lv kd nx s t := by
  obtain ⟨k, a1, a2, a3⟩ := h.1 s hs ls
  obtain ⟨k', b1, b2, b3⟩ := h.1 t ht lt
  constructor
  · intro e
    have : k = k' := by rw [e, b1] at a1; omega
    subst this
    exact a3.sy.tr b3
  · intro e
    have := h.2.2 k k' a2 b2 (a3.tr (e.tr b3.sy))
    subst this
    exact Int32.toInt_inj.mp (a1.trans b1.symm)
end TF
def tk_Hk (hd ac lv kd nx fi : Nat → Int32) (kn : Nat) : Prop := ∀ k, k < kn → tk_lk ac (hd (tk_mo lv kd nx (tk_n fi k)).toNatClampNeg) k
theorem tk_mob {lv kd nx : Nat → Int32} {s : Nat} : (tk_mo lv kd nx s).toNatClampNeg < 1024 := by
  have h := pq_and1023 (tk_mr lv kd nx s 128 ^^^ ((tk_mr lv kd nx s 128).toUInt32 >>> ((15 : Int32).toUInt32 &&& Int32.toUInt32 31)).toInt32)
  have z := pq_cl h.1
  have h2 := h.2
  unfold tk_mo
  omega
theorem tk_Hk.ins {hd ac lv kd nx fi : Nat → Int32} {kn sv : Nat} {q v : Int32} (H : tk_Hk hd ac lv kd nx fi kn) (hc : pq_ch hd ac 0 (kn : Int)) (hq : q.toInt = (kn : Int)) (hv : v.toInt = (sv : Int)) {hh : Nat} (eh : hh = (tk_mo lv kd nx sv).toNatClampNeg) : tk_Hk (upd hd hh q) (upd ac kn (hd hh)) lv kd nx (upd fi kn v) (kn + 1) := fun k hk => by
  by_cases e : k = kn
  · subst e
    have en : tk_n (upd fi k v) k = sv := tk_n.e (by rw [pk_us]; exact hv)
    rw [en, ← eh, pk_us]
    exact tk_lk.self hq
  · have eo : tk_n (upd fi kn v) k = tk_n fi k := by unfold tk_n; rw [pk_un e]
    rw [eo]
    exact tk_lk.ins (lo := 0) (n := kn) (fun u a b => by have := hc.2 u (by omega) (by omega); omega) (by have := hc.1 _ (tk_mob (lv := lv) (kd := kd) (nx := nx) (s := tk_n fi k)); omega) hq (H k (by omega))
/-- a numbering that tells apart no two that no text tells apart -/
def tk_J (z : tr_Z) (se : Nat → Int64) (lv kd : Nat → Int32) (ns m : Nat) : Prop :=
  (∀ s t, s < ns → t < ns → lv s = 1 → lv t = 1 → tp_q (tz_e z) (tz_ac z) (tk_bs se s) (tk_bs se t) → kd s = kd t) ∧ (∀ s t, s < ns → t < ns → lv s = 1 → lv t = 1 → kd s = kd t → (tz_ac z (tk_bs se s) ↔ tz_ac z (tk_bs se t))) ∧ (∀ s, s < ns → lv s = 1 → 0 ≤ (kd s).toInt) ∧
  (m ≤ 1 ∨ ((∀ j, j < m → ∃ s, s < ns ∧ lv s = 1 ∧ (kd s).toInt = (j : Int)) ∧ ∀ s, s < ns → lv s = 1 → (kd s).toInt < (m : Int)))
def tk_lvs (z : tr_Z) (se : Nat → Int64) (lv : Nat → Int32) (ns : Nat) : Prop := ∀ t, t < ns → (lv t = 0 ∨ lv t = 1) ∧ (lv t = 1 ↔ tp_l (tz_e z) (tz_ac z) (tk_bs se t))
section TJ
variable {z : tr_Z} {se : Nat → Int64} {nx lb lv kd nk fi : Nat → Int32} {ns m kn : Nat}
theorem tk_J.al (h : tk_J z se lv kd ns m) (hB : tk_B z se nx lb ns ns) (hl : tk_lvs z se lv ns) {s t : Nat} (hs : s < ns) (ht : t < ns) (ls : lv s = 1) (lt : lv t = 1) (hq : tp_q (tz_e z) (tz_ac z) (tk_bs se s) (tk_bs se t)) : tk_al lv kd nx s t := by
  refine ⟨h.1 s t hs ht ls lt hq, fun b hb => ?_⟩
  have q2 := tp_qs hB.n hs ht hb hq
  have n1 := (hB.n s b hs hb).1
  have n2 := (hB.n t b ht hb).1
  have e := q2.l
  rw [← (hl _ n1).2, ← (hl _ n2).2] at e
  unfold tk_ki
  rcases (hl _ n1).1 with a | a
  · have a2 : lv (tk_nx nx t b) = 0 := (hl _ n2).1.resolve_right (fun w => by rw [e.mpr w] at a; exact absurd a (by decide))
    rw [if_pos a, if_pos a2]
  · have a2 := e.mp a
    rw [if_neg (by rw [a]; decide), if_neg (by rw [a2]; decide)]
    exact h.1 _ _ n1 n2 a a2 q2
theorem tk_J.step (h : tk_J z se lv kd ns m) (hB : tk_B z se nx lb ns ns) (hl : tk_lvs z se lv ns) (hF : tk_Fk lv kd nx nk fi ns kn) : tk_J z se lv nk ns kn := by
  refine ⟨fun s t hs ht ls lt hq => (hF.eq hs ht ls lt).mpr (h.al hB hl hs ht ls lt hq), fun s t hs ht ls lt e => h.2.1 s t hs ht ls lt ((hF.eq hs ht ls lt).mp e).1, fun s hs ls => ?_, Or.inr ⟨fun j hj => ?_, fun s hs ls => ?_⟩⟩
  · obtain ⟨k, a, -⟩ := hF.1 s hs ls
    omega
  · obtain ⟨s, -, b, c, d⟩ := hF.2.1 j hj
    exact ⟨s, b, c, d⟩
  · obtain ⟨k, a, b, -⟩ := hF.1 s hs ls
    omega
theorem tk_J.cg {kd2 : Nat → Int32} (h : tk_J z se lv kd ns m) (he : ∀ s, s < ns → kd2 s = kd s) : tk_J z se lv kd2 ns m := by
  refine ⟨fun s t hs ht ls lt hq => by rw [he s hs, he t ht]; exact h.1 s t hs ht ls lt hq, fun s t hs ht ls lt e => h.2.1 s t hs ht ls lt (by rw [← he s hs, ← he t ht]; exact e), fun s hs ls => by rw [he s hs]; exact h.2.2.1 s hs ls, h.2.2.2.imp id (fun ⟨a, b⟩ => ⟨fun j hj => ?_, fun s hs ls => by rw [he s hs]; exact b s hs ls⟩)⟩
  obtain ⟨s, x, y, w⟩ := a j hj
  exact ⟨s, x, y, by rw [he s x]; exact w⟩
theorem tk_J.start (hB : tk_B z se nx lb ns ns) (h : ∀ s, s < ns → kd s = lb s + 1) : tk_J z se lv kd ns 1 := by
  have key : ∀ s, s < ns → (kd s = 1 ↔ tz_ac z (tk_bs se s)) ∧ (kd s = 0 ∨ kd s = 1) := fun s hs => by
    rw [hB.ac s hs, h s hs]
    rcases (hB.2.2.2 s hs).1 with e | e
    · rw [e]; exact ⟨⟨fun _ => rfl, fun _ => rfl⟩, Or.inr rfl⟩
    · rw [e]; exact ⟨⟨fun w => absurd w (by decide), fun w => absurd w (by decide)⟩, Or.inl rfl⟩
  refine ⟨fun s t hs ht ls lt hq => ?_, fun s t hs ht ls lt e => ?_, fun s hs ls => ?_, Or.inl (Nat.le_refl _)⟩
  · have e := hq.ac
    rw [← (key s hs).1, ← (key t ht).1] at e
    rcases (key s hs).2 with a | a <;> rcases (key t ht).2 with b | b
    · rw [a, b]
    · rw [b, e.mpr b]
    · rw [a, e.mp a]
    · rw [a, b]
  · rw [← (key s hs).1, ← (key t ht).1, e]
  · rcases (key s hs).2 with a | a <;> rw [a] <;> decide
/-- as many numbers as before: that is the answer -/
theorem tk_J.fin (h : tk_J z se lv kd ns kn) (hB : tk_B z se nx lb ns ns) (hn : 1 ≤ ns) (hn4 : ns ≤ 401) (hl : tk_lvs z se lv ns) (hF : tk_Fk lv kd nx nk fi ns kn) : tz_ans (Sum.inr z) (if kn ≤ 200 then (kn : Int) else -1) := by
  have fl : ∀ s, s < ns → lv s = 1 → tk_f lv kd s = (kd s).toInt := fun s hs ls => by unfold tk_f tk_ki; rw [if_neg (by rw [ls]; decide)]
  have fd : ∀ s, lv s = 0 → tk_f lv kd s = -1 := fun s e => by unfold tk_f tk_ki; rw [if_pos e]; rfl
  have hu : kn ≤ 1 ∨ ((∀ j, j < kn → ∃ s, s < ns ∧ lv s = 1 ∧ tk_f lv kd s = (j : Int)) ∧ ∀ s, s < ns → lv s = 1 → tk_f lv kd s < (kn : Int)) := by
    rcases h.2.2.2 with w | ⟨u1, u2⟩
    · exact Or.inl w
    · refine Or.inr ⟨fun j hj => ?_, fun s hs ls => by rw [fl s hs ls]; exact u2 s hs ls⟩
      obtain ⟨s, x, y, w⟩ := u1 j hj
      exact ⟨s, x, y, by rw [fl s x y]; exact w⟩
  have st : ∀ s t, s < ns → t < ns → lv s = 1 → lv t = 1 → tk_f lv kd s = tk_f lv kd t → tp_al (tk_f lv kd) (tk_nx nx) s t := fun s t hs ht ls lt e => by
    refine tp_stab (N := ns) (m := kn) (lv := fun s => lv s = 1) (nk := fun s => (nk s).toInt.toNat) (fk := tk_n fi) (fun s hs ls => by rw [fl s hs ls]; exact h.2.2.1 s hs ls) hu (fun s hs ls => ?_) hs ht ls lt e
    · obtain ⟨k, a, b, c⟩ := hF.1 s hs ls
      have e : (nk s).toInt.toNat = k := by omega
      obtain ⟨s2, x, y, w, -⟩ := hF.2.1 k b
      have e2 : tk_n fi k = s2 := tk_n.e x
      refine ⟨by omega, ?_⟩
      rw [e]
      rw [e2] at c ⊢
      exact ⟨by rw [fl s2 y w, fl s hs ls, c.1], fun b9 hb => congrArg Int32.toInt (c.2 b9 hb)⟩
  have qq : ∀ s t, s < ns → t < ns → tk_f lv kd s = tk_f lv kd t → tp_q (tz_e z) (tz_ac z) (tk_bs se s) (tk_bs se t) := fun s t hs ht e w hw => by
    have dead : ∀ s t, s < ns → t < ns → tk_f lv kd s = tk_f lv kd t → lv s = 0 → lv t = 0 := fun s t hs ht e ls => (hl t ht).1.resolve_right (fun lt => by
      have := h.2.2.1 t ht lt
      rw [fd s ls, fl t ht lt] at e
      omega)
    refine tp_qi hB.n (f := tk_f lv kd) (fun s t hs ht e => ?_) (fun s t b hb hs ht e => ?_) w s t hw hs ht e
    · rcases (hl s hs).1 with ls | ls
      · have lt := dead s t hs ht e ls
        have na : ∀ u, u < ns → lv u = 0 → ¬ tz_ac z (tk_bs se u) := fun u hu l0 ha => by
          have : lv u = 1 := (hl u hu).2.mpr ⟨[], fun _ x => absurd x List.not_mem_nil, ha⟩
          rw [l0] at this
          exact absurd this (by decide)
        exact ⟨fun w => absurd w (na s hs ls), fun w => absurd w (na t ht lt)⟩
      · have lt : lv t = 1 := (hl t ht).1.resolve_left (fun lt => by have := dead t s ht hs e.symm lt; rw [ls] at this; exact absurd this (by decide))
        exact h.2.1 s t hs ht ls lt (Int32.toInt_inj.mp (by rw [← fl s hs ls, ← fl t ht lt]; exact e))
    · rcases (hl s hs).1 with ls | ls
      · have lt := dead s t hs ht e ls
        have nd : ∀ u, u < ns → lv u = 0 → tk_f lv kd (tk_nx nx u b) = -1 := fun u hu l0 => by
          have n1 := (hB.n u b hu hb).1
          refine fd _ ((hl _ n1).1.resolve_right (fun l1 => ?_))
          have := (hl u hu).2.mpr (tp_ls hB.n hu hb ((hl _ n1).2.mp l1))
          rw [l0] at this
          exact absurd this (by decide)
        rw [nd s hs ls, nd t ht lt]
      · have lt : lv t = 1 := (hl t ht).1.resolve_left (fun lt => by have := dead t s ht hs e.symm lt; rw [ls] at this; exact absurd this (by decide))
        exact (st s t hs ht ls lt e).2 b hb
  refine hB.ans hn hn4 (g := fun s => (nk s).toInt.toNat) (fun k hk => ?_) (fun t ht lt => ?_) (fun t u ht hu lt hq => ?_) (fun t u ht hu lt lu e => ?_)
  · obtain ⟨s, -, b, c, d⟩ := hF.2.1 k hk
    exact ⟨s, b, (hl s b).2.mp c, by show (nk s).toInt.toNat = k; omega⟩
  · obtain ⟨k, a, b, -⟩ := hF.1 t ht ((hl t ht).2.mpr lt)
    show (nk t).toInt.toNat < kn
    omega
  · have lu := hq.l.mp lt
    have := (hF.eq ht hu ((hl t ht).2.mpr lt) ((hl u hu).2.mpr lu)).mpr (h.al hB hl ht hu ((hl t ht).2.mpr lt) ((hl u hu).2.mpr lu) hq)
    show (nk t).toInt.toNat = (nk u).toInt.toNat
    rw [this]
  · have l1 := (hl t ht).2.mpr lt
    have l2 := (hl u hu).2.mpr lu
    obtain ⟨k, a, -⟩ := hF.1 t ht l1
    obtain ⟨k', a', -⟩ := hF.1 u hu l2
    have e' : (nk t).toInt.toNat = (nk u).toInt.toNat := e
    have en : nk t = nk u := Int32.toInt_inj.mp (by omega)
    have := (hF.eq ht hu l1 l2).mp en
    exact qq t u ht hu (by rw [fl t ht l1, fl u hu l2, this.1])
end TJ

set_option maxHeartbeats 4000000 in
set_option maxRecDepth 100000 in
theorem k_X11_kindOfG (l : Launch) (D : va_G) (cy : Nat → ClassId) (S : HS) (a : Nat) (ha : pq_R S a 14) (xx : Int32) (hxx0 : 0 ≤ xx.toInt) (hxx1 : xx.toInt ≤ 400) (lv kd : Nat) (f32 : hO S a 32 = .ref lv) (hlv : pq_R S lv 201) (f33 : hO S a 33 = .ref kd) (hkd : pq_R S kd 133) (xn : Nat) (hxn : xx.toInt = (xn : Int)) : pq_C l D cy yX11_kindOf cX11_kindOf 2 (some .int) 1 0 0 S [.ref a, .int xx] (fun v S2 => S2 = S ∧ ∃ x : Int32, v = some (.int x) ∧ (x = tk_ki (hI S lv) (hI S kd) xn)) := by
  refine pq_start (by decide) (Nat.le_of_ble_eq_true rfl) ?_
  intro p e s m args below meth c A F hr hlk hnm hA
  have lqm1 : (-1 : Int32).toInt = -1 := rfl
  have lq0 : (0 : Int32).toInt = 0 := rfl
  have lq1 : (1 : Int32).toInt = 1 := rfl
  refine pq_aload_n F dX11_kindOf_0 rfl rfl ?_
  refine pq_get F ha (by decide) lk_X11_184 f32 dX11_kindOf_1 ?_
  refine pq_iload_n F dX11_kindOf_4 rfl rfl ?_
  refine pq_zald F hlv (by decide) (by decide) rfl (fun n1_5 n2_5 => (by focus (simp only [vp_in_iff, Int32.lt_iff_toInt_lt, Int32.le_iff_toInt_le, ← Int32.toInt_inj, Int32.toInt_add, Int32.toInt_sub, Int32.toInt_mul, Int32.toInt_neg, pq_NuO, pq_NuI, pq_NuJ, pq_NuR, pq_shr6, pq_shr7, pq_shr8, lqm1, lq0, lq1] at *; (try simp (disch := omega) only [pq_bm] at *); all_goals omega))) dX11_kindOf_5 (fun x5 e5 l5 u5 => ?_)
  refine pq_if_eq (tgt := 18) F dX11_kindOf_6 (by decide) (fun c6 => ?_) (fun c6 => ?_)
  · skip
    refine pq_iconst (v := -1) F dX11_kindOf_18 (by decide) ?_
    exact pq_iret F hr hlk hA (Nat.le_refl _) (Nat.le_refl _) (⟨rfl, -1, rfl, (by unfold tk_ki; rw [if_pos (by rw [← tk_ix hxn, ← e5]; exact c6)])⟩) dX11_kindOf_19
  · skip
    refine pq_aload_n F dX11_kindOf_9 rfl rfl ?_
    refine pq_get F ha (by decide) lk_X11_187 f33 dX11_kindOf_10 ?_
    refine pq_iload_n F dX11_kindOf_13 rfl rfl ?_
    refine pq_iald F hkd (by decide) (by decide) rfl (fun n1_14 n2_14 => (by focus (simp only [vp_in_iff, Int32.lt_iff_toInt_lt, Int32.le_iff_toInt_le, ← Int32.toInt_inj, Int32.toInt_add, Int32.toInt_sub, Int32.toInt_mul, Int32.toInt_neg, pq_NuO, pq_NuI, pq_NuJ, pq_NuR, pq_shr6, pq_shr7, pq_shr8, lqm1, lq0, lq1] at *; (try simp (disch := omega) only [pq_bm] at *); all_goals omega))) dX11_kindOf_14 (fun x14 e14 l14 u14 => ?_)
    refine pq_goto (tgt := 19) F dX11_kindOf_15 (by decide) ?_
    exact pq_iret F hr hlk hA (Nat.le_refl _) (Nat.le_refl _) (⟨rfl, _, rfl, (by unfold tk_ki; rw [if_neg (by rw [← tk_ix hxn, ← e5]; exact c6), e14, tk_ix hxn])⟩) dX11_kindOf_19

set_option maxHeartbeats 4000000 in
set_option maxRecDepth 100000 in
theorem k_X11_isAlikeG (l : Launch) (D : va_G) (cy : Nat → ClassId) (S : HS) (a : Nat) (ha : pq_R S a 14) (sx : Int32) (hsx0 : 0 ≤ sx.toInt) (hsx1 : sx.toInt ≤ 400) (tx : Int32) (htx0 : 0 ≤ tx.toInt) (htx1 : tx.toInt ≤ 400) (lv kd : Nat) (f32 : hO S a 32 = .ref lv) (hlv : pq_R S lv 201) (f33 : hO S a 33 = .ref kd) (hkd : pq_R S kd 133) (nx : Nat) (f19 : hO S a 19 = .ref nx) (hnx : pq_R S nx 126) (sn tn : Nat) (hsn : sx.toInt = (sn : Int)) (htn : tx.toInt = (tn : Int)) : pq_C l D cy yX11_isAlike cX11_isAlike 4 (some .boolean) 2 0 0 S [.ref a, .int sx, .int tx] (fun v S2 => S2 = S ∧ ∃ x : Int32, v = some (.int x) ∧ 0 ≤ x.toInt ∧ x.toInt ≤ 1 ∧ (x = 1 ↔ tk_al (hI S lv) (hI S kd) (hI S nx) sn tn)) := by
  refine pq_start (by decide) (Nat.le_of_ble_eq_true rfl) ?_
  intro p e s m args below meth c A F hr hlk hnm hA
  have lqm1 : (-1 : Int32).toInt = -1 := rfl
  have lq0 : (0 : Int32).toInt = 0 := rfl
  have lq1 : (1 : Int32).toInt = 1 := rfl
  have lq128 : (128 : Int32).toInt = 128 := rfl
  have L19 : ∀  (fu : Nat)  (b : Int32)  (hb0 : 0 ≤ b.toInt) (hb1 : b.toInt ≤ 128) (hke : hI S kd sn = hI S kd tn) (hq : ∀ b9 : Nat, (b9 : Int) < b.toInt → tk_ki (hI S lv) (hI S kd) (tk_nx (hI S nx) sn b9) = tk_ki (hI S lv) (hI S kd) (tk_nx (hI S nx) tn b9)), (128 - b.toInt).toNat < fu → pq_At p l e (pq_rm 2 0 0) s m args below meth c (pq_Z below args s D cy S 0 0 (fun v S2 => S2 = S ∧ ∃ x : Int32, v = some (.int x) ∧ 0 ≤ x.toInt ∧ x.toInt ≤ 1 ∧ (x = 1 ↔ tk_al (hI S lv) (hI S kd) (hI S nx) sn tn))) D cy A 4 0 0 19 S [some (.ref a), some (.int sx), some (.int tx), some (.int b)] [] := by
    intro  fu
    induction fu with
    | zero => intro b hb0 hb1 hke hq hm; exact absurd hm (Nat.not_lt_zero _)
    | succ fu ih =>
      intro b hb0 hb1 hke hq hm
      refine pq_iload_n F dX11_isAlike_19 rfl rfl ?_
      refine pq_sipush (v := 128) F dX11_isAlike_20 (by decide) ?_
      refine pq_icmp_ge (tgt := 69) F dX11_isAlike_23 (by decide) (fun c23 => ?_) (fun c23 => ?_)
      · skip
        refine pq_iconst (v := 1) F dX11_isAlike_69 (by decide) ?_
        exact pq_zret F hr hlk hA rfl (Nat.le_refl _) (Nat.le_refl _) (⟨rfl, 1, rfl, (by focus ((try clear hq); (try clear hke); (try clear p39); (try clear p55); simp only [vp_in_iff, Int32.lt_iff_toInt_lt, Int32.le_iff_toInt_le, ← Int32.toInt_inj, Int32.toInt_add, Int32.toInt_sub, Int32.toInt_mul, Int32.toInt_neg, pq_NuO, pq_NuI, pq_NuJ, pq_NuR, pq_shr6, pq_shr7, pq_shr8, lqm1, lq0, lq1, lq128] at *; (try simp (disch := omega) only [pq_bm] at *); all_goals omega)), (by focus ((try clear hq); (try clear hke); (try clear p39); (try clear p55); simp only [vp_in_iff, Int32.lt_iff_toInt_lt, Int32.le_iff_toInt_le, ← Int32.toInt_inj, Int32.toInt_add, Int32.toInt_sub, Int32.toInt_mul, Int32.toInt_neg, pq_NuO, pq_NuI, pq_NuJ, pq_NuR, pq_shr6, pq_shr7, pq_shr8, lqm1, lq0, lq1, lq128] at *; (try simp (disch := omega) only [pq_bm] at *); all_goals omega)), ⟨fun _ => ⟨hke, fun b9 hb9 => hq b9 (by clear hq; focus ((try clear hq); (try clear hke); (try clear p39); (try clear p55); simp only [vp_in_iff, Int32.lt_iff_toInt_lt, Int32.le_iff_toInt_le, ← Int32.toInt_inj, Int32.toInt_add, Int32.toInt_sub, Int32.toInt_mul, Int32.toInt_neg, pq_NuO, pq_NuI, pq_NuJ, pq_NuR, pq_shr6, pq_shr7, pq_shr8, lqm1, lq0, lq1, lq128] at *; (try simp (disch := omega) only [pq_bm] at *); all_goals omega))⟩, fun _ => rfl⟩⟩) dX11_isAlike_70
      · skip
        refine pq_aload_n F dX11_isAlike_26 rfl rfl ?_
        refine pq_aload_n F dX11_isAlike_27 rfl rfl ?_
        refine pq_get F ha (by decide) lk_X11_181 f19 dX11_isAlike_28 ?_
        refine pq_sipush (v := 128) F dX11_isAlike_31 (by decide) ?_
        refine pq_iload_n F dX11_isAlike_34 rfl rfl ?_
        refine pq_imul F dX11_isAlike_35 ?_
        refine pq_iload_n F dX11_isAlike_36 rfl rfl ?_
        refine pq_iadd F dX11_isAlike_37 ?_
        refine pq_iald F hnx (by decide) (by decide) rfl (fun n1_38 n2_38 => (by focus ((try clear hq); (try clear hke); (try clear p39); (try clear p55); simp only [vp_in_iff, Int32.lt_iff_toInt_lt, Int32.le_iff_toInt_le, ← Int32.toInt_inj, Int32.toInt_add, Int32.toInt_sub, Int32.toInt_mul, Int32.toInt_neg, pq_NuO, pq_NuI, pq_NuJ, pq_NuR, pq_shr6, pq_shr7, pq_shr8, lqm1, lq0, lq1, lq128] at *; (try simp (disch := omega) only [pq_bm] at *); all_goals omega))) dX11_isAlike_38 (fun x38 e38 l38 u38 => ?_)
        refine pq_callV (As := [_]) F (k_X11_kindOfG l D cy _ _ ?_ _ ?_ ?_ lv kd f32 hlv f33 hkd (tk_nx (hI S nx) sn b.toNatClampNeg) (by have w := pq_cl (x := x38) (by focus ((try clear hq); (try clear hke); (try clear p39); (try clear p55); simp only [vp_in_iff, Int32.lt_iff_toInt_lt, Int32.le_iff_toInt_le, ← Int32.toInt_inj, Int32.toInt_add, Int32.toInt_sub, Int32.toInt_mul, Int32.toInt_neg, pq_NuO, pq_NuI, pq_NuJ, pq_NuR, pq_shr6, pq_shr7, pq_shr8, lqm1, lq0, lq1, lq128] at *; (try simp (disch := omega) only [pq_bm] at *); all_goals omega)); rw [e38]; unfold tk_nx; rw [tk_ix (x := 128 * sx + b) (k := 128 * sn + b.toNatClampNeg) (by have w2 := pq_cl hb0; focus ((try clear hq); (try clear hke); (try clear p39); (try clear p55); simp only [vp_in_iff, Int32.lt_iff_toInt_lt, Int32.le_iff_toInt_le, ← Int32.toInt_inj, Int32.toInt_add, Int32.toInt_sub, Int32.toInt_mul, Int32.toInt_neg, pq_NuO, pq_NuI, pq_NuJ, pq_NuR, pq_shr6, pq_shr7, pq_shr8, lqm1, lq0, lq1, lq128] at *; (try simp (disch := omega) only [pq_bm] at *); all_goals omega))]; rw [e38, tk_ix (x := 128 * sx + b) (k := 128 * sn + b.toNatClampNeg) (by have w2 := pq_cl hb0; focus ((try clear hq); (try clear hke); (try clear p39); (try clear p55); simp only [vp_in_iff, Int32.lt_iff_toInt_lt, Int32.le_iff_toInt_le, ← Int32.toInt_inj, Int32.toInt_add, Int32.toInt_sub, Int32.toInt_mul, Int32.toInt_neg, pq_NuO, pq_NuI, pq_NuJ, pq_NuR, pq_shr6, pq_shr7, pq_shr8, lqm1, lq0, lq1, lq128] at *; (try simp (disch := omega) only [pq_bm] at *); all_goals omega))] at w; omega)) ml_X11_190 ha (by decide) rfl (Nat.le_of_ble_eq_true rfl) ⟨Nat.le_of_ble_eq_true rfl, Nat.le_of_ble_eq_true rfl⟩ ⟨by decide, by decide⟩ dX11_isAlike_39 (fun v39 S39 w39 => ?_)
        · exact ha
        · focus ((try clear hq); (try clear hke); (try clear p39); (try clear p55); simp only [vp_in_iff, Int32.lt_iff_toInt_lt, Int32.le_iff_toInt_le, ← Int32.toInt_inj, Int32.toInt_add, Int32.toInt_sub, Int32.toInt_mul, Int32.toInt_neg, pq_NuO, pq_NuI, pq_NuJ, pq_NuR, pq_shr6, pq_shr7, pq_shr8, lqm1, lq0, lq1, lq128] at *; (try simp (disch := omega) only [pq_bm] at *); all_goals omega)
        · focus ((try clear hq); (try clear hke); (try clear p39); (try clear p55); simp only [vp_in_iff, Int32.lt_iff_toInt_lt, Int32.le_iff_toInt_le, ← Int32.toInt_inj, Int32.toInt_add, Int32.toInt_sub, Int32.toInt_mul, Int32.toInt_neg, pq_NuO, pq_NuI, pq_NuJ, pq_NuR, pq_shr6, pq_shr7, pq_shr8, lqm1, lq0, lq1, lq128] at *; (try simp (disch := omega) only [pq_bm] at *); all_goals omega)
        obtain ⟨u39, y39, rfl, p39⟩ := w39
        rw [u39]
        try rw [u39] at p39
        refine pq_aload_n F dX11_isAlike_42 rfl rfl ?_
        refine pq_aload_n F dX11_isAlike_43 rfl rfl ?_
        refine pq_get F ha (by decide) lk_X11_181 f19 dX11_isAlike_44 ?_
        refine pq_sipush (v := 128) F dX11_isAlike_47 (by decide) ?_
        refine pq_iload_n F dX11_isAlike_50 rfl rfl ?_
        refine pq_imul F dX11_isAlike_51 ?_
        refine pq_iload_n F dX11_isAlike_52 rfl rfl ?_
        refine pq_iadd F dX11_isAlike_53 ?_
        refine pq_iald F hnx (by decide) (by decide) rfl (fun n1_54 n2_54 => (by focus ((try clear hq); (try clear hke); (try clear p39); (try clear p55); simp only [vp_in_iff, Int32.lt_iff_toInt_lt, Int32.le_iff_toInt_le, ← Int32.toInt_inj, Int32.toInt_add, Int32.toInt_sub, Int32.toInt_mul, Int32.toInt_neg, pq_NuO, pq_NuI, pq_NuJ, pq_NuR, pq_shr6, pq_shr7, pq_shr8, lqm1, lq0, lq1, lq128] at *; (try simp (disch := omega) only [pq_bm] at *); all_goals omega))) dX11_isAlike_54 (fun x54 e54 l54 u54 => ?_)
        refine pq_callV (As := [_]) F (k_X11_kindOfG l D cy _ _ ?_ _ ?_ ?_ lv kd f32 hlv f33 hkd (tk_nx (hI S nx) tn b.toNatClampNeg) (by have w := pq_cl (x := x54) (by focus ((try clear hq); (try clear hke); (try clear p39); (try clear p55); simp only [vp_in_iff, Int32.lt_iff_toInt_lt, Int32.le_iff_toInt_le, ← Int32.toInt_inj, Int32.toInt_add, Int32.toInt_sub, Int32.toInt_mul, Int32.toInt_neg, pq_NuO, pq_NuI, pq_NuJ, pq_NuR, pq_shr6, pq_shr7, pq_shr8, lqm1, lq0, lq1, lq128] at *; (try simp (disch := omega) only [pq_bm] at *); all_goals omega)); rw [e54]; unfold tk_nx; rw [tk_ix (x := 128 * tx + b) (k := 128 * tn + b.toNatClampNeg) (by have w2 := pq_cl hb0; focus ((try clear hq); (try clear hke); (try clear p39); (try clear p55); simp only [vp_in_iff, Int32.lt_iff_toInt_lt, Int32.le_iff_toInt_le, ← Int32.toInt_inj, Int32.toInt_add, Int32.toInt_sub, Int32.toInt_mul, Int32.toInt_neg, pq_NuO, pq_NuI, pq_NuJ, pq_NuR, pq_shr6, pq_shr7, pq_shr8, lqm1, lq0, lq1, lq128] at *; (try simp (disch := omega) only [pq_bm] at *); all_goals omega))]; rw [e54, tk_ix (x := 128 * tx + b) (k := 128 * tn + b.toNatClampNeg) (by have w2 := pq_cl hb0; focus ((try clear hq); (try clear hke); (try clear p39); (try clear p55); simp only [vp_in_iff, Int32.lt_iff_toInt_lt, Int32.le_iff_toInt_le, ← Int32.toInt_inj, Int32.toInt_add, Int32.toInt_sub, Int32.toInt_mul, Int32.toInt_neg, pq_NuO, pq_NuI, pq_NuJ, pq_NuR, pq_shr6, pq_shr7, pq_shr8, lqm1, lq0, lq1, lq128] at *; (try simp (disch := omega) only [pq_bm] at *); all_goals omega))] at w; omega)) ml_X11_190 ha (by decide) rfl (Nat.le_of_ble_eq_true rfl) ⟨Nat.le_of_ble_eq_true rfl, Nat.le_of_ble_eq_true rfl⟩ ⟨by decide, by decide⟩ dX11_isAlike_55 (fun v55 S55 w55 => ?_)
        · exact ha
        · focus ((try clear hq); (try clear hke); (try clear p39); (try clear p55); simp only [vp_in_iff, Int32.lt_iff_toInt_lt, Int32.le_iff_toInt_le, ← Int32.toInt_inj, Int32.toInt_add, Int32.toInt_sub, Int32.toInt_mul, Int32.toInt_neg, pq_NuO, pq_NuI, pq_NuJ, pq_NuR, pq_shr6, pq_shr7, pq_shr8, lqm1, lq0, lq1, lq128] at *; (try simp (disch := omega) only [pq_bm] at *); all_goals omega)
        · focus ((try clear hq); (try clear hke); (try clear p39); (try clear p55); simp only [vp_in_iff, Int32.lt_iff_toInt_lt, Int32.le_iff_toInt_le, ← Int32.toInt_inj, Int32.toInt_add, Int32.toInt_sub, Int32.toInt_mul, Int32.toInt_neg, pq_NuO, pq_NuI, pq_NuJ, pq_NuR, pq_shr6, pq_shr7, pq_shr8, lqm1, lq0, lq1, lq128] at *; (try simp (disch := omega) only [pq_bm] at *); all_goals omega)
        obtain ⟨u55, y55, rfl, p55⟩ := w55
        rw [u55]
        try rw [u55] at p55
        refine pq_icmp_eq (tgt := 63) F dX11_isAlike_58 (by decide) (fun c58 => ?_) (fun c58 => ?_)
        · skip
          refine pq_iinc (v := 1) F dX11_isAlike_63 rfl (by decide) (by decide) ?_
          refine pq_goto (tgt := 19) F dX11_isAlike_66 (by decide) ?_
          exact pq_fgm [true, true, true, true] (ih _ (by focus ((try clear hq); (try clear hke); (try clear p39); (try clear p55); simp only [vp_in_iff, Int32.lt_iff_toInt_lt, Int32.le_iff_toInt_le, ← Int32.toInt_inj, Int32.toInt_add, Int32.toInt_sub, Int32.toInt_mul, Int32.toInt_neg, pq_NuO, pq_NuI, pq_NuJ, pq_NuR, pq_shr6, pq_shr7, pq_shr8, lqm1, lq0, lq1, lq128] at *; (try simp (disch := omega) only [pq_bm] at *); all_goals omega)) (by focus ((try clear hq); (try clear hke); (try clear p39); (try clear p55); simp only [vp_in_iff, Int32.lt_iff_toInt_lt, Int32.le_iff_toInt_le, ← Int32.toInt_inj, Int32.toInt_add, Int32.toInt_sub, Int32.toInt_mul, Int32.toInt_neg, pq_NuO, pq_NuI, pq_NuJ, pq_NuR, pq_shr6, pq_shr7, pq_shr8, lqm1, lq0, lq1, lq128] at *; (try simp (disch := omega) only [pq_bm] at *); all_goals omega)) hke (fun b9 hb9 => (by have cb := pq_cl hb0; by_cases e : (b9 : Int) < b.toInt; exact hq b9 e; have e2 : b9 = b.toNatClampNeg := (by clear hq; focus ((try clear hq); (try clear hke); (try clear p39); (try clear p55); simp only [vp_in_iff, Int32.lt_iff_toInt_lt, Int32.le_iff_toInt_le, ← Int32.toInt_inj, Int32.toInt_add, Int32.toInt_sub, Int32.toInt_mul, Int32.toInt_neg, pq_NuO, pq_NuI, pq_NuJ, pq_NuR, pq_shr6, pq_shr7, pq_shr8, lqm1, lq0, lq1, lq128] at *; (try simp (disch := omega) only [pq_bm] at *); all_goals omega)); rw [e2, ← p39, ← p55]; exact c58)) (by focus ((try clear hq); (try clear hke); (try clear p39); (try clear p55); simp only [vp_in_iff, Int32.lt_iff_toInt_lt, Int32.le_iff_toInt_le, ← Int32.toInt_inj, Int32.toInt_add, Int32.toInt_sub, Int32.toInt_mul, Int32.toInt_neg, pq_NuO, pq_NuI, pq_NuJ, pq_NuR, pq_shr6, pq_shr7, pq_shr8, lqm1, lq0, lq1, lq128] at *; (try simp (disch := omega) only [pq_bm] at *); all_goals omega)))
        · skip
          refine pq_iconst (v := 0) F dX11_isAlike_61 (by decide) ?_
          exact pq_zret F hr hlk hA rfl (Nat.le_refl _) (Nat.le_refl _) (⟨rfl, 0, rfl, (by focus ((try clear hq); (try clear hke); (try clear p39); (try clear p55); simp only [vp_in_iff, Int32.lt_iff_toInt_lt, Int32.le_iff_toInt_le, ← Int32.toInt_inj, Int32.toInt_add, Int32.toInt_sub, Int32.toInt_mul, Int32.toInt_neg, pq_NuO, pq_NuI, pq_NuJ, pq_NuR, pq_shr6, pq_shr7, pq_shr8, lqm1, lq0, lq1, lq128] at *; (try simp (disch := omega) only [pq_bm] at *); all_goals omega)), (by focus ((try clear hq); (try clear hke); (try clear p39); (try clear p55); simp only [vp_in_iff, Int32.lt_iff_toInt_lt, Int32.le_iff_toInt_le, ← Int32.toInt_inj, Int32.toInt_add, Int32.toInt_sub, Int32.toInt_mul, Int32.toInt_neg, pq_NuO, pq_NuI, pq_NuJ, pq_NuR, pq_shr6, pq_shr7, pq_shr8, lqm1, lq0, lq1, lq128] at *; (try simp (disch := omega) only [pq_bm] at *); all_goals omega)), ⟨fun w => absurd w (by decide), fun w => absurd (w.2 b.toNatClampNeg (by have cb := pq_cl hb0; focus ((try clear hq); (try clear hke); (try clear p39); (try clear p55); simp only [vp_in_iff, Int32.lt_iff_toInt_lt, Int32.le_iff_toInt_le, ← Int32.toInt_inj, Int32.toInt_add, Int32.toInt_sub, Int32.toInt_mul, Int32.toInt_neg, pq_NuO, pq_NuI, pq_NuJ, pq_NuR, pq_shr6, pq_shr7, pq_shr8, lqm1, lq0, lq1, lq128] at *; (try simp (disch := omega) only [pq_bm] at *); all_goals omega))) (by rw [← p39, ← p55]; exact c58)⟩⟩) dX11_isAlike_62
  refine pq_aload_n F dX11_isAlike_0 rfl rfl ?_
  refine pq_get F ha (by decide) lk_X11_187 f33 dX11_isAlike_1 ?_
  refine pq_iload_n F dX11_isAlike_4 rfl rfl ?_
  refine pq_iald F hkd (by decide) (by decide) rfl (fun n1_5 n2_5 => (by focus ((try clear hq); (try clear hke); (try clear p39); (try clear p55); simp only [vp_in_iff, Int32.lt_iff_toInt_lt, Int32.le_iff_toInt_le, ← Int32.toInt_inj, Int32.toInt_add, Int32.toInt_sub, Int32.toInt_mul, Int32.toInt_neg, pq_NuO, pq_NuI, pq_NuJ, pq_NuR, pq_shr6, pq_shr7, pq_shr8, lqm1, lq0, lq1, lq128] at *; (try simp (disch := omega) only [pq_bm] at *); all_goals omega))) dX11_isAlike_5 (fun x5 e5 l5 u5 => ?_)
  refine pq_aload_n F dX11_isAlike_6 rfl rfl ?_
  refine pq_get F ha (by decide) lk_X11_187 f33 dX11_isAlike_7 ?_
  refine pq_iload_n F dX11_isAlike_10 rfl rfl ?_
  refine pq_iald F hkd (by decide) (by decide) rfl (fun n1_11 n2_11 => (by focus ((try clear hq); (try clear hke); (try clear p39); (try clear p55); simp only [vp_in_iff, Int32.lt_iff_toInt_lt, Int32.le_iff_toInt_le, ← Int32.toInt_inj, Int32.toInt_add, Int32.toInt_sub, Int32.toInt_mul, Int32.toInt_neg, pq_NuO, pq_NuI, pq_NuJ, pq_NuR, pq_shr6, pq_shr7, pq_shr8, lqm1, lq0, lq1, lq128] at *; (try simp (disch := omega) only [pq_bm] at *); all_goals omega))) dX11_isAlike_11 (fun x11 e11 l11 u11 => ?_)
  refine pq_icmp_eq (tgt := 17) F dX11_isAlike_12 (by decide) (fun c12 => ?_) (fun c12 => ?_)
  · skip
    refine pq_iconst (v := 0) F dX11_isAlike_17 (by decide) ?_
    refine pq_istore_n F dX11_isAlike_18 rfl (by decide) ?_
    exact pq_fgm [true, true, true, true] (L19  100000 _  (by focus ((try clear hq); (try clear hke); (try clear p39); (try clear p55); simp only [vp_in_iff, Int32.lt_iff_toInt_lt, Int32.le_iff_toInt_le, ← Int32.toInt_inj, Int32.toInt_add, Int32.toInt_sub, Int32.toInt_mul, Int32.toInt_neg, pq_NuO, pq_NuI, pq_NuJ, pq_NuR, pq_shr6, pq_shr7, pq_shr8, lqm1, lq0, lq1, lq128] at *; (try simp (disch := omega) only [pq_bm] at *); all_goals omega)) (by focus ((try clear hq); (try clear hke); (try clear p39); (try clear p55); simp only [vp_in_iff, Int32.lt_iff_toInt_lt, Int32.le_iff_toInt_le, ← Int32.toInt_inj, Int32.toInt_add, Int32.toInt_sub, Int32.toInt_mul, Int32.toInt_neg, pq_NuO, pq_NuI, pq_NuJ, pq_NuR, pq_shr6, pq_shr7, pq_shr8, lqm1, lq0, lq1, lq128] at *; (try simp (disch := omega) only [pq_bm] at *); all_goals omega)) (by rw [← tk_ix hsn, ← tk_ix htn, ← e5, ← e11]; exact c12) (fun b9 hb9 => absurd hb9 (by focus ((try clear hq); (try clear hke); (try clear p39); (try clear p55); simp only [vp_in_iff, Int32.lt_iff_toInt_lt, Int32.le_iff_toInt_le, ← Int32.toInt_inj, Int32.toInt_add, Int32.toInt_sub, Int32.toInt_mul, Int32.toInt_neg, pq_NuO, pq_NuI, pq_NuJ, pq_NuR, pq_shr6, pq_shr7, pq_shr8, lqm1, lq0, lq1, lq128] at *; (try simp (disch := omega) only [pq_bm] at *); all_goals omega))) (by focus ((try clear hq); (try clear hke); (try clear p39); (try clear p55); simp only [vp_in_iff, Int32.lt_iff_toInt_lt, Int32.le_iff_toInt_le, ← Int32.toInt_inj, Int32.toInt_add, Int32.toInt_sub, Int32.toInt_mul, Int32.toInt_neg, pq_NuO, pq_NuI, pq_NuJ, pq_NuR, pq_shr6, pq_shr7, pq_shr8, lqm1, lq0, lq1, lq128] at *; (try simp (disch := omega) only [pq_bm] at *); all_goals omega)))
  · skip
    refine pq_iconst (v := 0) F dX11_isAlike_15 (by decide) ?_
    exact pq_zret F hr hlk hA rfl (Nat.le_refl _) (Nat.le_refl _) (⟨rfl, 0, rfl, (by focus ((try clear hq); (try clear hke); (try clear p39); (try clear p55); simp only [vp_in_iff, Int32.lt_iff_toInt_lt, Int32.le_iff_toInt_le, ← Int32.toInt_inj, Int32.toInt_add, Int32.toInt_sub, Int32.toInt_mul, Int32.toInt_neg, pq_NuO, pq_NuI, pq_NuJ, pq_NuR, pq_shr6, pq_shr7, pq_shr8, lqm1, lq0, lq1, lq128] at *; (try simp (disch := omega) only [pq_bm] at *); all_goals omega)), (by focus ((try clear hq); (try clear hke); (try clear p39); (try clear p55); simp only [vp_in_iff, Int32.lt_iff_toInt_lt, Int32.le_iff_toInt_le, ← Int32.toInt_inj, Int32.toInt_add, Int32.toInt_sub, Int32.toInt_mul, Int32.toInt_neg, pq_NuO, pq_NuI, pq_NuJ, pq_NuR, pq_shr6, pq_shr7, pq_shr8, lqm1, lq0, lq1, lq128] at *; (try simp (disch := omega) only [pq_bm] at *); all_goals omega)), ⟨fun w => absurd w (by decide), fun w => absurd w.1 (by rw [← tk_ix hsn, ← tk_ix htn, ← e5, ← e11]; exact c12)⟩⟩) dX11_isAlike_16

set_option maxHeartbeats 4000000 in
set_option maxRecDepth 100000 in
theorem k_X11_mixtureOfG (l : Launch) (D : va_G) (cy : Nat → ClassId) (S : HS) (a : Nat) (ha : pq_R S a 14) (sx : Int32) (hsx0 : 0 ≤ sx.toInt) (hsx1 : sx.toInt ≤ 400) (lv kd : Nat) (f32 : hO S a 32 = .ref lv) (hlv : pq_R S lv 201) (f33 : hO S a 33 = .ref kd) (hkd : pq_R S kd 133) (nx : Nat) (f19 : hO S a 19 = .ref nx) (hnx : pq_R S nx 126) (sn : Nat) (hsn : sx.toInt = (sn : Int)) : pq_C l D cy yX11_mixtureOf cX11_mixtureOf 4 (some .int) 2 0 0 S [.ref a, .int sx] (fun v S2 => S2 = S ∧ ∃ x : Int32, v = some (.int x) ∧ 0 ≤ x.toInt ∧ x.toInt ≤ 1023 ∧ (x = tk_mo (hI S lv) (hI S kd) (hI S nx) sn)) := by
  refine pq_start (by decide) (Nat.le_of_ble_eq_true rfl) ?_
  intro p e s m args below meth c A F hr hlk hnm hA
  have lqm1 : (-1 : Int32).toInt = -1 := rfl
  have lq0 : (0 : Int32).toInt = 0 := rfl
  have lq1 : (1 : Int32).toInt = 1 := rfl
  have lq15 : (15 : Int32).toInt = 15 := rfl
  have lq31 : (31 : Int32).toInt = 31 := rfl
  have lq128 : (128 : Int32).toInt = 128 := rfl
  have lq1023 : (1023 : Int32).toInt = 1023 := rfl
  have L9 : ∀  (fu : Nat)  (h5 : Int32) (b : Int32)  (hb0 : 0 ≤ b.toInt) (hb1 : b.toInt ≤ 128) (hh : h5 = tk_mr (hI S lv) (hI S kd) (hI S nx) sn b.toNatClampNeg), (128 - b.toInt).toNat < fu → pq_At p l e (pq_rm 2 0 0) s m args below meth c (pq_Z below args s D cy S 0 0 (fun v S2 => S2 = S ∧ ∃ x : Int32, v = some (.int x) ∧ 0 ≤ x.toInt ∧ x.toInt ≤ 1023 ∧ (x = tk_mo (hI S lv) (hI S kd) (hI S nx) sn))) D cy A 4 0 0 9 S [some (.ref a), some (.int sx), some (.int h5), some (.int b)] [] := by
    intro  fu
    induction fu with
    | zero => intro h5 b hb0 hb1 hh hm; exact absurd hm (Nat.not_lt_zero _)
    | succ fu ih =>
      intro h5 b hb0 hb1 hh hm
      refine pq_iload_n F dX11_mixtureOf_9 rfl rfl ?_
      refine pq_sipush (v := 128) F dX11_mixtureOf_10 (by decide) ?_
      refine pq_icmp_ge (tgt := 44) F dX11_mixtureOf_13 (by decide) (fun c13 => ?_) (fun c13 => ?_)
      · skip
        have eb8 : b.toNatClampNeg = 128 := (by have z1 := pq_cl hb0; focus ((try clear hh); (try clear p33); simp only [vp_in_iff, Int32.lt_iff_toInt_lt, Int32.le_iff_toInt_le, ← Int32.toInt_inj, Int32.toInt_add, Int32.toInt_sub, Int32.toInt_mul, Int32.toInt_neg, pq_NuO, pq_NuI, pq_NuJ, pq_NuR, pq_shr6, pq_shr7, pq_shr8, lqm1, lq0, lq1, lq15, lq31, lq128, lq1023] at *; (try simp (disch := omega) only [pq_bm] at *); all_goals omega))
        rw [eb8] at hh
        refine pq_iload_n F dX11_mixtureOf_44 rfl rfl ?_
        refine pq_iload_n F dX11_mixtureOf_45 rfl rfl ?_
        refine pq_bipush (v := 15) F dX11_mixtureOf_46 (by decide) ?_
        refine pq_iushr F dX11_mixtureOf_48 ?_
        refine pq_ixor F dX11_mixtureOf_49 ?_
        refine pq_sipush (v := 1023) F dX11_mixtureOf_50 (by decide) ?_
        refine pq_iand F dX11_mixtureOf_53 ?_
        exact pq_iret F hr hlk hA (Nat.le_refl _) (Nat.le_refl _) (⟨rfl, _, rfl, (pq_and1023 _).1, (pq_and1023 _).2, (by unfold tk_mo; rw [← hh])⟩) dX11_mixtureOf_54
      · skip
        refine pq_bipush (v := 31) F dX11_mixtureOf_16 (by decide) ?_
        refine pq_iload_n F dX11_mixtureOf_18 rfl rfl ?_
        refine pq_imul F dX11_mixtureOf_19 ?_
        refine pq_aload_n F dX11_mixtureOf_20 rfl rfl ?_
        refine pq_aload_n F dX11_mixtureOf_21 rfl rfl ?_
        refine pq_get F ha (by decide) lk_X11_181 f19 dX11_mixtureOf_22 ?_
        refine pq_sipush (v := 128) F dX11_mixtureOf_25 (by decide) ?_
        refine pq_iload_n F dX11_mixtureOf_28 rfl rfl ?_
        refine pq_imul F dX11_mixtureOf_29 ?_
        refine pq_iload_n F dX11_mixtureOf_30 rfl rfl ?_
        refine pq_iadd F dX11_mixtureOf_31 ?_
        refine pq_iald F hnx (by decide) (by decide) rfl (fun n1_32 n2_32 => (by focus ((try clear hh); (try clear p33); simp only [vp_in_iff, Int32.lt_iff_toInt_lt, Int32.le_iff_toInt_le, ← Int32.toInt_inj, Int32.toInt_add, Int32.toInt_sub, Int32.toInt_mul, Int32.toInt_neg, pq_NuO, pq_NuI, pq_NuJ, pq_NuR, pq_shr6, pq_shr7, pq_shr8, lqm1, lq0, lq1, lq15, lq31, lq128, lq1023] at *; (try simp (disch := omega) only [pq_bm] at *); all_goals omega))) dX11_mixtureOf_32 (fun x32 e32 l32 u32 => ?_)
        refine pq_callV (As := [_]) F (k_X11_kindOfG l D cy _ _ ?_ _ ?_ ?_ lv kd f32 hlv f33 hkd (tk_nx (hI S nx) sn b.toNatClampNeg) (by have w := pq_cl (x := x32) (by focus ((try clear hh); (try clear p33); simp only [vp_in_iff, Int32.lt_iff_toInt_lt, Int32.le_iff_toInt_le, ← Int32.toInt_inj, Int32.toInt_add, Int32.toInt_sub, Int32.toInt_mul, Int32.toInt_neg, pq_NuO, pq_NuI, pq_NuJ, pq_NuR, pq_shr6, pq_shr7, pq_shr8, lqm1, lq0, lq1, lq15, lq31, lq128, lq1023] at *; (try simp (disch := omega) only [pq_bm] at *); all_goals omega)); rw [e32]; unfold tk_nx; rw [tk_ix (x := 128 * sx + b) (k := 128 * sn + b.toNatClampNeg) (by have w2 := pq_cl hb0; focus ((try clear hh); (try clear p33); simp only [vp_in_iff, Int32.lt_iff_toInt_lt, Int32.le_iff_toInt_le, ← Int32.toInt_inj, Int32.toInt_add, Int32.toInt_sub, Int32.toInt_mul, Int32.toInt_neg, pq_NuO, pq_NuI, pq_NuJ, pq_NuR, pq_shr6, pq_shr7, pq_shr8, lqm1, lq0, lq1, lq15, lq31, lq128, lq1023] at *; (try simp (disch := omega) only [pq_bm] at *); all_goals omega))]; rw [e32, tk_ix (x := 128 * sx + b) (k := 128 * sn + b.toNatClampNeg) (by have w2 := pq_cl hb0; focus ((try clear hh); (try clear p33); simp only [vp_in_iff, Int32.lt_iff_toInt_lt, Int32.le_iff_toInt_le, ← Int32.toInt_inj, Int32.toInt_add, Int32.toInt_sub, Int32.toInt_mul, Int32.toInt_neg, pq_NuO, pq_NuI, pq_NuJ, pq_NuR, pq_shr6, pq_shr7, pq_shr8, lqm1, lq0, lq1, lq15, lq31, lq128, lq1023] at *; (try simp (disch := omega) only [pq_bm] at *); all_goals omega))] at w; omega)) ml_X11_190 ha (by decide) rfl (Nat.le_of_ble_eq_true rfl) ⟨Nat.le_of_ble_eq_true rfl, Nat.le_of_ble_eq_true rfl⟩ ⟨by decide, by decide⟩ dX11_mixtureOf_33 (fun v33 S33 w33 => ?_)
        · exact ha
        · focus ((try clear hh); (try clear p33); simp only [vp_in_iff, Int32.lt_iff_toInt_lt, Int32.le_iff_toInt_le, ← Int32.toInt_inj, Int32.toInt_add, Int32.toInt_sub, Int32.toInt_mul, Int32.toInt_neg, pq_NuO, pq_NuI, pq_NuJ, pq_NuR, pq_shr6, pq_shr7, pq_shr8, lqm1, lq0, lq1, lq15, lq31, lq128, lq1023] at *; (try simp (disch := omega) only [pq_bm] at *); all_goals omega)
        · focus ((try clear hh); (try clear p33); simp only [vp_in_iff, Int32.lt_iff_toInt_lt, Int32.le_iff_toInt_le, ← Int32.toInt_inj, Int32.toInt_add, Int32.toInt_sub, Int32.toInt_mul, Int32.toInt_neg, pq_NuO, pq_NuI, pq_NuJ, pq_NuR, pq_shr6, pq_shr7, pq_shr8, lqm1, lq0, lq1, lq15, lq31, lq128, lq1023] at *; (try simp (disch := omega) only [pq_bm] at *); all_goals omega)
        obtain ⟨u33, y33, rfl, p33⟩ := w33
        rw [u33]
        try rw [u33] at p33
        refine pq_iadd F dX11_mixtureOf_36 ?_
        refine pq_istore_n F dX11_mixtureOf_37 rfl (by decide) ?_
        refine pq_iinc (v := 1) F dX11_mixtureOf_38 rfl (by decide) (by decide) ?_
        refine pq_goto (tgt := 9) F dX11_mixtureOf_41 (by decide) ?_
        exact pq_fgm [true, true, true, true] (ih _ _ (by focus ((try clear hh); (try clear p33); simp only [vp_in_iff, Int32.lt_iff_toInt_lt, Int32.le_iff_toInt_le, ← Int32.toInt_inj, Int32.toInt_add, Int32.toInt_sub, Int32.toInt_mul, Int32.toInt_neg, pq_NuO, pq_NuI, pq_NuJ, pq_NuR, pq_shr6, pq_shr7, pq_shr8, lqm1, lq0, lq1, lq15, lq31, lq128, lq1023] at *; (try simp (disch := omega) only [pq_bm] at *); all_goals omega)) (by focus ((try clear hh); (try clear p33); simp only [vp_in_iff, Int32.lt_iff_toInt_lt, Int32.le_iff_toInt_le, ← Int32.toInt_inj, Int32.toInt_add, Int32.toInt_sub, Int32.toInt_mul, Int32.toInt_neg, pq_NuO, pq_NuI, pq_NuJ, pq_NuR, pq_shr6, pq_shr7, pq_shr8, lqm1, lq0, lq1, lq15, lq31, lq128, lq1023] at *; (try simp (disch := omega) only [pq_bm] at *); all_goals omega)) (by have z1 := pq_cl hb0; have z2 := pq_cl (x := b + 1) (by focus ((try clear hh); (try clear p33); simp only [vp_in_iff, Int32.lt_iff_toInt_lt, Int32.le_iff_toInt_le, ← Int32.toInt_inj, Int32.toInt_add, Int32.toInt_sub, Int32.toInt_mul, Int32.toInt_neg, pq_NuO, pq_NuI, pq_NuJ, pq_NuR, pq_shr6, pq_shr7, pq_shr8, lqm1, lq0, lq1, lq15, lq31, lq128, lq1023] at *; (try simp (disch := omega) only [pq_bm] at *); all_goals omega)); rw [show (b + 1).toNatClampNeg = b.toNatClampNeg + 1 by (clear hh; focus ((try clear hh); (try clear p33); simp only [vp_in_iff, Int32.lt_iff_toInt_lt, Int32.le_iff_toInt_le, ← Int32.toInt_inj, Int32.toInt_add, Int32.toInt_sub, Int32.toInt_mul, Int32.toInt_neg, pq_NuO, pq_NuI, pq_NuJ, pq_NuR, pq_shr6, pq_shr7, pq_shr8, lqm1, lq0, lq1, lq15, lq31, lq128, lq1023] at *; (try simp (disch := omega) only [pq_bm] at *); all_goals omega))]; show _ = 31 * tk_mr (hI S lv) (hI S kd) (hI S nx) sn b.toNatClampNeg + tk_ki (hI S lv) (hI S kd) (tk_nx (hI S nx) sn b.toNatClampNeg); rw [← hh, ← p33]) (by focus ((try clear hh); (try clear p33); simp only [vp_in_iff, Int32.lt_iff_toInt_lt, Int32.le_iff_toInt_le, ← Int32.toInt_inj, Int32.toInt_add, Int32.toInt_sub, Int32.toInt_mul, Int32.toInt_neg, pq_NuO, pq_NuI, pq_NuJ, pq_NuR, pq_shr6, pq_shr7, pq_shr8, lqm1, lq0, lq1, lq15, lq31, lq128, lq1023] at *; (try simp (disch := omega) only [pq_bm] at *); all_goals omega)))
  refine pq_aload_n F dX11_mixtureOf_0 rfl rfl ?_
  refine pq_get F ha (by decide) lk_X11_187 f33 dX11_mixtureOf_1 ?_
  refine pq_iload_n F dX11_mixtureOf_4 rfl rfl ?_
  refine pq_iald F hkd (by decide) (by decide) rfl (fun n1_5 n2_5 => (by focus ((try clear hh); (try clear p33); simp only [vp_in_iff, Int32.lt_iff_toInt_lt, Int32.le_iff_toInt_le, ← Int32.toInt_inj, Int32.toInt_add, Int32.toInt_sub, Int32.toInt_mul, Int32.toInt_neg, pq_NuO, pq_NuI, pq_NuJ, pq_NuR, pq_shr6, pq_shr7, pq_shr8, lqm1, lq0, lq1, lq15, lq31, lq128, lq1023] at *; (try simp (disch := omega) only [pq_bm] at *); all_goals omega))) dX11_mixtureOf_5 (fun x5 e5 l5 u5 => ?_)
  refine pq_istore_n F dX11_mixtureOf_6 rfl (by decide) ?_
  refine pq_iconst (v := 0) F dX11_mixtureOf_7 (by decide) ?_
  refine pq_istore_n F dX11_mixtureOf_8 rfl (by decide) ?_
  exact pq_fgm [true, true, true, true] (L9  100000 _ _  (by focus ((try clear hh); (try clear p33); simp only [vp_in_iff, Int32.lt_iff_toInt_lt, Int32.le_iff_toInt_le, ← Int32.toInt_inj, Int32.toInt_add, Int32.toInt_sub, Int32.toInt_mul, Int32.toInt_neg, pq_NuO, pq_NuI, pq_NuJ, pq_NuR, pq_shr6, pq_shr7, pq_shr8, lqm1, lq0, lq1, lq15, lq31, lq128, lq1023] at *; (try simp (disch := omega) only [pq_bm] at *); all_goals omega)) (by focus ((try clear hh); (try clear p33); simp only [vp_in_iff, Int32.lt_iff_toInt_lt, Int32.le_iff_toInt_le, ← Int32.toInt_inj, Int32.toInt_add, Int32.toInt_sub, Int32.toInt_mul, Int32.toInt_neg, pq_NuO, pq_NuI, pq_NuJ, pq_NuR, pq_shr6, pq_shr7, pq_shr8, lqm1, lq0, lq1, lq15, lq31, lq128, lq1023] at *; (try simp (disch := omega) only [pq_bm] at *); all_goals omega)) (by show _ = hI S kd sn; rw [← tk_ix hsn, ← e5]) (by focus ((try clear hh); (try clear p33); simp only [vp_in_iff, Int32.lt_iff_toInt_lt, Int32.le_iff_toInt_le, ← Int32.toInt_inj, Int32.toInt_add, Int32.toInt_sub, Int32.toInt_mul, Int32.toInt_neg, pq_NuO, pq_NuI, pq_NuJ, pq_NuR, pq_shr6, pq_shr7, pq_shr8, lqm1, lq0, lq1, lq15, lq31, lq128, lq1023] at *; (try simp (disch := omega) only [pq_bm] at *); all_goals omega)))

