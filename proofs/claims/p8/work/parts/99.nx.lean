/-! ===== the reference's search ===== -/
theorem tk_rm {x : Int32} (h : 0 ≤ x.toInt) : (x % 402).toInt = x.toInt % 402 := by
  rw [Int32.toInt_mod, show (402 : Int32).toInt = 402 from rfl, Int.tmod_eq_emod_of_nonneg h]
theorem tk_dv {x : Int32} (h : 0 ≤ x.toInt) : (x / 402).toInt = x.toInt / 402 := pq_dv (y := 402) h (by decide)
def tk_dr (ld : Nat → Int32) (q b : Nat) : Nat := 402 * (ld (128 * (0 + q / 402) + b)).toInt.toNat + (ld (128 * (402 + q % 402) + b)).toInt.toNat
def tk_wv (k : Int32) (en : Nat → Int32) (q : Nat) : Prop := tk_kp k (en (0 + q / 402) = 1) (en (402 + q % 402) = 1)
section DR
variable {en ld : Nat → Int32} {LA LB : List Nat → Prop} {NA NB : Nat}
/-- how the two sides' tables go on -/
def tk_cz (ld : Nat → Int32) (f N : Nat) : Prop := ∀ s b, s < N → b < 128 → ∃ t : Nat, t < N ∧ (ld (128 * (f + s) + b)).toInt = (t : Int)
theorem tk_dr.run (hA : tk_cz ld 0 NA) (hB : tk_cz ld 402 NB) (hb : NB ≤ 402) : ∀ (w : List Nat) (x y : Nat), tp_t w → x < NA → y < NB → tk_rn (tk_dr ld) w (402 * x + y) = 402 * tk_rr ld 0 w x + tk_rr ld 402 w y ∧ tk_rr ld 0 w x < NA ∧ tk_rr ld 402 w y < NB := by
  intro w
  induction w with
  | nil => intro x y _ hx hy; exact ⟨rfl, hx, hy⟩
  | cons c w ih =>
    intro x y ht hx hy
    obtain ⟨hc, hw⟩ := List.forall_mem_cons.mp ht
    have e1 : (402 * x + y) / 402 = x := by omega
    have e2 : (402 * x + y) % 402 = y := by omega
    obtain ⟨t, t1, t2⟩ := hA x c hx hc
    obtain ⟨u, u1, u2⟩ := hB y c hy hc
    rw [tk_rr1, tk_rr1]
    show tk_rn _ w (tk_dr ld (402 * x + y) c) = _ ∧ _
    unfold tk_dr
    rw [e1, e2, t2, u2, Int.toNat_natCast, Int.toNat_natCast]
    exact ih _ _ hw t1 u1
theorem tk_dr.K (hA : tk_Sd en ld 0 LA) (hB : tk_Sd en ld 402 LB) {k : Int32} {v : List Nat} (hv : tp_t v) : tk_Kd k LA LB v ↔ tk_wv k en (tk_rn (tk_dr ld) v 0) := by
  obtain ⟨N, hN, _, h2, h3⟩ := hA
  obtain ⟨M, hM, _, g2, g3⟩ := hB
  have a := tk_dr.run h2 g2 hM.2 v 0 0 hv (by omega) (by omega)
  unfold tk_Kd tk_wv
  rw [show (402 * 0 + 0 : Nat) = 0 from rfl] at a
  rw [a.1, show (402 * tk_rr ld 0 v 0 + tk_rr ld 402 v 0) / 402 = tk_rr ld 0 v 0 by omega, show (402 * tk_rr ld 0 v 0 + tk_rr ld 402 v 0) % 402 = tk_rr ld 402 v 0 by omega, show LA v = (en (0 + tk_rr ld 0 v 0) = 1) from propext (h3 v hv), show LB v = (en (402 + tk_rr ld 402 v 0) = 1) from propext (g3 v hv)]
end DR
/-- a path back over pairs -/
def tk_Pw (fr bb : Nat → Int32) : List Nat → Int32 → Prop
  | [], p => p = 0
  | b :: r, p => p ≠ 0 ∧ 0 ≤ p.toInt ∧ p.toInt < 161604 ∧ (bb p.toInt.toNat).toInt = (b : Int) ∧ tk_Pw fr bb r (fr p.toInt.toNat)
/-- the search so far -/
def tk_Rs (dl : Nat → Nat → Nat) (qu fr bb : Nat → Int32) (n i c : Nat) : Prop := (∃ C O B : Nat → Nat, tk_Bq dl 0 0 (fun j => (qu j).toInt.toNat) C O B n i c ∧ ∀ j, 1 ≤ j → j < n → fr (qu j).toInt.toNat = qu (O j) ∧ (bb (qu j).toInt.toNat).toInt = (B j : Int)) ∧ (∀ j, j < n → 0 ≤ (qu j).toInt ∧ (qu j).toInt < 161604 ∧ fr (qu j).toInt.toNat ≠ -1) ∧ (∀ j k, j < k → k < n → qu j ≠ qu k) ∧ qu 0 = 0 ∧ ∀ q, q < 161604 → fr q ≠ -1 → ∃ j, j < n ∧ (qu j).toInt = (q : Int)
section RS
variable {dl : Nat → Nat → Nat} {qu fr bb : Nat → Int32} {n i c : Nat}
theorem tk_Rs.most (h : tk_Rs dl qu fr bb n i c) : n ≤ 161604 := pq_pg 161604 n (fun j => (qu j).toInt.toNat) (fun j hj => by have := h.2.1 j hj; show (qu j).toInt.toNat < _; omega) (fun j k hjk hk => by
  have a := h.2.1 j (by omega)
  have b := h.2.1 k hk
  have := h.2.2.1 j k hjk hk
  show (qu j).toInt.toNat ≠ (qu k).toInt.toNat
  intro e
  exact this (Int32.toInt_inj.mp (by omega)))
theorem tk_Rs.beg (h0 : ∀ q, q < 161604 → q ≠ 0 → fr q = -1) (hq : qu 0 = 0) (hf : fr 0 = 0) : tk_Rs dl qu fr bb 1 0 0 := by
  refine ⟨⟨fun _ => 0, fun _ => 0, fun _ => 0, tk_Bq.beg (by show (qu 0).toInt.toNat = 0; rw [hq]; rfl) (by decide), fun j h1 h2 => absurd h2 (by omega)⟩, fun j hj => ?_, fun j k h1 h2 => absurd h2 (by omega), hq, fun q hq2 hne => ?_⟩
  · have e : j = 0 := by omega
    subst e
    rw [hq]
    exact ⟨by decide, by decide, by rw [show (0 : Int32).toInt.toNat = 0 from rfl, hf]; decide⟩
  · by_cases e : q = 0
    · subst e; exact ⟨0, by omega, by rw [hq]; rfl⟩
    · exact absurd (h0 q hq2 e) hne
theorem tk_Rs.old (h : tk_Rs dl qu fr bb n i c) (hi : i < n) {q : Nat} (hq : q < 161604) (hs : fr q ≠ -1) (e : q = dl (qu i).toInt.toNat c) : tk_Rs dl qu fr bb n i (c + 1) := by
  obtain ⟨⟨C, O, B, h1, h2⟩, h3, h4, h5, h6⟩ := h
  obtain ⟨j, j1, j2⟩ := h6 q hq hs
  exact ⟨⟨C, O, B, h1.old hi ⟨j, Nat.zero_le _, j1, by show (qu j).toInt.toNat = _; rw [← e]; omega⟩, h2⟩, h3, h4, h5, h6⟩
theorem tk_Rs.new (h : tk_Rs dl qu fr bb n i c) (hi : i < n) (hc : c < 128) {t b : Int32} {q : Nat} (ht : t.toInt = (q : Int)) (hq : q < 161604) (hs : fr q = -1) (e : q = dl (qu i).toInt.toNat c) (hb : b.toInt = (c : Int)) : tk_Rs dl (upd qu n t) (upd fr q (qu i)) (upd bb q b) (n + 1) i (c + 1) := by
  obtain ⟨⟨C, O, B, h1, h2⟩, h3, h4, h5, h6⟩ := h
  have n1 := h1.1.2.2.1
  have nq : ∀ j, j < n → (qu j).toInt.toNat ≠ q := fun j hj w => (h3 j hj).2.2 (by rw [w]; exact hs)
  have hi3 := h3 i hi
  refine ⟨⟨fun j => if j = n then 128 * C i + c + 1 else C j, fun j => if j = n then i else O j, fun j => if j = n then c else B j, h1.new hi hc (fun j hj => ⟨?_, if_neg (by omega)⟩) (fun j _ hj => ⟨if_neg (by omega), if_neg (by omega)⟩) ?_ (if_pos rfl) ⟨if_pos rfl, if_pos rfl⟩, fun j j1 j2 => ?_⟩, fun j hj => ?_, fun j k hjk hk => ?_, ?_, fun p hp hne => ?_⟩
  · show (upd qu n t j).toInt.toNat = _
    rw [pk_un (by omega)]
  · show (upd qu n t n).toInt.toNat = _
    rw [pk_us, ← e]; omega
  · show upd fr q (qu i) (upd qu n t j).toInt.toNat = upd qu n t (if j = n then i else O j) ∧ (upd bb q b (upd qu n t j).toInt.toNat).toInt = (((if j = n then c else B j) : Nat) : Int)
    by_cases ej : j = n
    · rw [ej, pk_us, show t.toInt.toNat = q by omega, pk_us, pk_us, if_pos rfl, if_pos rfl, pk_un (show i ≠ n by omega)]
      exact ⟨rfl, hb⟩
    · rw [pk_un ej, if_neg ej, if_neg ej, pk_un (nq j (by omega)), pk_un (nq j (by omega))]
      have a := h2 j j1 (by omega)
      have o := (h1.2.1 j j1 (by omega)).1
      rw [pk_un (show O j ≠ n by omega)]
      exact a
  · by_cases ej : j = n
    · rw [ej, pk_us, show t.toInt.toNat = q by omega, pk_us]
      exact ⟨by omega, by omega, fun w => by have := hi3.1; rw [w] at this; exact absurd this (by decide)⟩
    · rw [pk_un ej, pk_un (nq j (by omega))]
      exact h3 j (by omega)
  · rw [pk_un (show j ≠ n by omega)]
    by_cases ek : k = n
    · rw [ek, pk_us]
      exact fun w => nq j (by omega) (by rw [w]; omega)
    · rw [pk_un ek]; exact h4 j k hjk (by omega)
  · rw [pk_un (show 0 ≠ n by omega)]; exact h5
  · by_cases ep : p = q
    · exact ⟨n, by omega, by rw [pk_us, ht, ep]⟩
    · rw [pk_un ep] at hne
      obtain ⟨j, j1, j2⟩ := h6 p hp hne
      exact ⟨j, by omega, by rw [pk_un (show j ≠ n by omega)]; exact j2⟩
theorem tk_Rs.row (h : tk_Rs dl qu fr bb n i 128) : tk_Rs dl qu fr bb n (i + 1) 0 := by
  obtain ⟨⟨C, O, B, h1, h2⟩, h3⟩ := h
  exact ⟨⟨C, O, B, h1.row, h2⟩, h3⟩
theorem tk_Pv.w {O B : Nat → Nat} (hP : ∀ j, j < n → 0 ≤ (qu j).toInt ∧ (qu j).toInt < 161604) (hne : ∀ j, 1 ≤ j → j < n → qu j ≠ 0) (h0 : qu 0 = 0) (hO : ∀ j, 1 ≤ j → j < n → O j < j ∧ fr (qu j).toInt.toNat = qu (O j) ∧ (bb (qu j).toInt.toNat).toInt = (B j : Int)) : ∀ (r : List Nat) (j : Nat), j < n → tk_Pv O B r j → tk_Pw fr bb r (qu j)
  | [], j, _, h => by
    have e : j = 0 := h
    subst e; exact h0
  | b :: r, j, hj, ⟨h1, h2, h3⟩ => by
    obtain ⟨o1, o2, o3⟩ := hO j h1 hj
    refine ⟨hne j h1 hj, (hP j hj).1, (hP j hj).2, by rw [o3, h2], ?_⟩
    rw [o2]
    exact tk_Pv.w hP hne h0 hO r (O j) (by omega) h3
/-- a wanted pair: the first text -/
theorem tk_Rs.fst {ld en : Nat → Int32} {LA LB : List Nat → Prop} {kd : Int32} (h : tk_Rs (tk_dr ld) qu fr bb n i 0) (hi : i < n) (hA : tk_Sd en ld 0 LA) (hB : tk_Sd en ld 402 LB) (hnw : ∀ j, j < i → ¬ tk_wv kd en (qu j).toInt.toNat) (hw : tk_wv kd en (qu i).toInt.toNat) : ∃ r : List Nat, tk_Pw fr bb r (qu i) ∧ r.length ≤ i ∧ tk_Ff (tk_Kd kd LA LB) r.reverse := by
  obtain ⟨⟨C, O, B, h1, h2⟩, h3, h4, h5, h6⟩ := h
  obtain ⟨r, r1, r2, r3, r4⟩ := h1.pt i i (Nat.le_refl _) hi
  refine ⟨r, tk_Pv.w (fun j hj => ⟨(h3 j hj).1, (h3 j hj).2.1⟩) (fun j j1 hj w => h4 0 j (by omega) hj (by rw [h5, w])) h5 (fun j j1 hj => ⟨(h1.2.1 j j1 hj).1, h2 j j1 hj⟩) r i hi r1, tk_Pv.len r i r1 (fun k k1 k2 => (h1.2.1 k k1 (by omega)).1), h1.fst0 hi (fun v hv => tk_dr.K hA hB hv) hnw hw r2 r3 r4⟩
theorem tk_Rs.none {ld en : Nat → Int32} {LA LB : List Nat → Prop} {kd : Int32} (h : tk_Rs (tk_dr ld) qu fr bb n n 0) (hA : tk_Sd en ld 0 LA) (hB : tk_Sd en ld 402 LB) (hnw : ∀ j, j < n → ¬ tk_wv kd en (qu j).toInt.toNat) : tk_No (tk_Kd kd LA LB) := by
  obtain ⟨⟨C, O, B, h1, _⟩, _⟩ := h
  exact h1.none0 (fun v hv => tk_dr.K hA hB hv) hnw
end RS
