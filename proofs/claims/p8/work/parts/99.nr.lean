/-! ===== pairs of states, and the search of the class ===== -/
def tk_dl (koA stA : Nat → Int32) (nA : Nat) (koB stB : Nat → Int32) (nB : Nat) (q b : Nat) : Nat := 256 * (stA (nA * (q / 256) + (koA b).toInt.toNat)).toInt.toNat + (stB (nB * (q % 256) + (koB b).toInt.toNat)).toInt.toNat
def tk_wq (k : Int32) (acA acB : Nat → Int32) (q : Nat) : Prop := tk_kp k (acA (q / 256) = 1) (acB (q % 256) = 1)
theorem tk_Sa.step {ko st ac : Nat → Int32} {n sn s0 : Nat} {he : Int32} {L : List Nat → Prop} (h : tk_Sa ko st ac n sn s0 he L) {s b : Nat} (hs : s < sn) (hb : b < 128) : (st (n * s + (ko b).toInt.toNat)).toInt.toNat < sn := by
  obtain ⟨k, k1, k2⟩ := h.1 b hb
  obtain ⟨t, t1, t2⟩ := h.2.1 s k hs k1
  rw [k2, Int.toNat_natCast, t2, Int.toNat_natCast]
  exact t1
section DL
variable {koA stA acA koB stB acB : Nat → Int32} {nA snA sA nB snB sB : Nat} {heA heB : Int32} {LA LB : List Nat → Prop}
theorem tk_dl.run (hA : tk_Sa koA stA acA nA snA sA heA LA) (hB : tk_Sa koB stB acB nB snB sB heB LB) (hb : snB ≤ 201) : ∀ (w : List Nat) (x y : Nat), tp_t w → x < snA → y < snB → tk_rn (tk_dl koA stA nA koB stB nB) w (256 * x + y) = 256 * tk_cr koA stA nA w x + tk_cr koB stB nB w y ∧ tk_cr koA stA nA w x < snA ∧ tk_cr koB stB nB w y < snB := by
  intro w
  induction w with
  | nil => intro x y _ hx hy; exact ⟨rfl, hx, hy⟩
  | cons c w ih =>
    intro x y ht hx hy
    obtain ⟨hc, hw⟩ := List.forall_mem_cons.mp ht
    have e1 : (256 * x + y) / 256 = x := by omega
    have e2 : (256 * x + y) % 256 = y := by omega
    rw [tk_cr1, tk_cr1]
    show tk_rn _ w (tk_dl koA stA nA koB stB nB (256 * x + y) c) = _ ∧ _
    unfold tk_dl
    rw [e1, e2]
    exact ih _ _ hw (hA.step hx hc) (hB.step hy hc)
theorem tk_dl.K (hA : tk_Sa koA stA acA nA snA sA heA LA) (hB : tk_Sa koB stB acB nB snB sB heB LB) (hb : snB ≤ 201) {k : Int32} {v : List Nat} (hv : tp_t v) (hne : v ≠ []) : tk_Kd k LA LB v ↔ tk_wq k acA acB (tk_rn (tk_dl koA stA nA koB stB nB) v (256 * sA + sB)) := by
  cases v with
  | nil => exact absurd rfl hne
  | cons c w =>
    have a := tk_dl.run hA hB hb (c :: w) sA sB hv hA.2.2.1 hB.2.2.1
    unfold tk_Kd tk_wq
    rw [a.1, show (256 * tk_cr koA stA nA (c :: w) sA + tk_cr koB stB nB (c :: w) sB) / 256 = tk_cr koA stA nA (c :: w) sA by omega, show (256 * tk_cr koA stA nA (c :: w) sA + tk_cr koB stB nB (c :: w) sB) % 256 = tk_cr koB stB nB (c :: w) sB by omega, show LA (c :: w) = (acA (tk_cr koA stA nA (c :: w) sA) = 1) from propext (hA.2.2.2.2.2.2 c w hv), show LB (c :: w) = (acB (tk_cr koB stB nB (c :: w) sB) = 1) from propext (hB.2.2.2.2.2.2 c w hv)]
end DL
/-- joint kinds of the bytes before c: their least bytes -/
def tk_Jk (lb koA koB : Nat → Int32) (K c : Nat) : Prop := (∀ k, k < K → 0 ≤ (lb k).toInt ∧ (lb k).toInt < (c : Int)) ∧ (∀ j k, j < k → k < K → (lb j).toInt < (lb k).toInt) ∧ ∀ b, b < c → ∃ k, k < K ∧ (lb k).toInt ≤ (b : Int) ∧ koA (lb k).toInt.toNat = koA b ∧ koB (lb k).toInt.toNat = koB b
section JK
variable {lb koA koB : Nat → Int32} {K c : Nat}
theorem tk_Jk.beg : tk_Jk lb koA koB 0 0 := ⟨fun k hk => absurd hk (Nat.not_lt_zero _), fun j k _ hk => absurd hk (Nat.not_lt_zero _), fun b hb => absurd hb (Nat.not_lt_zero _)⟩
theorem tk_Jk.old (h : tk_Jk lb koA koB K c) {k : Nat} (hk : k < K) (e1 : koA (lb k).toInt.toNat = koA c) (e2 : koB (lb k).toInt.toNat = koB c) : tk_Jk lb koA koB K (c + 1) := by
  refine ⟨fun j hj => by have := h.1 j hj; omega, h.2.1, fun b hb => ?_⟩
  by_cases e : b = c
  · rw [e]; exact ⟨k, hk, by have := (h.1 k hk).2; omega, e1, e2⟩
  · exact h.2.2 b (by omega)
theorem tk_Jk.new (h : tk_Jk lb koA koB K c) {v : Int32} (hv : v.toInt = (c : Int)) : tk_Jk (upd lb K v) koA koB (K + 1) (c + 1) := by
  refine ⟨fun j hj => ?_, fun j k hjk hk => ?_, fun b hb => ?_⟩
  · by_cases e : j = K
    · rw [e, pk_us]; omega
    · rw [pk_un e]; have := h.1 j (by omega); omega
  · rw [pk_un (show j ≠ K by omega)]
    by_cases e : k = K
    · rw [e, pk_us]; have := (h.1 j (by omega)).2; omega
    · rw [pk_un e]; exact h.2.1 j k hjk (by omega)
  · by_cases e : b = c
    · rw [e]
      refine ⟨K, by omega, ?_, ?_, ?_⟩
      · rw [pk_us]; omega
      · rw [pk_us, show v.toInt.toNat = c by omega]
      · rw [pk_us, show v.toInt.toNat = c by omega]
    · obtain ⟨k, k1, k2, k3, k4⟩ := h.2.2 b (by omega)
      exact ⟨k, by omega, by rw [pk_un (show k ≠ K by omega)]; exact k2, by rw [pk_un (show k ≠ K by omega)]; exact k3, by rw [pk_un (show k ≠ K by omega)]; exact k4⟩
/-- the byte at which a kind begins -/
def tk_lb (lb : Nat → Int32) (K k : Nat) : Nat := if k < K then (lb k).toInt.toNat else 128
theorem tk_Jk.first (h : tk_Jk lb koA koB K 128) : tk_lb lb K 0 = 0 ∧ 1 ≤ K := by
  obtain ⟨k, k1, k2, _⟩ := h.2.2 0 (by decide)
  have hk := h.1 k k1
  have : k = 0 := Classical.byContradiction (fun e => by have := h.2.1 0 k (by omega) k1; have := h.1 0 (by omega); omega)
  subst this
  unfold tk_lb
  rw [if_pos k1]
  omega
/-- the next kind's byte: what lies between goes where smaller ones go -/
theorem tk_Jk.next (h : tk_Jk lb koA koB K 128) {k : Nat} (hk : k < K) : (lb k).toInt.toNat + 1 ≤ tk_lb lb K (k + 1) ∧ ∀ b, (lb k).toInt.toNat + 1 ≤ b → b < tk_lb lb K (k + 1) → b < 128 → ∃ b0, b0 < (lb k).toInt.toNat + 1 ∧ koA b0 = koA b ∧ koB b0 = koB b := by
  have h1 := h.1 k hk
  constructor
  · unfold tk_lb
    by_cases e : k + 1 < K
    · rw [if_pos e]; have := h.2.1 k (k + 1) (by omega) e; omega
    · rw [if_neg e]; omega
  · intro b b1 b2 b3
    obtain ⟨m, m1, m2, m3, m4⟩ := h.2.2 b b3
    have hm := h.1 m m1
    refine ⟨(lb m).toInt.toNat, ?_, m3, m4⟩
    have mk : m ≤ k := Classical.byContradiction (fun e => by
      unfold tk_lb at b2
      rw [if_pos (show k + 1 < K by omega)] at b2
      by_cases e2 : m = k + 1
      · subst e2; omega
      · have := h.2.1 (k + 1) m (by omega) m1
        have := h.1 (k + 1) (by omega)
        omega)
    by_cases e2 : m = k
    · subst e2; omega
    · have := h.2.1 m k (by omega) hk; omega
end JK
/-- the search so far: found n, from the i-th on, with the bytes below c -/
def tk_Sh (dl : Nat → Nat → Nat) (q0 : Nat) (sm : Int) (f o : Nat → Int32) (g : Nat → Int64) (n i c : Nat) : Prop := (∃ C : Nat → Nat, tk_Bq dl q0 1 (fun j => (f j).toInt.toNat) C (fun j => (o j).toInt.toNat / 128) (fun j => (o j).toInt.toNat % 128) n i c) ∧ ∀ q : Int32, 0 ≤ q.toInt → q.toInt < sm → pq_bs g q → ∃ j, 1 ≤ j ∧ j < n ∧ f j = q
section SH
variable {dl : Nat → Nat → Nat} {q0 n i c : Nat} {sm : Int} {f o : Nat → Int32} {g g2 : Nat → Int64}
theorem tk_Sh.old (h : tk_Sh dl q0 sm f o g n i c) (hi : i < n) {q : Int32} (hq : 0 ≤ q.toInt) (hq2 : q.toInt < sm) (hs : pq_bs g q) (e : q.toInt.toNat = dl (f i).toInt.toNat c) : tk_Sh dl q0 sm f o g n i (c + 1) := by
  obtain ⟨⟨C, h1⟩, h2⟩ := h
  obtain ⟨j, j1, j2, j3⟩ := h2 q hq hq2 hs
  exact ⟨⟨C, h1.old hi ⟨j, j1, j2, by show (f j).toInt.toNat = _; rw [j3]; exact e⟩⟩, h2⟩
theorem tk_Sh.new (h : tk_Sh dl q0 sm f o g n i c) (hi : i < n) (hc : c < 128) {q v : Int32} (e : q.toInt.toNat = dl (f i).toInt.toNat c) (hv : v.toInt = 128 * (i : Int) + (c : Int)) (hg : ∀ p : Int32, 0 ≤ p.toInt → pq_bs g2 p → pq_bs g p ∨ p = q) : tk_Sh dl q0 sm (upd f n q) (upd o n v) g2 (n + 1) i (c + 1) := by
  obtain ⟨⟨C, h1⟩, h2⟩ := h
  refine ⟨⟨fun j => if j = n then 128 * C i + c + 1 else C j, h1.new hi hc (fun j hj => ⟨?_, if_neg (by omega)⟩) (fun j _ hj => ⟨?_, ?_⟩) ?_ (if_pos rfl) ⟨?_, ?_⟩⟩, fun p hp hp2 hb => ?_⟩
  · show (upd f n q j).toInt.toNat = _
    rw [pk_un (by omega)]
  · show (upd o n v j).toInt.toNat / 128 = _
    rw [pk_un (by omega)]
  · show (upd o n v j).toInt.toNat % 128 = _
    rw [pk_un (by omega)]
  · show (upd f n q n).toInt.toNat = _
    rw [pk_us]; exact e
  · show (upd o n v n).toInt.toNat / 128 = _
    rw [pk_us]; omega
  · show (upd o n v n).toInt.toNat % 128 = _
    rw [pk_us]; omega
  · rcases hg p hp hb with w | w
    · obtain ⟨j, j1, j2, j3⟩ := h2 p hp hp2 w
      exact ⟨j, j1, by omega, by rw [pk_un (by omega)]; exact j3⟩
    · exact ⟨n, by have := h1.1.2.2.1; omega, by omega, by rw [pk_us, w]⟩
theorem tk_Sh.row (h : tk_Sh dl q0 sm f o g n i 128) : tk_Sh dl q0 sm f o g n (i + 1) 0 := by
  obtain ⟨⟨C, h1⟩, h2⟩ := h
  exact ⟨⟨C, h1.row⟩, h2⟩
theorem tk_Sh.more (h : tk_Sh dl q0 sm f o g n i c) (hi : i < n) {c2 : Nat} (hc : c ≤ c2) (hb : ∀ b, c ≤ b → b < c2 → b < 128 → ∃ b0, b0 < c ∧ dl (f i).toInt.toNat b = dl (f i).toInt.toNat b0) : tk_Sh dl q0 sm f o g n i c2 := by
  obtain ⟨⟨C, h1⟩, h2⟩ := h
  exact ⟨⟨C, h1.more hi hc hb⟩, h2⟩
theorem tk_Sh.beg (h0 : (f 0).toInt.toNat = q0) (hg : ∀ q : Int32, 0 ≤ q.toInt → q.toInt < sm → ¬ pq_bs g q) : tk_Sh dl q0 sm f o g 1 0 0 := ⟨⟨fun _ => 0, tk_Bq.beg h0 (Nat.le_refl _)⟩, fun q hq hq2 w => absurd w (hg q hq hq2)⟩
theorem pq_bs0 {q : Int32} (h : g (q.toInt / 64).toNat = 0) : ¬ pq_bs g q := fun w => by
  unfold pq_bs at w
  rw [h] at w
  obtain ⟨j, hj, _, hv⟩ := pq_bv_iff q
  exact w ((hv 0).mpr (by simp))
end SH
/-- the text's bytes in a row -/
def tk_Tx (T : Nat → Int32) (w : List Nat) : Prop := ∀ p, p < w.length → (T p).toInt = (w.getD p 0 : Int)
theorem tk_Pv.len {O B : Nat → Nat} : ∀ (r : List Nat) (j : Nat), tk_Pv O B r j → (∀ k, 1 ≤ k → k ≤ j → O k < k) → r.length ≤ j
  | [], j, _, _ => Nat.zero_le _
  | b :: r, j, ⟨h1, _, h3⟩, hO => by
    have a := hO j h1 (Nat.le_refl _)
    have := tk_Pv.len r (O j) h3 (fun k k1 k2 => hO k k1 (by omega))
    rw [List.length_cons]
    omega
