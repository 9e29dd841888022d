/-! ===== the texts of a pattern, and what presents them ===== -/
def tk_Lg (z : tr_Z) : List Nat → Prop
  | [] => z.2.2.1.2.1
  | b :: v => tz_ac z (tp_run (tz_e z) none (b :: v))
def tk_rr (ld : Nat → Int32) (f : Nat) : List Nat → Nat → Nat
  | [], s => s
  | b :: w, s => tk_rr ld f w (ld (128 * (f + s) + b)).toInt.toNat
/-- a table of steps and of ends, from f on, presents the texts L -/
def tk_Sd (en ld : Nat → Int32) (f : Nat) (L : List Nat → Prop) : Prop := ∃ N : Nat, (1 ≤ N ∧ N ≤ 402) ∧ (∀ s, s < N → en (f + s) = 0 ∨ en (f + s) = 1) ∧ (∀ s b, s < N → b < 128 → ∃ t : Nat, t < N ∧ (ld (128 * (f + s) + b)).toInt = (t : Int)) ∧ ∀ w, tp_t w → (L w ↔ en (f + tk_rr ld f w 0) = 1)
section SD
variable {z : tr_Z} {se : Nat → Int64} {nx lb lv en ld : Nat → Int32} {ns f : Nat} {is lost : Int32}
theorem tk_rr.lo (hdn : ∀ b, b < 128 → ld (128 * (f + ns) + b) = lost) (hl : lost.toInt = (ns : Int)) : ∀ w, tp_t w → tk_rr ld f w ns = ns
  | [], _ => rfl
  | b :: w, h => by
    obtain ⟨hb, hw⟩ := List.forall_mem_cons.mp h
    show tk_rr ld f w (ld (128 * (f + ns) + b)).toInt.toNat = ns
    rw [hdn b hb, show lost.toInt.toNat = ns by omega]
    exact tk_rr.lo hdn hl w hw
theorem tk_Sd.run (hB : tk_B z se nx lb ns ns) (hv : tk_lvs z se lv ns) (he : ∀ t, t < ns → en (f + t) = if t = 0 then is else if lb t = -1 then 0 else 1) (hen : en (f + ns) = 0) (hd : ∀ t b, t < ns → b < 128 → ld (128 * (f + t) + b) = if lv (nx (128 * t + b)).toInt.toNat = 0 then lost else nx (128 * t + b)) (hdn : ∀ b, b < 128 → ld (128 * (f + ns) + b) = lost) (hl : lost.toInt = (ns : Int)) : ∀ (w : List Nat) (t : Nat), t < ns → (t ≠ 0 ∨ w ≠ []) → tp_t w → (en (f + tk_rr ld f w t) = 1 ↔ tz_ac z (tp_run (tz_e z) (tk_bs se t) w))
  | [], t, ht, h0, _ => by
    have h0 : t ≠ 0 := h0.resolve_right (fun w => w rfl)
    show en (f + t) = 1 ↔ tz_ac z (tk_bs se t)
    have a := hB.2.2.2 t ht
    rw [he t ht, if_neg h0]
    unfold tk_bs
    rw [if_neg h0]
    rcases a.1 with e | e
    · rw [e, if_neg (by decide)]
      exact ⟨fun _ => (a.2.mp e).2, fun _ => rfl⟩
    · rw [e, if_pos rfl]
      exact ⟨fun w => absurd w (by decide), fun w => absurd (a.2.mpr ⟨h0, w⟩) (by rw [e]; decide)⟩
  | b :: w, t, ht, _, hw => by
    obtain ⟨hb, hw⟩ := List.forall_mem_cons.mp hw
    obtain ⟨u, u1, u2, u3, u4⟩ := hB.2.2.1 t b ht hb
    have eu : (nx (128 * t + b)).toInt.toNat = u := by omega
    have es : tz_e z (tk_bs se t) b = tk_bs se u := by
      rw [tk_bs.e, ← u4]
      unfold tk_bs
      rw [if_neg (by omega)]
    show en (f + tk_rr ld f w (ld (128 * (f + t) + b)).toInt.toNat) = 1 ↔ tz_ac z (tp_run (tz_e z) (tz_e z (tk_bs se t) b) w)
    rw [es, hd t b ht hb, eu]
    have v := hv u u3
    by_cases c : lv u = 0
    · rw [if_pos c, show lost.toInt.toNat = ns by omega, tk_rr.lo hdn hl w hw, hen]
      exact ⟨fun w => absurd w (by decide), fun y => absurd (v.2.mpr ⟨w, hw, y⟩) (by rw [c]; decide)⟩
    · rw [if_neg c, eu]
      exact tk_Sd.run hB hv he hen hd hdn hl w u u3 (Or.inl (by omega)) hw
theorem tk_Sd.mk (hB : tk_B z se nx lb ns ns) (hv : tk_lvs z se lv ns) (h1 : 1 ≤ ns) (h4 : ns ≤ 401) (his : is = 0 ∨ is = 1) (hem : is = 1 ↔ z.2.2.1.2.1) (he : ∀ t, t < ns → en (f + t) = if t = 0 then is else if lb t = -1 then 0 else 1) (hen : en (f + ns) = 0) (hd : ∀ t b, t < ns → b < 128 → ld (128 * (f + t) + b) = if lv (nx (128 * t + b)).toInt.toNat = 0 then lost else nx (128 * t + b)) (hdn : ∀ b, b < 128 → ld (128 * (f + ns) + b) = lost) (hl : lost.toInt = (ns : Int)) : tk_Sd en ld f (tk_Lg z) := by
  refine ⟨ns + 1, ⟨by omega, by omega⟩, fun s hs => ?_, fun s b hs hb => ?_, fun w hw => ?_⟩
  · by_cases e : s = ns
    · rw [e, hen]; exact Or.inl rfl
    · rw [he s (by omega)]
      by_cases e0 : s = 0
      · rw [if_pos e0]; exact his
      · rw [if_neg e0]
        by_cases e1 : lb s = -1
        · rw [if_pos e1]; exact Or.inl rfl
        · rw [if_neg e1]; exact Or.inr rfl
  · by_cases e : s = ns
    · rw [e, hdn b hb]; exact ⟨ns, by omega, hl⟩
    · rw [hd s b (by omega) hb]
      by_cases c : lv (nx (128 * s + b)).toInt.toNat = 0
      · rw [if_pos c]; exact ⟨ns, by omega, hl⟩
      · rw [if_neg c]
        obtain ⟨u, u1, _, u3, _⟩ := hB.2.2.1 s b (by omega) hb
        exact ⟨u, by omega, u1⟩
  · cases w with
    | nil =>
      show z.2.2.1.2.1 ↔ en (f + 0) = 1
      rw [he 0 (by omega), if_pos rfl, hem]
    | cons b v =>
      rw [tk_Sd.run hB hv he hen hd hdn hl (b :: v) 0 (by omega) (Or.inr (fun w => by cases w)) hw]
      exact Iff.rfl
end SD
def tk_cr (ko st : Nat → Int32) (n : Nat) : List Nat → Nat → Nat
  | [], s => s
  | b :: w, s => tk_cr ko st n w (st (n * s + (ko b).toInt.toNat)).toInt.toNat
theorem tk_cr0 {ko st : Nat → Int32} {n s : Nat} : tk_cr ko st n [] s = s := rfl
theorem tk_cr1 {ko st : Nat → Int32} {n s b : Nat} {w : List Nat} : tk_cr ko st n (b :: w) s = tk_cr ko st n w (st (n * s + (ko b).toInt.toNat)).toInt.toNat := rfl
/-- an automaton of the class presents the texts L -/
def tk_Sa (ko st ac : Nat → Int32) (n sn s0 : Nat) (he : Int32) (L : List Nat → Prop) : Prop :=
  (∀ b, b < 128 → ∃ k : Nat, k < n ∧ (ko b).toInt = (k : Int)) ∧ (∀ s k, s < sn → k < n → ∃ t : Nat, t < sn ∧ (st (n * s + k)).toInt = (t : Int)) ∧ s0 < sn ∧ (∀ s, s < sn → ac s = 0 ∨ ac s = 1) ∧ (he = 0 ∨ he = 1) ∧ (he = 1 ↔ L []) ∧ ∀ b w, tp_t (b :: w) → (L (b :: w) ↔ ac (tk_cr ko st n (b :: w) s0) = 1)
section SA
variable {z : tr_Z} {se : Nat → Int64} {sp bk ko st ac : Nat → Int32} {K ns nb s0 : Nat} {ls kd : Nat → Nat} {nr : Prop} {pd : Nat → Prop} {hem : Int32}
theorem tk_Sa.run (h : tk_Wi z se sp K ls ns ns 0 nr) (hG : tz_G z) (hK : tk_Kn z K ls kd) (hkd : ∀ b, b < 128 → (ko b).toInt = (kd b : Int)) (hst : ∀ t k, t < ns → k < K → st (K * (bk t).toInt.toNat + k) = bk (tk_sk sp K k t)) (hac : ∀ t, t < ns → (ac (bk t).toInt.toNat = 1 ↔ tz_ac z (tk_cb se t))) : ∀ (w : List Nat) (t : Nat), t < ns → tp_t w → (ac (tk_cr ko st K w (bk t).toInt.toNat) = 1 ↔ tz_ac z (tp_run (tz_e z) (tk_cb se t) w)) := by
  intro w
  induction w with
  | nil =>
    intro t ht _
    rw [tk_cr0]
    exact hac t ht
  | cons b w ih =>
    intro t ht hw
    obtain ⟨hb, hw⟩ := List.forall_mem_cons.mp hw
    have a := h.n hG hK t b ht hb
    rw [tk_cr1]
    show _ ↔ tz_ac z (tp_run (tz_e z) (tz_e z (tk_cb se t) b) w)
    have ek : (ko b).toInt.toNat = kd b := (congrArg Int.toNat (hkd b hb)).trans (Int.toNat_natCast _)
    rw [ek, hst t (kd b) ht (hK.2.2 b hb).1, a.2]
    exact ih _ a.1 hw
theorem tk_Sa.mk (h : tk_Wi z se sp K ls ns ns 0 nr) (hG : tz_G z) (hK : tk_Kn z K ls kd) (hkd : ∀ b, b < 128 → (ko b).toInt = (kd b : Int)) (hM : tk_CM z se sp K ns bk nb pd) (hst : ∀ t k, t < ns → k < K → st (K * (bk t).toInt.toNat + k) = bk (tk_sk sp K k t)) (ha0 : ∀ t, t < ns → ac (bk t).toInt.toNat = 0 ∨ ac (bk t).toInt.toNat = 1) (hac : ∀ t, t < ns → (ac (bk t).toInt.toNat = 1 ↔ tz_ac z (tk_cb se t))) (hs0 : (bk 1).toInt = (s0 : Int)) (hm0 : hem = 0 ∨ hem = 1) (hmm : hem = 1 ↔ z.2.2.1.2.1) : tk_Sa ko st ac K nb s0 hem (tk_Lg z) := by
  have n2 := h.1.1
  refine ⟨fun b hb => ⟨kd b, (hK.2.2 b hb).1, hkd b hb⟩, fun s k hs hk => ?_, ?_, fun s hs => ?_, hm0, hmm, fun b w hw => ?_⟩
  · obtain ⟨t, t1, t2⟩ := hM.2.1 s hs
    have e := hst t k t1 hk
    rw [show (bk t).toInt.toNat = s by omega] at e
    rw [e]
    obtain ⟨j, j1, j2⟩ := hM.1 _ (h.sk t1 hk).1
    exact ⟨j, j1, j2⟩
  · obtain ⟨j, j1, j2⟩ := hM.1 1 (by omega)
    omega
  · obtain ⟨t, t1, t2⟩ := hM.2.1 s hs
    have e := ha0 t t1
    rwa [show (bk t).toInt.toNat = s by omega] at e
  · have := tk_Sa.run h hG hK hkd hst hac (b :: w) 1 (by omega) hw
    rw [show (bk 1).toInt.toNat = s0 by omega, tk_cb1] at this
    exact this.symm
end SA
