/-! ===== the reference's sets, numbered ===== -/
def tk_X (se : Nat → Int64) (t : Nat) : tz_S := fun q => tk_bit se (7 * t) q
def tk_st (z : tr_Z) (se : Nat → Int64) (t b : Nat) : tz_S := if t = 0 then tz_d0 z b else tz_d z (tk_X se t) b
def tk_bs (se : Nat → Int64) (t : Nat) : Option tz_S := if t = 0 then none else some (tk_X se t)
/-- the states below ns are sets that are come to, no two the same; those below s have their steps and labels -/
def tk_B (z : tr_Z) (se : Nat → Int64) (nx lb : Nat → Int32) (ns s : Nat) : Prop :=
  (∀ t, 1 ≤ t → t < ns → tp_R (tz_d0 z) (tz_d z) (tk_X se t)) ∧ (∀ t u, 1 ≤ t → t < u → u < ns → tk_X se t ≠ tk_X se u) ∧
  (∀ t b, t < s → b < 128 → ∃ u : Nat, (nx (128 * t + b)).toInt = (u : Int) ∧ 1 ≤ u ∧ u < ns ∧ tk_X se u = tk_st z se t b) ∧
  ∀ t, t < s → (lb t = 0 ∨ lb t = -1) ∧ (lb t = 0 ↔ (t ≠ 0 ∧ ∃ p, tk_X se t p ∧ z.2.2.1.2.2 p))
theorem tk_X.sm {se se' : Nat → Int64} {t t' : Nat} (h : ∀ w, w < 7 → se' (7 * t' + w) = se (7 * t + w)) : tk_X se' t' = tk_X se t := funext fun _ => propext (tk_bit.sm h)
theorem tk_bs.e {z : tr_Z} {se : Nat → Int64} {t b : Nat} : tz_e z (tk_bs se t) b = some (tk_st z se t b) := by
  unfold tk_bs tk_st
  by_cases h : t = 0
  · rw [if_pos h, if_pos h]; rfl
  · rw [if_neg h, if_neg h]; rfl
section TD
variable {z : tr_Z} {se : Nat → Int64} {nx lb : Nat → Int32} {ns s : Nat}
theorem tk_B.st (h : tk_B z se nx lb ns s) {t b : Nat} (ht : t < ns) (hb : b < 128) : tp_R (tz_d0 z) (tz_d z) (tk_st z se t b) := by
  unfold tk_st
  by_cases e : t = 0
  · rw [if_pos e]; exact tp_R.s hb
  · rw [if_neg e]; exact (h.1 t (by omega) ht).go hb
theorem tk_B.nd (h : tk_B z se nx lb ns s) : ((List.range (ns - 1)).map (fun i => tk_X se (i + 1))).Nodup := by
  refine List.pairwise_map.mpr (List.Pairwise.imp_of_mem ?_ List.nodup_range)
  intro i j hi hj hne e
  have hi := List.mem_range.mp hi
  have hj := List.mem_range.mp hj
  by_cases c : i < j
  · exact h.2.1 (i + 1) (j + 1) (by omega) (by omega) (by omega) e
  · exact h.2.1 (j + 1) (i + 1) (by omega) (by omega) (by omega) e.symm
/-- one set more than may be -/
theorem tk_B.big (h : tk_B z se nx lb 401 s) {B : tz_S} (hB : tp_R (tz_d0 z) (tz_d z) B) (hn : ∀ t, 1 ≤ t → t < 401 → tk_X se t ≠ B) : tz_big z := by
  refine ⟨B :: (List.range 400).map (fun i => tk_X se (i + 1)), List.nodup_cons.mpr ⟨fun hm => ?_, h.nd⟩, by rw [List.length_cons, List.length_map, List.length_range], List.forall_mem_cons.mpr ⟨hB, fun x hx => ?_⟩⟩
  · obtain ⟨i, hi, e⟩ := List.mem_map.mp hm
    have := List.mem_range.mp hi
    exact hn (i + 1) (by omega) (by omega) e
  · obtain ⟨i, hi, rfl⟩ := List.mem_map.mp hx
    have := List.mem_range.mp hi
    exact h.1 (i + 1) (by omega) (by omega)
theorem tk_B.A (h : tk_B z se nx lb ns ns) (hn : 1 ≤ ns) : tp_A (tz_d0 z) (tz_d z) ((List.range (ns - 1)).map (fun i => tk_X se (i + 1))) := by
  have mem : ∀ u, 1 ≤ u → u < ns → tk_X se u ∈ (List.range (ns - 1)).map (fun i => tk_X se (i + 1)) := fun u h1 h2 => List.mem_map.mpr ⟨u - 1, List.mem_range.mpr (by omega), by rw [show u - 1 + 1 = u by omega]⟩
  refine ⟨h.nd, fun x hx => ?_, fun b hb => ?_, fun x hx b hb => ?_⟩
  · obtain ⟨i, hi, rfl⟩ := List.mem_map.mp hx
    have := List.mem_range.mp hi
    exact h.1 (i + 1) (by omega) (by omega)
  · obtain ⟨u, -, u1, u2, u3⟩ := h.2.2.1 0 b (by omega) hb
    have e : tk_st z se 0 b = tz_d0 z b := if_pos rfl
    rw [← e, ← u3]
    exact mem u u1 u2
  · obtain ⟨i, hi, rfl⟩ := List.mem_map.mp hx
    have := List.mem_range.mp hi
    obtain ⟨u, -, u1, u2, u3⟩ := h.2.2.1 (i + 1) b (by omega) hb
    have e : tk_st z se (i + 1) b = tz_d z (tk_X se (i + 1)) b := if_neg (by omega)
    rw [← e, ← u3]
    exact mem u u1 u2
def tk_nx (nx : Nat → Int32) (t b : Nat) : Nat := (nx (128 * t + b)).toInt.toNat
theorem tk_B.n (h : tk_B z se nx lb ns ns) (t b : Nat) (ht : t < ns) (hb : b < 128) : tk_nx nx t b < ns ∧ tz_e z (tk_bs se t) b = tk_bs se (tk_nx nx t b) := by
  obtain ⟨u, u0, u1, u2, u3⟩ := h.2.2.1 t b ht hb
  have e : tk_nx nx t b = u := by unfold tk_nx; rw [u0]; rfl
  rw [e, tk_bs.e, ← u3]
  exact ⟨u2, by unfold tk_bs; rw [if_neg (by omega)]⟩
theorem tk_B.V (h : tk_B z se nx lb ns ns) (t : Nat) (ht : t < ns) : tz_V z (tk_bs se t) := by
  unfold tk_bs
  by_cases e : t = 0
  · rw [if_pos e]; exact trivial
  · rw [if_neg e]; exact h.1 t (by omega) ht
theorem tk_B.c (h : tk_B z se nx lb ns ns) (hn : 1 ≤ ns) (x : Option tz_S) (hx : tz_V z x) : ∃ t, t < ns ∧ x = tk_bs se t := by
  cases x with
  | none => exact ⟨0, hn, rfl⟩
  | some X =>
    have := ((h.A hn).m X).mpr hx
    obtain ⟨i, hi, e⟩ := List.mem_map.mp this
    have := List.mem_range.mp hi
    exact ⟨i + 1, by omega, by unfold tk_bs; rw [if_neg (by omega), e]⟩
theorem tk_B.ac (h : tk_B z se nx lb ns ns) (t : Nat) (ht : t < ns) : tz_ac z (tk_bs se t) ↔ lb t = 0 := by
  rw [(h.2.2.2 t ht).2]
  unfold tk_bs
  by_cases e : t = 0
  · rw [if_pos e]; exact ⟨fun z => z.elim, fun z => absurd e z.1⟩
  · rw [if_neg e]; exact ⟨fun z => ⟨e, z⟩, fun z => z.2⟩
/-- what the answer is, once the living ones are told apart -/
theorem tk_B.ans (h : tk_B z se nx lb ns ns) (hn : 1 ≤ ns) (hn4 : ns ≤ 401) {g : Nat → Nat} {kn : Nat} (hu : ∀ k, k < kn → ∃ t, t < ns ∧ tp_l (tz_e z) (tz_ac z) (tk_bs se t) ∧ g t = k) (hb : ∀ t, t < ns → tp_l (tz_e z) (tz_ac z) (tk_bs se t) → g t < kn) (hq : ∀ t u, t < ns → u < ns → tp_l (tz_e z) (tz_ac z) (tk_bs se t) → tp_q (tz_e z) (tz_ac z) (tk_bs se t) (tk_bs se u) → g t = g u) (hs : ∀ t u, t < ns → u < ns → tp_l (tz_e z) (tz_ac z) (tk_bs se t) → tp_l (tz_e z) (tz_ac z) (tk_bs se u) → g t = g u → tp_q (tz_e z) (tz_ac z) (tk_bs se t) (tk_bs se u)) : tz_ans (Sum.inr z) (if kn ≤ 200 then (kn : Int) else -1) := by
  refine Or.inr ⟨⟨_, h.A hn, by rw [List.length_map, List.length_range]; omega⟩, ?_⟩
  by_cases c : kn ≤ 200
  · rw [if_pos c]
    obtain ⟨M, m1, m2⟩ := tp_mkW (V := tz_V z) h.V (h.c hn) hu hb hq hs
    exact Or.inr ⟨M, m1, by omega, by rw [m2]⟩
  · rw [if_neg c]
    obtain ⟨M, m1, m2, -⟩ := tp_mkD (V := tz_V z) h.V hu hq 201 (by omega)
    exact Or.inl ⟨M, m1, m2, rfl⟩
/-! one set more -/
theorem tk_B.sm {se' : Nat → Int64} {nx' lb' : Nat → Int32} (h : tk_B z se nx lb ns s) (h1 : ∀ i, i < 7 * ns → se' i = se i) (h2 : ∀ i, i < 128 * s → nx' i = nx i) (h3 : ∀ i, i < s → lb' i = lb i) (hs : s ≤ ns) : tk_B z se' nx' lb' ns s := by
  have e : ∀ t, t < ns → tk_X se' t = tk_X se t := fun t ht => tk_X.sm (fun w hw => h1 _ (by omega))
  have est : ∀ t b, t < ns → tk_st z se' t b = tk_st z se t b := fun t b ht => by unfold tk_st; rw [e t ht]
  refine ⟨fun t a b => by rw [e t b]; exact h.1 t a b, fun t u a b c => by rw [e t (by omega), e u c]; exact h.2.1 t u a b c, fun t b ht hb => ?_, fun t ht => by rw [h3 t ht, e t (by omega)]; exact h.2.2.2 t ht⟩
  obtain ⟨u, u0, u1, u2, u3⟩ := h.2.2.1 t b ht hb
  exact ⟨u, by rw [h2 _ (by omega)]; exact u0, u1, u2, by rw [e u u2, est t b (by omega)]; exact u3⟩
theorem tk_B.new {se' : Nat → Int64} {B : tz_S} (h : tk_B z se nx lb ns s) (hs : s ≤ ns) (h1 : ∀ i, i < 7 * ns → se' i = se i) (hB : tk_X se' ns = B) (hr : tp_R (tz_d0 z) (tz_d z) B) (hn : ∀ t, 1 ≤ t → t < ns → tk_X se t ≠ B) : tk_B z se' nx lb (ns + 1) s := by
  have h0 := h.sm (nx' := nx) (lb' := lb) h1 (fun _ _ => rfl) (fun _ _ => rfl) hs
  have e : ∀ t, t < ns → tk_X se' t = tk_X se t := fun t ht => tk_X.sm (fun w hw => h1 _ (by omega))
  refine ⟨fun t a b => ?_, fun t u a b c => ?_, fun t b ht hb => ?_, h0.2.2.2⟩
  · by_cases c : t = ns
    · rw [c, hB]; exact hr
    · exact h0.1 t a (by omega)
  · by_cases d : u = ns
    · rw [d, hB, e t (by omega)]
      exact hn t a (by omega)
    · exact h0.2.1 t u a b (by omega)
  · obtain ⟨u, u0, u1, u2, u3⟩ := h0.2.2.1 t b ht hb
    exact ⟨u, u0, u1, by omega, u3⟩
/-! chains -/
def tk_lk (ac : Nat → Int32) (h : Int32) (t : Nat) : Prop := ∀ Q : Int → Prop, Q h.toInt → (∀ u : Nat, Q (u : Int) → Q (ac u).toInt) → Q (t : Int)
theorem tk_lk.st {ac : Nat → Int32} {h : Int32} {t u : Nat} (H : tk_lk ac h t) (hu : h.toInt = (u : Int)) (hn : t ≠ u) : tk_lk ac (ac u) t := fun Q a b => by
  have := H (fun v => v = (u : Int) ∨ Q v) (Or.inl hu) (fun w hw => hw.elim (fun e => Or.inr (by have hwu : w = u := (by omega); rw [hwu]; exact a)) (fun e => Or.inr (b w e)))
  rcases this with z | z
  · exact absurd (by omega) hn
  · exact z
theorem tk_lk.no {ac : Nat → Int32} {t : Nat} (H : tk_lk ac (-1) t) : False := by
  have := H (fun v => v = -1) rfl (fun u hu => by omega)
  omega
theorem tk_lk.self {ac : Nat → Int32} {h : Int32} {t : Nat} (hh : h.toInt = (t : Int)) : tk_lk ac h t := fun Q a _ => by rw [← hh]; exact a
/-- state n comes ahead of the others of its slot j -/
theorem tk_lk.ins {ac hd : Nat → Int32} {lo n j i : Nat} {v : Int32} {t : Nat} (hb : ∀ u : Nat, lo ≤ u → u < n → (ac u).toInt = -1 ∨ ((lo : Int) ≤ (ac u).toInt ∧ (ac u).toInt < n)) (hh : (hd i).toInt = -1 ∨ ((lo : Int) ≤ (hd i).toInt ∧ (hd i).toInt < n)) (hv : v.toInt = (n : Int)) (H : tk_lk ac (hd i) t) : tk_lk (upd ac n (hd j)) (upd hd j v i) t := fun Q a b => by
  have q0 : Q (hd i).toInt := by
    by_cases e : i = j
    · rw [e, pk_us, hv] at a
      have := b n a
      rw [pk_us] at this
      rw [e]; exact this
    · rw [pk_un e] at a; exact a
  have := H (fun v => Q v ∧ (v = -1 ∨ ((lo : Int) ≤ v ∧ v < n))) ⟨q0, hh⟩ (fun u ⟨x, y⟩ => by
    have y' : (lo : Int) ≤ (u : Int) ∧ (u : Int) < n := y.resolve_left (by omega)
    have c := b u x
    rw [pk_un (by omega)] at c
    exact ⟨c, hb u (by omega) (by omega)⟩)
  exact this.1
end TD
/-- where each place's row is -/
def tk_wr (f g w : Nat → Int32) (n : Int) : Prop := ∀ j p : Nat, (j : Int) < n → f j = 0 → (g j).toInt = (p : Int) → ∃ i : Nat, (i : Int) < n ∧ (w p).toInt = (i : Int) ∧ f i = 0 ∧ (g i).toInt = (p : Int)
theorem tk_wr.no {f g w : Nat → Int32} {i : Int32} (H : tk_wr f g w i.toInt) (h0 : 0 ≤ i.toInt) (h : ¬ f i.toNatClampNeg = 0) : tk_wr f g w (i.toInt + 1) := fun j p hj hf hg => by
  have hc : (i.toNatClampNeg : Int) = i.toInt := by rw [← Int32.toNat_toInt]; omega
  obtain ⟨k, a, b, c, d⟩ := H j p (by
    have : j ≠ i.toNatClampNeg := fun e => h (e ▸ hf)
    omega) hf hg
  exact ⟨k, by omega, b, c, d⟩
theorem tk_wr.one {f g w : Nat → Int32} {i x : Int32} (H : tk_wr f g w i.toInt) (h0 : 0 ≤ i.toInt) (hf0 : f i.toNatClampNeg = 0) (hx : x = g i.toNatClampNeg) (hx0 : 0 ≤ x.toInt) : tk_wr f g (upd w x.toNatClampNeg i) (i.toInt + 1) := fun j p hj hf hg => by
  have hc : (i.toNatClampNeg : Int) = i.toInt := by rw [← Int32.toNat_toInt]; omega
  have hd : (x.toNatClampNeg : Int) = x.toInt := by rw [← Int32.toNat_toInt]; omega
  by_cases e : p = x.toNatClampNeg
  · refine ⟨i.toNatClampNeg, by omega, by rw [e, pk_us]; omega, hf0, by rw [← hx]; omega⟩
  · have hn : j ≠ i.toNatClampNeg := fun z => e (by rw [z, ← hx] at hg; omega)
    obtain ⟨k, a, b, c, d⟩ := H j p (by omega) hf hg
    exact ⟨k, by omega, by rw [pk_un e]; exact b, c, d⟩
