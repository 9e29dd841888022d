def tk_E (is : Int32) (lb : Nat → Int32) (t : Nat) : Int32 := if t = 0 then is else if lb t = -1 then 0 else 1
def tk_D (lost : Int32) (nx lv : Nat → Int32) (t b : Nat) : Int32 := if lv (nx (128 * t + b)).toInt.toNat = 0 then lost else nx (128 * t + b)
/-- a side's table that is being filled -/
def tk_Fi (is lost : Int32) (nx lb lv en ld en0 ld0 : Nat → Int32) (f es s kb : Nat) : Prop :=
  (∀ t, t < es → en (f + t) = tk_E is lb t) ∧ (∀ t b, b < 128 → (t < s ∨ (t = s ∧ b < kb)) → ld (128 * (f + t) + b) = tk_D lost nx lv t b) ∧ (∀ i, (i < f ∨ f + 402 ≤ i) → en i = en0 i) ∧ ∀ i, (i < 128 * f ∨ 128 * (f + 402) ≤ i) → ld i = ld0 i
def tk_Fj (is lost : Int32) (nx lb lv en ld en0 ld0 : Nat → Int32) (f ns kb : Nat) : Prop := tk_Fi is lost nx lb lv en ld en0 ld0 f ns ns 0 ∧ en (f + ns) = 0 ∧ ∀ b, b < kb → ld (128 * (f + ns) + b) = lost
section FI
variable {is lost : Int32} {nx lb lv en ld en0 ld0 : Nat → Int32} {f es sn kb ns : Nat}
theorem tk_Fi.beg (h1 : en = en0) (h2 : ld = ld0) : tk_Fi is lost nx lb lv en ld en0 ld0 f 0 0 0 :=
  ⟨fun t ht => absurd ht (Nat.not_lt_zero _), fun t b _ ht => absurd ht (by omega), fun i _ => by rw [h1], fun i _ => by rw [h2]⟩
theorem tk_Fi.pe (h : tk_Fi is lost nx lb lv en ld en0 ld0 f es sn kb) (he : es < 402) {v : Int32} (hv : v = tk_E is lb es) : tk_Fi is lost nx lb lv (upd en (f + es) v) ld en0 ld0 f (es + 1) sn kb := by
  refine ⟨fun t ht => ?_, h.2.1, fun i hi => ?_, h.2.2.2⟩
  · by_cases e : t = es
    · rw [e, pk_us]; exact hv
    · rw [pk_un (by omega)]; exact h.1 t (by omega)
  · rw [pk_un (by omega)]; exact h.2.2.1 i hi
theorem tk_Fi.pd (h : tk_Fi is lost nx lb lv en ld en0 ld0 f es sn kb) (hs : sn < 402) (hb : kb < 128) {v : Int32} (hv : v = tk_D lost nx lv sn kb) : tk_Fi is lost nx lb lv en (upd ld (128 * (f + sn) + kb) v) en0 ld0 f es sn (kb + 1) := by
  refine ⟨h.1, fun t b hb2 ht => ?_, h.2.2.1, fun i hi => ?_⟩
  · by_cases e : t = sn ∧ b = kb
    · rw [e.1, e.2, pk_us]; exact hv
    · rw [pk_un (by omega)]; exact h.2.1 t b hb2 (by omega)
  · rw [pk_un (by omega)]; exact h.2.2.2 i hi
theorem tk_Fi.row (h : tk_Fi is lost nx lb lv en ld en0 ld0 f es sn 128) : tk_Fi is lost nx lb lv en ld en0 ld0 f es (sn + 1) 0 := ⟨h.1, fun t b hb ht => h.2.1 t b hb (by omega), h.2.2.1, h.2.2.2⟩
theorem tk_Fj.beg (h : tk_Fi is lost nx lb lv en ld en0 ld0 f ns ns 0) (hn : ns < 402) {v : Int32} (hv : v = 0) : tk_Fj is lost nx lb lv (upd en (f + ns) v) ld en0 ld0 f ns 0 := by
  refine ⟨⟨fun t ht => ?_, h.2.1, fun i hi => ?_, h.2.2.2⟩, by rw [pk_us, hv], fun b hb => absurd hb (Nat.not_lt_zero _)⟩
  · rw [pk_un (by omega)]; exact h.1 t ht
  · rw [pk_un (by omega)]; exact h.2.2.1 i hi
theorem tk_Fj.pd (h : tk_Fj is lost nx lb lv en ld en0 ld0 f ns kb) (hn : ns < 402) (hb : kb < 128) : tk_Fj is lost nx lb lv en (upd ld (128 * (f + ns) + kb) lost) en0 ld0 f ns (kb + 1) := by
  refine ⟨⟨h.1.1, fun t b hb2 ht => ?_, h.1.2.2.1, fun i hi => ?_⟩, h.2.1, fun b hb2 => ?_⟩
  · rw [pk_un (by omega)]; exact h.1.2.1 t b hb2 ht
  · rw [pk_un (by omega)]; exact h.1.2.2.2 i hi
  · by_cases e : b = kb
    · rw [e, pk_us]
    · rw [pk_un (by omega)]; exact h.2.2 b (by omega)
theorem tk_Fj.sd {z : tr_Z} {se : Nat → Int64} (h : tk_Fj is lost nx lb lv en ld en0 ld0 f ns 128) (hB : tk_B z se nx lb ns ns) (hv : tk_lvs z se lv ns) (h1 : 1 ≤ ns) (h4 : ns ≤ 401) (his : is = 0 ∨ is = 1) (hem : is = 1 ↔ z.2.2.1.2.1) (hl : lost.toInt = (ns : Int)) : tk_Sd en ld f (tk_Lg z) := tk_Sd.mk hB hv h1 h4 his hem h.1.1 h.2.1 (fun t b ht hb => h.1.2.1 t b hb (Or.inl ht)) h.2.2 hl
end FI

