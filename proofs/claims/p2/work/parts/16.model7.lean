/-- how many of the first n differ from x -/
def pq_un (f : Nat → Int32) (x : Int32) : Nat → Nat
  | 0 => 0
  | n + 1 => pq_un f x n + (if f n = x then 0 else 1)
/-- how many of the first n differ from x and are 0 in g -/
def pq_ub (g f : Nat → Int32) (x : Int32) : Nat → Nat
  | 0 => 0
  | n + 1 => pq_ub g f x n + (if f n = x then 0 else if g n = 0 then 1 else 0)
/-- how many of the first n of k point at a 0 of g -/
def pq_tb (g k : Nat → Int32) : Nat → Nat
  | 0 => 0
  | n + 1 => pq_tb g k n + (if g (k n).toNatClampNeg = 0 then 1 else 0)
theorem pq_un_le (f : Nat → Int32) (x : Int32) : ∀ n, pq_un f x n ≤ n
  | 0 => Nat.le_refl _
  | n + 1 => by
    have := pq_un_le f x n
    simp only [pq_un]; split <;> omega
theorem pq_ub_le (g f : Nat → Int32) (x : Int32) : ∀ n, pq_ub g f x n ≤ pq_z g n
  | 0 => Nat.le_refl _
  | n + 1 => by
    have := pq_ub_le g f x n
    simp only [pq_ub, pq_z]; split <;> (try split) <;> omega
theorem pq_un_upd {f : Nat → Int32} {x : Int32} {i : Nat} (h : ¬ f i = x) : ∀ n, pq_un (upd f i x) x n + (if i < n then 1 else 0) = pq_un f x n
  | 0 => by simp [pq_un]
  | n + 1 => by
    have ih := pq_un_upd (f := f) (x := x) (i := i) h n
    by_cases e : n = i
    · subst e
      simp only [pq_un, pk_us, if_true, h, if_false] at ih ⊢
      rw [if_neg (Nat.lt_irrefl n)] at ih
      rw [if_pos (show n < n + 1 by omega)]; omega
    · simp only [pq_un, pk_un e]
      by_cases h2 : i < n
      · rw [if_pos h2] at ih; rw [if_pos (show i < n + 1 by omega)]; omega
      · rw [if_neg h2] at ih; rw [if_neg (show ¬ i < n + 1 by omega)]; omega
theorem pq_ub_upd {g f : Nat → Int32} {x : Int32} {i : Nat} (h : ¬ f i = x) : ∀ n, pq_ub g (upd f i x) x n + (if i < n then (if g i = 0 then 1 else 0) else 0) = pq_ub g f x n
  | 0 => by simp [pq_ub]
  | n + 1 => by
    have ih := pq_ub_upd (g := g) (f := f) (x := x) (i := i) h n
    by_cases e : n = i
    · subst e
      simp only [pq_ub, pk_us, if_true, h, if_false] at ih ⊢
      rw [if_neg (Nat.lt_irrefl n)] at ih
      rw [if_pos (show n < n + 1 by omega)]; omega
    · simp only [pq_ub, pk_un e]
      by_cases h2 : i < n
      · rw [if_pos h2] at ih; rw [if_pos (show i < n + 1 by omega)]; omega
      · rw [if_neg h2] at ih; rw [if_neg (show ¬ i < n + 1 by omega)]; omega
theorem pq_tb_upd {g k : Nat → Int32} {v : Int32} {p : Nat} : ∀ n, n ≤ p → pq_tb g (upd k p v) n = pq_tb g k n
  | 0, _ => rfl
  | n + 1, h => by
    simp only [pq_tb, pk_un (show n ≠ p by omega), pq_tb_upd (g := g) (k := k) (v := v) (p := p) n (by omega)]
/-- the closure's bookkeeping: g the instructions (0 a byte), f the stamps, k the stack of pl places, rd read -/
def pq_cb (g f k : Nat → Int32) (x : Int32) (mn pl rd : Nat) : Prop := (∀ p, p < pl → 0 ≤ (k p).toInt ∧ (k p).toInt < (mn : Int)) ∧ pl + pq_un f x mn ≤ mn ∧ rd + pq_tb g k pl + pq_ub g f x mn ≤ 400
theorem pq_cb.lt {g f k : Nat → Int32} {x : Int32} {mn pl rd i : Nat} (h : pq_cb g f k x mn pl rd) (hi : i < mn) (hf : ¬ f i = x) : pl < mn := by
  have h1 := pq_un_upd hf mn
  rw [if_pos hi] at h1
  have := h.2.1
  omega
theorem pq_cb.push {g f k : Nat → Int32} {x i : Int32} {mn pl rd : Nat} (h : pq_cb g f k x mn pl rd) (h0 : 0 ≤ i.toInt) (h1 : i.toInt < (mn : Int)) (hf : ¬ f i.toNatClampNeg = x) : pq_cb g (upd f i.toNatClampNeg x) (upd k pl i) x mn (pl + 1) rd := by
  have hi : i.toNatClampNeg < mn := by have := pq_cl h0; omega
  have e1 := pq_un_upd hf mn
  have e2 := pq_ub_upd (g := g) hf mn
  rw [if_pos hi] at e1 e2
  refine ⟨fun p hp => ?_, by have := h.2.1; omega, ?_⟩
  · by_cases e : p = pl
    · subst e; rw [pk_us]; exact ⟨h0, h1⟩
    · rw [pk_un e]; exact h.1 p (by omega)
  · simp only [pq_tb, pk_us, pq_tb_upd pl (Nat.le_refl _)]
    have := h.2.2
    omega
theorem pq_cb.pop {g f k : Nat → Int32} {x : Int32} {mn pl rd : Nat} (h : pq_cb g f k x mn (pl + 1) rd) : pq_cb g f k x mn pl (rd + (if g (k pl).toNatClampNeg = 0 then 1 else 0)) ∧ 0 ≤ (k pl).toInt ∧ (k pl).toInt < (mn : Int) := by
  refine ⟨⟨fun p hp => h.1 p (by omega), by have := h.2.1; omega, ?_⟩, h.1 pl (by omega)⟩
  have := h.2.2
  simp only [pq_tb] at this
  omega
theorem pq_cb.start {g f k : Nat → Int32} {x : Int32} {mn : Nat} (h : pq_z g mn ≤ 400) : pq_cb g f k x mn 0 0 := ⟨fun p hp => absurd hp (Nat.not_lt_zero _), by have := pq_un_le f x mn; omega, by have := pq_ub_le g f x mn; simp only [pq_tb]; omega⟩
theorem pq_cb.less {g f k : Nat → Int32} {x : Int32} {mn pl rd rd' : Nat} (h : pq_cb g f k x mn pl rd) (hr : rd' ≤ rd) : pq_cb g f k x mn pl rd' := ⟨h.1, h.2.1, by have := h.2.2; omega⟩
/-- a program whose jumps stay within it: g what, f how far, of n instructions with mk masks -/
def pq_pw (g f : Nat → Int32) (n : Nat) (mk : Int) : Prop := ∀ i : Nat, i < n → (g i = 0 → 0 ≤ (f i).toInt ∧ (f i).toInt < mk) ∧ (¬ g i = 0 → ¬ g i = 3 → 0 ≤ (i : Int) + (f i).toInt ∧ (i : Int) + (f i).toInt < n ∧ (g i = 1 → i + 1 < n))

set_option maxHeartbeats 4000000 in
set_option maxRecDepth 100000 in
theorem k_X11_reach (l : Launch) (D : va_G) (cy : Nat → ClassId) (S : HS) (a : Nat) (ha : pq_R S a 14) (ast ask mn rd : Nat) (g : Nat → Int32) (x pl : Int32) (e21 : hO S a 21 = .ref ast) (hst : pq_R S ast 127) (e22 : hO S a 22 = .ref ask) (hsk : pq_R S ask 128) (e23 : hO S a 23 = .int x) (e24 : hO S a 24 = .int pl) (hpl : 0 ≤ pl.toInt) (hn1 : mn ≤ hN S ast) (hn2 : mn ≤ hN S ask) (hmn : mn ≤ 32768) (hc : pq_cb g (hI S ast) (hI S ask) x mn pl.toNatClampNeg rd) (i : Int32) (hi0 : 0 ≤ i.toInt) (hi1 : i.toInt < (mn : Int)) : pq_C l D cy yX11_reach cX11_reach 2 (none) 1 0 0 S [.ref a, .int i] (fun v S2 => v = none ∧ pq_Fr [(127, 0), (128, 0), (14, 24)] S S2 ∧ ∃ pl2 : Int32, hO S2 a 24 = .int pl2 ∧ 0 ≤ pl2.toInt ∧ pq_cb g (hI S2 ast) (hI S2 ask) x mn pl2.toNatClampNeg rd) := by
  refine pq_start (by decide) (Nat.le_of_ble_eq_true rfl) ?_
  intro p e s m args below meth c A F hr hlk hnm hA
  have qm1 : (-1 : Int32).toInt = -1 := rfl
  have q0 : (0 : Int32).toInt = 0 := rfl
  have q1 : (1 : Int32).toInt = 1 := rfl
  refine pq_aload_n F dX11_reach_0 rfl rfl ?_
  refine pq_get F ha (by decide) lk_X11_115 e21 dX11_reach_1 ?_
  refine pq_iload_n F dX11_reach_4 rfl rfl ?_
  refine pq_iald F hst (by decide) (by decide) rfl (fun n1_5 n2_5 => (by simp only [vp_in_iff, Int32.lt_iff_toInt_lt, Int32.le_iff_toInt_le, ← Int32.toInt_inj, Int32.toInt_add, Int32.toInt_sub, Int32.toInt_mul, Int32.toInt_neg, qm1, q0, q1] at *; (try simp (disch := omega) only [pq_bm] at *); all_goals omega)) dX11_reach_5 (fun x5 e5 l5 u5 => ?_)
  refine pq_aload_n F dX11_reach_6 rfl rfl ?_
  refine pq_get F ha (by decide) lk_X11_118 e23 dX11_reach_7 ?_
  refine pq_icmp_ne (tgt := 14) F dX11_reach_10 (by decide) (fun c10 => ?_) (fun c10 => ?_)
  · skip
    have hf : ¬ hI S ast i.toNatClampNeg = x := fun h => c10 (e5.trans h)
    have ci := pq_cl hi0
    have cp := pq_cl hpl
    have hlt := hc.lt (i := i.toNatClampNeg) (by omega) hf
    refine pq_aload_n F dX11_reach_14 rfl rfl ?_
    refine pq_get F ha (by decide) lk_X11_115 e21 dX11_reach_15 ?_
    refine pq_iload_n F dX11_reach_18 rfl rfl ?_
    refine pq_aload_n F dX11_reach_19 rfl rfl ?_
    refine pq_get F ha (by decide) lk_X11_118 e23 dX11_reach_20 ?_
    refine pq_iast F hst (by decide) (by decide) rfl (fun n1_23 n2_23 => (by simp only [vp_in_iff, Int32.lt_iff_toInt_lt, Int32.le_iff_toInt_le, ← Int32.toInt_inj, Int32.toInt_add, Int32.toInt_sub, Int32.toInt_mul, Int32.toInt_neg, qm1, q0, q1] at *; (try simp (disch := omega) only [pq_bm] at *); all_goals omega)) (⟨pq_any1 _, pq_any2 _⟩) dX11_reach_23 ?_
    refine pq_aload_n F dX11_reach_24 rfl rfl ?_
    refine pq_get F ha (by decide) lk_X11_121 e22 dX11_reach_25 ?_
    refine pq_aload_n F dX11_reach_28 rfl rfl ?_
    refine pq_get F ha (by decide) lk_X11_124 e24 dX11_reach_29 ?_
    refine pq_iload_n F dX11_reach_32 rfl rfl ?_
    refine pq_iast F hsk (by decide) (by decide) rfl (fun n1_33 n2_33 => (by have hz : mn ≤ hN (pq_uI S ast (upd (hI S ast) i.toNatClampNeg x)) ask := hn2; simp only [vp_in_iff, Int32.lt_iff_toInt_lt, Int32.le_iff_toInt_le, ← Int32.toInt_inj, Int32.toInt_add, Int32.toInt_sub, Int32.toInt_mul, Int32.toInt_neg, qm1, q0, q1] at *; (try simp (disch := omega) only [pq_bm] at *); all_goals omega)) (⟨pq_any1 _, pq_any2 _⟩) dX11_reach_33 ?_
    refine pq_aload_n F dX11_reach_34 rfl rfl ?_
    refine pq_dup F dX11_reach_35 rfl ?_
    refine pq_get F ha (by decide) lk_X11_124 e24 dX11_reach_36 ?_
    refine pq_iconst (v := 1) F dX11_reach_39 (by decide) ?_
    refine pq_iadd F dX11_reach_40 ?_
    refine pq_putI F ha (by decide) lp_X11_124 rfl (pq_any1 _) (pq_any2 _) dX11_reach_41 ?_
    exact pq_vret F hr hlk hA (Nat.le_refl _) (Nat.le_refl _) (⟨rfl, (((pq_Fr.rf.uI hst (by decide)).uI hsk (by decide)).uO ha (by decide)), pl + 1, pq_ks, by simp only [vp_in_iff, Int32.lt_iff_toInt_lt, Int32.le_iff_toInt_le, ← Int32.toInt_inj, Int32.toInt_add, Int32.toInt_sub, Int32.toInt_mul, Int32.toInt_neg, qm1, q0, q1] at *; (try simp (disch := omega) only [pq_bm] at *); all_goals omega, by have e9 : (pl + 1).toNatClampNeg = pl.toNatClampNeg + 1 := (by have h8 : 0 ≤ (pl + 1).toInt := (by simp only [vp_in_iff, Int32.lt_iff_toInt_lt, Int32.le_iff_toInt_le, ← Int32.toInt_inj, Int32.toInt_add, Int32.toInt_sub, Int32.toInt_mul, Int32.toInt_neg, qm1, q0, q1] at *; (try simp (disch := omega) only [pq_bm] at *); all_goals omega); have h7 : (pl + 1).toInt = pl.toInt + 1 := (by simp only [vp_in_iff, Int32.lt_iff_toInt_lt, Int32.le_iff_toInt_le, ← Int32.toInt_inj, Int32.toInt_add, Int32.toInt_sub, Int32.toInt_mul, Int32.toInt_neg, qm1, q0, q1] at *; (try simp (disch := omega) only [pq_bm] at *); all_goals omega); have h6 := pq_cl h8; omega); rw [e9]; show pq_cb g (hI (pq_uI (pq_uI S ast _) ask _) ast) (hI (pq_uI (pq_uI S ast _) ask _) ask) x mn _ rd; rw [pq_Ia, pq_Ib (S := pq_uI S ast _) (rb := 127) (ra := 128) hst hsk (by decide), pq_Ia, pq_Ib (S := S) (rb := 128) (ra := 127) hsk hst (by decide)]; exact hc.push hi0 hi1 hf⟩) dX11_reach_44
  · skip
    exact pq_vret F hr hlk hA (Nat.le_refl _) (Nat.le_refl _) (⟨rfl, pq_Fr.rf, pl, e24, hpl, hc⟩) dX11_reach_13

