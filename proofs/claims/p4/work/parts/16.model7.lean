/-- how many of the first n differ from x -/
def pq_un (f : Nat → Int32) (x : Int32) : Nat → Nat
  | 0 => 0
  | n + 1 => pq_un f x n + (if f n = x then 0 else 1)
/-- how many of the first n differ from x and are 0 in g -/
def pq_ub (g f : Nat → Int32) (x : Int32) : Nat → Nat
  | 0 => 0
  | n + 1 => pq_ub g f x n + (if f n = x then 0 else if g n = 0 then 1 else 0)
/-- how many of the first n of k point at a 0 of g -/
def pq_tb (g k : Nat → Int32) : Nat → Nat
  | 0 => 0
  | n + 1 => pq_tb g k n + (if g (k n).toNatClampNeg = 0 then 1 else 0)
theorem pq_un_le (f : Nat → Int32) (x : Int32) : ∀ n, pq_un f x n ≤ n
  | 0 => Nat.le_refl _
  | n + 1 => by
    have := pq_un_le f x n
    simp only [pq_un]; split <;> omega
theorem pq_ub_le (g f : Nat → Int32) (x : Int32) : ∀ n, pq_ub g f x n ≤ pq_z g n
  | 0 => Nat.le_refl _
  | n + 1 => by
    have := pq_ub_le g f x n
    simp only [pq_ub, pq_z]; split <;> (try split) <;> omega
theorem pq_un_upd {f : Nat → Int32} {x : Int32} {i : Nat} (h : ¬ f i = x) : ∀ n, pq_un (upd f i x) x n + (if i < n then 1 else 0) = pq_un f x n
  | 0 => by simp [pq_un]
  | n + 1 => by
    have ih := pq_un_upd (f := f) (x := x) (i := i) h n
    by_cases e : n = i
    · subst e
      simp only [pq_un, pk_us, if_true, h, if_false] at ih ⊢
      rw [if_neg (Nat.lt_irrefl n)] at ih
      rw [if_pos (show n < n + 1 by omega)]; omega
    · simp only [pq_un, pk_un e]
      by_cases h2 : i < n
      · rw [if_pos h2] at ih; rw [if_pos (show i < n + 1 by omega)]; omega
      · rw [if_neg h2] at ih; rw [if_neg (show ¬ i < n + 1 by omega)]; omega
theorem pq_ub_upd {g f : Nat → Int32} {x : Int32} {i : Nat} (h : ¬ f i = x) : ∀ n, pq_ub g (upd f i x) x n + (if i < n then (if g i = 0 then 1 else 0) else 0) = pq_ub g f x n
  | 0 => by simp [pq_ub]
  | n + 1 => by
    have ih := pq_ub_upd (g := g) (f := f) (x := x) (i := i) h n
    by_cases e : n = i
    · subst e
      simp only [pq_ub, pk_us, if_true, h, if_false] at ih ⊢
      rw [if_neg (Nat.lt_irrefl n)] at ih
      rw [if_pos (show n < n + 1 by omega)]; omega
    · simp only [pq_ub, pk_un e]
      by_cases h2 : i < n
      · rw [if_pos h2] at ih; rw [if_pos (show i < n + 1 by omega)]; omega
      · rw [if_neg h2] at ih; rw [if_neg (show ¬ i < n + 1 by omega)]; omega
theorem pq_tb_upd {g k : Nat → Int32} {v : Int32} {p : Nat} : ∀ n, n ≤ p → pq_tb g (upd k p v) n = pq_tb g k n
  | 0, _ => rfl
  | n + 1, h => by
    simp only [pq_tb, pk_un (show n ≠ p by omega), pq_tb_upd (g := g) (k := k) (v := v) (p := p) n (by omega)]
/-- the closure's bookkeeping: g the instructions (0 a byte), f the stamps, k the stack of pl places, rd read -/
def pq_cb (g f k : Nat → Int32) (x : Int32) (mn pl rd : Nat) : Prop := (∀ p, p < pl → 0 ≤ (k p).toInt ∧ (k p).toInt < (mn : Int)) ∧ pl + pq_un f x mn ≤ mn ∧ rd + pq_tb g k pl + pq_ub g f x mn ≤ 400
theorem pq_cb.lt {g f k : Nat → Int32} {x : Int32} {mn pl rd i : Nat} (h : pq_cb g f k x mn pl rd) (hi : i < mn) (hf : ¬ f i = x) : pl < mn := by
  have h1 := pq_un_upd hf mn
  rw [if_pos hi] at h1
  have := h.2.1
  omega
theorem pq_cb.push {g f k : Nat → Int32} {x i : Int32} {mn pl rd : Nat} (h : pq_cb g f k x mn pl rd) (h0 : 0 ≤ i.toInt) (h1 : i.toInt < (mn : Int)) (hf : ¬ f i.toNatClampNeg = x) : pq_cb g (upd f i.toNatClampNeg x) (upd k pl i) x mn (pl + 1) rd := by
  have hi : i.toNatClampNeg < mn := by have := pq_cl h0; omega
  have e1 := pq_un_upd hf mn
  have e2 := pq_ub_upd (g := g) hf mn
  rw [if_pos hi] at e1 e2
  refine ⟨fun p hp => ?_, by have := h.2.1; omega, ?_⟩
  · by_cases e : p = pl
    · subst e; rw [pk_us]; exact ⟨h0, h1⟩
    · rw [pk_un e]; exact h.1 p (by omega)
  · simp only [pq_tb, pk_us, pq_tb_upd pl (Nat.le_refl _)]
    have := h.2.2
    omega
theorem pq_cb.pop {g f k : Nat → Int32} {x : Int32} {mn pl rd : Nat} (h : pq_cb g f k x mn (pl + 1) rd) : pq_cb g f k x mn pl (rd + (if g (k pl).toNatClampNeg = 0 then 1 else 0)) ∧ 0 ≤ (k pl).toInt ∧ (k pl).toInt < (mn : Int) := by
  refine ⟨⟨fun p hp => h.1 p (by omega), by have := h.2.1; omega, ?_⟩, h.1 pl (by omega)⟩
  have := h.2.2
  simp only [pq_tb] at this
  omega
theorem pq_cb.start {g f k : Nat → Int32} {x : Int32} {mn : Nat} (h : pq_z g mn ≤ 400) : pq_cb g f k x mn 0 0 := ⟨fun p hp => absurd hp (Nat.not_lt_zero _), by have := pq_un_le f x mn; omega, by have := pq_ub_le g f x mn; simp only [pq_tb]; omega⟩
theorem pq_cb.less {g f k : Nat → Int32} {x : Int32} {mn pl rd rd' : Nat} (h : pq_cb g f k x mn pl rd) (hr : rd' ≤ rd) : pq_cb g f k x mn pl rd' := ⟨h.1, h.2.1, by have := h.2.2; omega⟩
/-- a program whose jumps stay within it: g what, f how far, of n instructions with mk masks -/
def pq_pw (g f : Nat → Int32) (n : Nat) (mk : Int) : Prop := ∀ i : Nat, i < n → (g i = 0 → 0 ≤ (f i).toInt ∧ (f i).toInt < mk) ∧ (¬ g i = 0 → ¬ g i = 3 → 0 ≤ (i : Int) + (f i).toInt ∧ (i : Int) + (f i).toInt < n ∧ (g i = 1 → i + 1 < n))

set_option maxHeartbeats 4000000 in
set_option maxRecDepth 100000 in
theorem k_X11_reach (l : Launch) (D : va_G) (cy : Nat → ClassId) (S : HS) (a : Nat) (ha : pq_R S a 14) (ast ask mn rd : Nat) (g : Nat → Int32) (x pl : Int32) (e21 : hO S a 21 = .ref ast) (hst : pq_R S ast 127) (e22 : hO S a 22 = .ref ask) (hsk : pq_R S ask 128) (e23 : hO S a 23 = .int x) (e24 : hO S a 24 = .int pl) (hpl : 0 ≤ pl.toInt) (hn1 : mn ≤ hN S ast) (hn2 : mn ≤ hN S ask) (hmn : mn ≤ 32768) (hc : pq_cb g (hI S ast) (hI S ask) x mn pl.toNatClampNeg rd) (i : Int32) (hi0 : 0 ≤ i.toInt) (hi1 : i.toInt < (mn : Int)) : pq_C l D cy yX11_reach cX11_reach 2 (none) 1 0 0 S [.ref a, .int i] (fun v S2 => v = none ∧ pq_Fr [(127, 0), (128, 0), (14, 24)] S S2 ∧ ∃ pl2 : Int32, hO S2 a 24 = .int pl2 ∧ 0 ≤ pl2.toInt ∧ pq_cb g (hI S2 ast) (hI S2 ask) x mn pl2.toNatClampNeg rd ∧ pl2.toNatClampNeg + 2 * pq_un (hI S2 ast) x mn ≤ pl.toNatClampNeg + 2 * pq_un (hI S ast) x mn) := by
  refine pq_start (by decide) (Nat.le_of_ble_eq_true rfl) ?_
  intro p e s m args below meth c A F hr hlk hnm hA
  have qm1 : (-1 : Int32).toInt = -1 := rfl
  have q0 : (0 : Int32).toInt = 0 := rfl
  have q1 : (1 : Int32).toInt = 1 := rfl
  refine pq_aload_n F dX11_reach_0 rfl rfl ?_
  refine pq_get F ha (by decide) lk_X11_115 e21 dX11_reach_1 ?_
  refine pq_iload_n F dX11_reach_4 rfl rfl ?_
  refine pq_iald F hst (by decide) (by decide) rfl (fun n1_5 n2_5 => (by simp only [vp_in_iff, Int32.lt_iff_toInt_lt, Int32.le_iff_toInt_le, ← Int32.toInt_inj, Int32.toInt_add, Int32.toInt_sub, Int32.toInt_mul, Int32.toInt_neg, pq_NuO, pq_NuI, pq_NuJ, qm1, q0, q1] at *; (try simp (disch := omega) only [pq_bm] at *); all_goals omega)) dX11_reach_5 (fun x5 e5 l5 u5 => ?_)
  refine pq_aload_n F dX11_reach_6 rfl rfl ?_
  refine pq_get F ha (by decide) lk_X11_118 e23 dX11_reach_7 ?_
  refine pq_icmp_ne (tgt := 14) F dX11_reach_10 (by decide) (fun c10 => ?_) (fun c10 => ?_)
  · skip
    have hf : ¬ hI S ast i.toNatClampNeg = x := fun h => c10 (e5.trans h)
    have ci := pq_cl hi0
    have cp := pq_cl hpl
    have hlt := hc.lt (i := i.toNatClampNeg) (by omega) hf
    refine pq_aload_n F dX11_reach_14 rfl rfl ?_
    refine pq_get F ha (by decide) lk_X11_115 e21 dX11_reach_15 ?_
    refine pq_iload_n F dX11_reach_18 rfl rfl ?_
    refine pq_aload_n F dX11_reach_19 rfl rfl ?_
    refine pq_get F ha (by decide) lk_X11_118 e23 dX11_reach_20 ?_
    refine pq_iast F hst (by decide) (by decide) rfl (fun n1_23 n2_23 => (by simp only [vp_in_iff, Int32.lt_iff_toInt_lt, Int32.le_iff_toInt_le, ← Int32.toInt_inj, Int32.toInt_add, Int32.toInt_sub, Int32.toInt_mul, Int32.toInt_neg, pq_NuO, pq_NuI, pq_NuJ, qm1, q0, q1] at *; (try simp (disch := omega) only [pq_bm] at *); all_goals omega)) (⟨pq_any1 _, pq_any2 _⟩) dX11_reach_23 ?_
    refine pq_aload_n F dX11_reach_24 rfl rfl ?_
    refine pq_get F ha (by decide) lk_X11_121 e22 dX11_reach_25 ?_
    refine pq_aload_n F dX11_reach_28 rfl rfl ?_
    refine pq_get F ha (by decide) lk_X11_124 e24 dX11_reach_29 ?_
    refine pq_iload_n F dX11_reach_32 rfl rfl ?_
    refine pq_iast F hsk (by decide) (by decide) rfl (fun n1_33 n2_33 => (by have hz : mn ≤ hN (pq_uI S ast (upd (hI S ast) i.toNatClampNeg x)) ask := hn2; simp only [vp_in_iff, Int32.lt_iff_toInt_lt, Int32.le_iff_toInt_le, ← Int32.toInt_inj, Int32.toInt_add, Int32.toInt_sub, Int32.toInt_mul, Int32.toInt_neg, pq_NuO, pq_NuI, pq_NuJ, qm1, q0, q1] at *; (try simp (disch := omega) only [pq_bm] at *); all_goals omega)) (⟨pq_any1 _, pq_any2 _⟩) dX11_reach_33 ?_
    refine pq_aload_n F dX11_reach_34 rfl rfl ?_
    refine pq_dup F dX11_reach_35 rfl ?_
    refine pq_get F ha (by decide) lk_X11_124 e24 dX11_reach_36 ?_
    refine pq_iconst (v := 1) F dX11_reach_39 (by decide) ?_
    refine pq_iadd F dX11_reach_40 ?_
    refine pq_putI F ha (by decide) lp_X11_124 rfl (pq_any1 _) (pq_any2 _) dX11_reach_41 ?_
    exact pq_vret F hr hlk hA (Nat.le_refl _) (Nat.le_refl _) (⟨rfl, (((pq_Fr.rf.uI hst (by decide)).uI hsk (by decide)).uO ha (by decide)), pl + 1, pq_ks, by simp only [vp_in_iff, Int32.lt_iff_toInt_lt, Int32.le_iff_toInt_le, ← Int32.toInt_inj, Int32.toInt_add, Int32.toInt_sub, Int32.toInt_mul, Int32.toInt_neg, pq_NuO, pq_NuI, pq_NuJ, qm1, q0, q1] at *; (try simp (disch := omega) only [pq_bm] at *); all_goals omega, by have e9 : (pl + 1).toNatClampNeg = pl.toNatClampNeg + 1 := (by have h8 : 0 ≤ (pl + 1).toInt := (by simp only [vp_in_iff, Int32.lt_iff_toInt_lt, Int32.le_iff_toInt_le, ← Int32.toInt_inj, Int32.toInt_add, Int32.toInt_sub, Int32.toInt_mul, Int32.toInt_neg, pq_NuO, pq_NuI, pq_NuJ, qm1, q0, q1] at *; (try simp (disch := omega) only [pq_bm] at *); all_goals omega); have h7 : (pl + 1).toInt = pl.toInt + 1 := (by simp only [vp_in_iff, Int32.lt_iff_toInt_lt, Int32.le_iff_toInt_le, ← Int32.toInt_inj, Int32.toInt_add, Int32.toInt_sub, Int32.toInt_mul, Int32.toInt_neg, pq_NuO, pq_NuI, pq_NuJ, qm1, q0, q1] at *; (try simp (disch := omega) only [pq_bm] at *); all_goals omega); have h6 := pq_cl h8; omega); rw [e9]; show pq_cb g (hI (pq_uI (pq_uI S ast _) ask _) ast) (hI (pq_uI (pq_uI S ast _) ask _) ask) x mn _ rd; rw [pq_Ia, pq_Ib (S := pq_uI S ast _) (rb := 127) (ra := 128) hst hsk (by decide), pq_Ia, pq_Ib (S := S) (rb := 128) (ra := 127) hsk hst (by decide)]; exact hc.push hi0 hi1 hf, by have e9 : (pl + 1).toNatClampNeg = pl.toNatClampNeg + 1 := (by have h8 : 0 ≤ (pl + 1).toInt := (by simp only [vp_in_iff, Int32.lt_iff_toInt_lt, Int32.le_iff_toInt_le, ← Int32.toInt_inj, Int32.toInt_add, Int32.toInt_sub, Int32.toInt_mul, Int32.toInt_neg, pq_NuO, pq_NuI, pq_NuJ, qm1, q0, q1] at *; (try simp (disch := omega) only [pq_bm] at *); all_goals omega); have h7 : (pl + 1).toInt = pl.toInt + 1 := (by simp only [vp_in_iff, Int32.lt_iff_toInt_lt, Int32.le_iff_toInt_le, ← Int32.toInt_inj, Int32.toInt_add, Int32.toInt_sub, Int32.toInt_mul, Int32.toInt_neg, pq_NuO, pq_NuI, pq_NuJ, qm1, q0, q1] at *; (try simp (disch := omega) only [pq_bm] at *); all_goals omega); have h6 := pq_cl h8; omega); rw [e9]; show _ + 2 * pq_un (hI (pq_uI (pq_uI S ast _) ask _) ast) x mn ≤ _; rw [pq_Ib (S := pq_uI S ast _) (rb := 127) (ra := 128) hst hsk (by decide), pq_Ia]; have h5 := pq_un_upd hf mn; rw [if_pos (show i.toNatClampNeg < mn by omega)] at h5; omega⟩) dX11_reach_44
  · skip
    exact pq_vret F hr hlk hA (Nat.le_refl _) (Nat.le_refl _) (⟨rfl, pq_Fr.rf, pl, e24, hpl, hc, Nat.le_refl _⟩) dX11_reach_13

set_option maxHeartbeats 4000000 in
set_option maxRecDepth 100000 in
theorem k_X11_closure (l : Launch) (D : va_G) (cy : Nat → ClassId) (S : HS) (a : Nat) (ha : pq_R S a 14) (ast ask ao aa mn : Nat) (mk : Int) (x pl : Int32) (e21 : hO S a 21 = .ref ast) (hst : pq_R S ast 127) (e22 : hO S a 22 = .ref ask) (hsk : pq_R S ask 128) (e23 : hO S a 23 = .int x) (e4 : hO S a 4 = .ref ao) (hao : pq_R S ao 120) (e5 : hO S a 5 = .ref aa) (haa : pq_R S aa 121) (hn3 : mn ≤ hN S ao) (hn4 : mn ≤ hN S aa) (e24 : hO S a 24 = .int pl) (hpl : 0 ≤ pl.toInt) (hn1 : mn ≤ hN S ast) (hn2 : mn ≤ hN S ask) (hmn : mn ≤ 32768) (hpw : pq_pw (hI S ao) (hI S aa) mn mk) (hmk : mk ≤ 400) (hc : pq_cb (hI S ao) (hI S ast) (hI S ask) x mn pl.toNatClampNeg 0) : pq_C l D cy yX11_closure cX11_closure 3 (some .int) 2 0 0 S [.ref a] (fun v S2 => pq_Fr [(127, 0), (128, 0), (14, 24), (129, 0), (14, 26)] S S2 ∧ ∃ y rd pl2 : Int32, v = some (.int y) ∧ hO S2 a 26 = .int rd ∧ 0 ≤ rd.toInt ∧ rd.toInt ≤ 400) := by
  refine pq_start (by decide) (Nat.le_of_ble_eq_true rfl) ?_
  intro p e s m args below meth c A F hr hlk hnm hA
  have qm1 : (-1 : Int32).toInt = -1 := rfl
  have q0 : (0 : Int32).toInt = 0 := rfl
  have q1 : (1 : Int32).toInt = 1 := rfl
  have q3 : (3 : Int32).toInt = 3 := rfl
  have L7 : ∀  (fu : Nat) (S1 : HS) (bs pl1 rd1 : Int32) (hF : pq_Fr [(127, 0), (128, 0), (14, 24), (129, 0), (14, 26)] S S1) (hp : hO S1 a 24 = .int pl1) (hp0 : 0 ≤ pl1.toInt) (hrr : hO S1 a 26 = .int rd1) (hr0 : 0 ≤ rd1.toInt) (hcb : pq_cb (hI S ao) (hI S1 ast) (hI S1 ask) x mn pl1.toNatClampNeg rd1.toNatClampNeg), pl1.toNatClampNeg + 2 * pq_un (hI S1 ast) x mn < fu → pq_At p l e (pq_rm 2 0 0) s m args below meth c (pq_Z below args s D cy S 0 0 (fun v S2 => pq_Fr [(127, 0), (128, 0), (14, 24), (129, 0), (14, 26)] S S2 ∧ ∃ y rd pl2 : Int32, v = some (.int y) ∧ hO S2 a 26 = .int rd ∧ 0 ≤ rd.toInt ∧ rd.toInt ≤ 400)) D cy A 3 0 0 7 S1 [some (.ref a), some (.int bs), none] [] := by
    intro  fu
    induction fu with
    | zero => intro S1 bs pl1 rd1 hF hp hp0 hrr hr0 hcb hm; exact absurd hm (Nat.not_lt_zero _)
    | succ fu ih =>
      intro S1 bs pl1 rd1 hF hp hp0 hrr hr0 hcb hm
      have ha1 := hF.R ha (by decide)
      have hst1 := hF.R hst (by decide)
      have hsk1 := hF.R hsk (by decide)
      have hao1 := hF.R hao (by decide)
      have haa1 := hF.R haa (by decide)
      have e211 := hF.O ha (by decide) (by decide) e21
      have e221 := hF.O ha (by decide) (by decide) e22
      have e231 := hF.O ha (by decide) (by decide) e23
      have e41 := hF.O ha (by decide) (by decide) e4
      have e51 := hF.O ha (by decide) (by decide) e5
      have n11 : mn ≤ hN S1 ast := (by rw [(hF.1 ast 127 hst (by decide)).2]; exact hn1)
      have n21 : mn ≤ hN S1 ask := (by rw [(hF.1 ask 128 hsk (by decide)).2]; exact hn2)
      have n31 : mn ≤ hN S1 ao := (by rw [(hF.1 ao 120 hao (by decide)).2]; exact hn3)
      have n41 : mn ≤ hN S1 aa := (by rw [(hF.1 aa 121 haa (by decide)).2]; exact hn4)
      have io1 := hF.I hao (by decide) (by decide)
      have ia1 := hF.I haa (by decide) (by decide)
      have hrd := hcb.2.2
      have hpd := hcb.2.1
      have cp1 := pq_cl hp0
      refine pq_aload_n F dX11_closure_7 rfl rfl ?_
      refine pq_get F ha1 (by decide) lk_X11_124 hp dX11_closure_8 ?_
      refine pq_if_le (tgt := 138) F dX11_closure_11 (by decide) (fun c11 => ?_) (fun c11 => ?_)
      · skip
        refine pq_iload_n F dX11_closure_138 rfl rfl ?_
        exact pq_iret F hr hlk hA (Nat.le_refl _) (Nat.le_refl _) (⟨hF, bs, rd1, pl1, rfl, hrr, hr0, by have := pq_cl hr0; omega⟩) dX11_closure_139
      · skip
        refine pq_aload_n F dX11_closure_14 rfl rfl ?_
        refine pq_dup F dX11_closure_15 rfl ?_
        refine pq_get F ha1 (by decide) lk_X11_124 hp dX11_closure_16 ?_
        refine pq_iconst (v := 1) F dX11_closure_19 (by decide) ?_
        refine pq_isub F dX11_closure_20 ?_
        refine pq_putI F ha1 (by decide) lp_X11_124 rfl (pq_any1 _) (pq_any2 _) dX11_closure_21 ?_
        refine pq_aload_n F dX11_closure_24 rfl rfl ?_
        refine pq_get F ha1 (by decide) lk_X11_121 (pq_kp e221 (by decide)) dX11_closure_25 ?_
        refine pq_aload_n F dX11_closure_28 rfl rfl ?_
        refine pq_get F ha1 (by decide) lk_X11_124 pq_ks dX11_closure_29 ?_
        refine pq_iald F hsk1 (by decide) (by decide) rfl (fun n1_32 n2_32 => (by simp only [vp_in_iff, Int32.lt_iff_toInt_lt, Int32.le_iff_toInt_le, ← Int32.toInt_inj, Int32.toInt_add, Int32.toInt_sub, Int32.toInt_mul, Int32.toInt_neg, pq_NuO, pq_NuI, pq_NuJ, qm1, q0, q1, q3] at *; (try simp (disch := omega) only [pq_bm] at *); all_goals omega)) dX11_closure_32 (fun x32 e32 l32 u32 => ?_)
        refine pq_istore_n F dX11_closure_33 rfl (by decide) ?_
        have hp1 : 1 ≤ pl1.toInt := (by simp only [vp_in_iff, Int32.lt_iff_toInt_lt, Int32.le_iff_toInt_le, ← Int32.toInt_inj, Int32.toInt_add, Int32.toInt_sub, Int32.toInt_mul, Int32.toInt_neg, pq_NuO, pq_NuI, pq_NuJ, qm1, q0, q1, q3] at *; (try simp (disch := omega) only [pq_bm] at *); all_goals omega)
        have hp8 : (pl1 - 1).toInt = pl1.toInt - 1 := (by simp only [vp_in_iff, Int32.lt_iff_toInt_lt, Int32.le_iff_toInt_le, ← Int32.toInt_inj, Int32.toInt_add, Int32.toInt_sub, Int32.toInt_mul, Int32.toInt_neg, pq_NuO, pq_NuI, pq_NuJ, qm1, q0, q1, q3] at *; (try simp (disch := omega) only [pq_bm] at *); all_goals omega)
        have hp7 : 0 ≤ (pl1 - 1).toInt := (by omega)
        have ep : pl1.toNatClampNeg = (pl1 - 1).toNatClampNeg + 1 := (by have h6 := pq_cl hp7; have h5 := pq_cl hp0; omega)
        have hcp := (ep ▸ hcb).pop
        have e32b : x32 = hI S1 ask (pl1 - 1).toNatClampNeg := e32
        rw [← e32b] at hcp
        have hx0 := hcp.2.1
        have hx1 := hcp.2.2
        have cx := pq_cl hx0
        have crd := pq_cl hr0
        have ipw := hpw x32.toNatClampNeg (by omega)
        refine pq_aload_n F dX11_closure_34 rfl rfl ?_
        refine pq_get F ha1 (by decide) lk_X11_10 (pq_kp e41 (by decide)) dX11_closure_35 ?_
        refine pq_iload_n F dX11_closure_38 rfl rfl ?_
        refine pq_iald F hao1 (by decide) (by decide) rfl (fun n1_39 n2_39 => (by simp only [vp_in_iff, Int32.lt_iff_toInt_lt, Int32.le_iff_toInt_le, ← Int32.toInt_inj, Int32.toInt_add, Int32.toInt_sub, Int32.toInt_mul, Int32.toInt_neg, pq_NuO, pq_NuI, pq_NuJ, qm1, q0, q1, q3] at *; (try simp (disch := omega) only [pq_bm] at *); all_goals omega)) dX11_closure_39 (fun x39 e39 l39 u39 => ?_)
        refine pq_if_ne (tgt := 71) F dX11_closure_40 (by decide) (fun c40 => ?_) (fun c40 => ?_)
        · skip
          refine pq_aload_n F dX11_closure_71 rfl rfl ?_
          refine pq_get F ha1 (by decide) lk_X11_10 (pq_kp e41 (by decide)) dX11_closure_72 ?_
          refine pq_iload_n F dX11_closure_75 rfl rfl ?_
          refine pq_iald F hao1 (by decide) (by decide) rfl (fun n1_76 n2_76 => (by simp only [vp_in_iff, Int32.lt_iff_toInt_lt, Int32.le_iff_toInt_le, ← Int32.toInt_inj, Int32.toInt_add, Int32.toInt_sub, Int32.toInt_mul, Int32.toInt_neg, pq_NuO, pq_NuI, pq_NuJ, qm1, q0, q1, q3] at *; (try simp (disch := omega) only [pq_bm] at *); all_goals omega)) dX11_closure_76 (fun x76 e76 l76 u76 => ?_)
          refine pq_iconst (v := 3) F dX11_closure_77 (by decide) ?_
          refine pq_icmp_ne (tgt := 106) F dX11_closure_78 (by decide) (fun c78 => ?_) (fun c78 => ?_)
          · skip
            have g0 : ¬ hI S ao x32.toNatClampNeg = 0 := (by rw [← io1]; exact fun h => c40 (e39.trans h))
            have g3 : ¬ hI S ao x32.toNatClampNeg = 3 := (by rw [← io1]; exact fun h => c78 (e76.trans h))
            have ip := ipw.2 g0 g3
            refine pq_aload_n F dX11_closure_106 rfl rfl ?_
            refine pq_iload_n F dX11_closure_107 rfl rfl ?_
            refine pq_aload_n F dX11_closure_108 rfl rfl ?_
            refine pq_get F ha1 (by decide) lk_X11_20 (pq_kp e51 (by decide)) dX11_closure_109 ?_
            refine pq_iload_n F dX11_closure_112 rfl rfl ?_
            refine pq_iald F haa1 (by decide) (by decide) rfl (fun n1_113 n2_113 => (by simp only [vp_in_iff, Int32.lt_iff_toInt_lt, Int32.le_iff_toInt_le, ← Int32.toInt_inj, Int32.toInt_add, Int32.toInt_sub, Int32.toInt_mul, Int32.toInt_neg, pq_NuO, pq_NuI, pq_NuJ, qm1, q0, q1, q3] at *; (try simp (disch := omega) only [pq_bm] at *); all_goals omega)) dX11_closure_113 (fun x113 e113 l113 u113 => ?_)
            refine pq_iadd F dX11_closure_114 ?_
            have ea : x113 = hI S aa x32.toNatClampNeg := (by rw [← ia1]; exact e113)
            rw [← ea] at ip
            refine pq_callV (As := [_]) F (k_X11_reach l D cy _ _ ?_ ast ask mn rd1.toNatClampNeg (hI S ao) x (pl1 - 1) ?_ ?_ ?_ ?_ ?_ ?_ ?_ ?_ ?_ ?_ ?_ _ ?_ ?_) ml_X11_133 ha1 (by decide) rfl (Nat.le_of_ble_eq_true rfl) ⟨Nat.le_of_ble_eq_true rfl, Nat.le_of_ble_eq_true rfl⟩ ⟨by decide, by decide⟩ dX11_closure_115 (fun v115 S115 w115 => ?_)
            · exact ha1
            · exact (pq_kp e211 (by decide))
            · exact hst1
            · exact (pq_kp e221 (by decide))
            · exact hsk1
            · exact (pq_kp e231 (by decide))
            · exact pq_ks
            · exact hp7
            · exact n11
            · exact n21
            · exact hmn
            · exact (hcp.1.less (Nat.le_add_right _ _))
            · simp only [vp_in_iff, Int32.lt_iff_toInt_lt, Int32.le_iff_toInt_le, ← Int32.toInt_inj, Int32.toInt_add, Int32.toInt_sub, Int32.toInt_mul, Int32.toInt_neg, pq_NuO, pq_NuI, pq_NuJ, qm1, q0, q1, q3] at *; (try simp (disch := omega) only [pq_bm] at *); all_goals omega
            · simp only [vp_in_iff, Int32.lt_iff_toInt_lt, Int32.le_iff_toInt_le, ← Int32.toInt_inj, Int32.toInt_add, Int32.toInt_sub, Int32.toInt_mul, Int32.toInt_neg, pq_NuO, pq_NuI, pq_NuJ, qm1, q0, q1, q3] at *; (try simp (disch := omega) only [pq_bm] at *); all_goals omega
            obtain ⟨rfl, hF115, pl2, hp2, hp20, hc2, hm2⟩ := w115
            have hFX : pq_Fr [(127, 0), (128, 0), (14, 24), (129, 0), (14, 26)] S S115 := (hF.uO ha1 (by decide)).cm hF115 (by decide)
            have haX := hFX.R ha (by decide)
            have hstX := hFX.R hst (by decide)
            have hskX := hFX.R hsk (by decide)
            have haoX := hFX.R hao (by decide)
            have haaX := hFX.R haa (by decide)
            have e21X := hFX.O ha (by decide) (by decide) e21
            have e22X := hFX.O ha (by decide) (by decide) e22
            have e23X := hFX.O ha (by decide) (by decide) e23
            have e4X := hFX.O ha (by decide) (by decide) e4
            have e5X := hFX.O ha (by decide) (by decide) e5
            have n1X : mn ≤ hN S115 ast := (by rw [(hFX.1 ast 127 hst (by decide)).2]; exact hn1)
            have n2X : mn ≤ hN S115 ask := (by rw [(hFX.1 ask 128 hsk (by decide)).2]; exact hn2)
            have n3X : mn ≤ hN S115 ao := (by rw [(hFX.1 ao 120 hao (by decide)).2]; exact hn3)
            have n4X : mn ≤ hN S115 aa := (by rw [(hFX.1 aa 121 haa (by decide)).2]; exact hn4)
            have ioX := hFX.I hao (by decide) (by decide)
            have iaX := hFX.I haa (by decide) (by decide)
            have ha1_115 := (hF115.1 _ _ ha1 (by decide)).1
            refine pq_aload_n F dX11_closure_118 rfl rfl ?_
            refine pq_get F ha1_115 (by decide) lk_X11_10 e4X dX11_closure_119 ?_
            refine pq_iload_n F dX11_closure_122 rfl rfl ?_
            refine pq_iald F haoX (by decide) (by decide) rfl (fun n1_123 n2_123 => (by simp only [vp_in_iff, Int32.lt_iff_toInt_lt, Int32.le_iff_toInt_le, ← Int32.toInt_inj, Int32.toInt_add, Int32.toInt_sub, Int32.toInt_mul, Int32.toInt_neg, pq_NuO, pq_NuI, pq_NuJ, qm1, q0, q1, q3] at *; (try simp (disch := omega) only [pq_bm] at *); all_goals omega)) dX11_closure_123 (fun x123 e123 l123 u123 => ?_)
            refine pq_iconst (v := 1) F dX11_closure_124 (by decide) ?_
            refine pq_icmp_ne (tgt := 135) F dX11_closure_125 (by decide) (fun c125 => ?_) (fun c125 => ?_)
            · skip
              refine pq_goto (tgt := 7) F dX11_closure_135 (by decide) ?_
              exact pq_fg (ih _ bs pl2 rd1 hFX hp2 hp20 (hF115.O ha1 (by decide) (by decide) (pq_kp hrr (by decide))) hr0 hc2 (by have : pl2.toNatClampNeg + 2 * pq_un (hI S115 ast) x mn ≤ (pl1 - 1).toNatClampNeg + 2 * pq_un (hI S1 ast) x mn := hm2; omega)) (by repeat' (first | exact rfl | exact trivial | constructor))
            · skip
              have g1 : hI S ao x32.toNatClampNeg = 1 := (by rw [← ioX]; exact e123.symm.trans (by simpa using c125))
              have ip1 := ip.2.2 g1
              refine pq_aload_n F dX11_closure_128 rfl rfl ?_
              refine pq_iload_n F dX11_closure_129 rfl rfl ?_
              refine pq_iconst (v := 1) F dX11_closure_130 (by decide) ?_
              refine pq_iadd F dX11_closure_131 ?_
              refine pq_callV (As := [_]) F (k_X11_reach l D cy _ _ ?_ ast ask mn rd1.toNatClampNeg (hI S ao) x pl2 ?_ ?_ ?_ ?_ ?_ ?_ ?_ ?_ ?_ ?_ ?_ _ ?_ ?_) ml_X11_133 ha1_115 (by decide) rfl (Nat.le_of_ble_eq_true rfl) ⟨Nat.le_of_ble_eq_true rfl, Nat.le_of_ble_eq_true rfl⟩ ⟨by decide, by decide⟩ dX11_closure_132 (fun v132 S132 w132 => ?_)
              · exact ha1_115
              · exact e21X
              · exact hstX
              · exact e22X
              · exact hskX
              · exact e23X
              · exact hp2
              · exact hp20
              · exact n1X
              · exact n2X
              · exact hmn
              · exact hc2
              · simp only [vp_in_iff, Int32.lt_iff_toInt_lt, Int32.le_iff_toInt_le, ← Int32.toInt_inj, Int32.toInt_add, Int32.toInt_sub, Int32.toInt_mul, Int32.toInt_neg, pq_NuO, pq_NuI, pq_NuJ, qm1, q0, q1, q3] at *; (try simp (disch := omega) only [pq_bm] at *); all_goals omega
              · simp only [vp_in_iff, Int32.lt_iff_toInt_lt, Int32.le_iff_toInt_le, ← Int32.toInt_inj, Int32.toInt_add, Int32.toInt_sub, Int32.toInt_mul, Int32.toInt_neg, pq_NuO, pq_NuI, pq_NuJ, qm1, q0, q1, q3] at *; (try simp (disch := omega) only [pq_bm] at *); all_goals omega
              obtain ⟨rfl, hF132, pl3, hp3, hp30, hc3, hm3⟩ := w132
              have ha1_132 := (hF132.1 _ _ ha1_115 (by decide)).1
              refine pq_goto (tgt := 7) F dX11_closure_135 (by decide) ?_
              exact pq_fg (ih _ bs pl3 rd1 (hFX.cm hF132 (by decide)) hp3 hp30 (hF132.O ha1_115 (by decide) (by decide) (hF115.O ha1 (by decide) (by decide) (pq_kp hrr (by decide)))) hr0 hc3 (by have : pl2.toNatClampNeg + 2 * pq_un (hI S115 ast) x mn ≤ (pl1 - 1).toNatClampNeg + 2 * pq_un (hI S1 ast) x mn := hm2; omega)) (by repeat' (first | exact rfl | exact trivial | constructor))
          · skip
            refine pq_iload_n F dX11_closure_81 rfl rfl ?_
            refine pq_iconst (v := -1) F dX11_closure_82 (by decide) ?_
            refine pq_icmp_eq (tgt := 96) F dX11_closure_83 (by decide) (fun c83 => ?_) (fun c83 => ?_)
            · skip
              refine pq_aload_n F dX11_closure_96 rfl rfl ?_
              refine pq_get F ha1 (by decide) lk_X11_20 (pq_kp e51 (by decide)) dX11_closure_97 ?_
              refine pq_iload_n F dX11_closure_100 rfl rfl ?_
              refine pq_iald F haa1 (by decide) (by decide) rfl (fun n1_101 n2_101 => (by simp only [vp_in_iff, Int32.lt_iff_toInt_lt, Int32.le_iff_toInt_le, ← Int32.toInt_inj, Int32.toInt_add, Int32.toInt_sub, Int32.toInt_mul, Int32.toInt_neg, pq_NuO, pq_NuI, pq_NuJ, qm1, q0, q1, q3] at *; (try simp (disch := omega) only [pq_bm] at *); all_goals omega)) dX11_closure_101 (fun x101 e101 l101 u101 => ?_)
              refine pq_istore_n F dX11_closure_102 rfl (by decide) ?_
              refine pq_goto (tgt := 135) F dX11_closure_103 (by decide) ?_
              refine pq_goto (tgt := 7) F dX11_closure_135 (by decide) ?_
              exact pq_fg (ih _ x101 (pl1 - 1) rd1 (hF.uO ha1 (by decide)) pq_ks hp7 (pq_kp hrr (by decide)) hr0 (hcp.1.less (Nat.le_add_right _ _)) (by show (pl1 - 1).toNatClampNeg + 2 * pq_un (hI S1 ast) x mn < fu; omega)) (by repeat' (first | exact rfl | exact trivial | constructor))
            · skip
              refine pq_aload_n F dX11_closure_86 rfl rfl ?_
              refine pq_get F ha1 (by decide) lk_X11_20 (pq_kp e51 (by decide)) dX11_closure_87 ?_
              refine pq_iload_n F dX11_closure_90 rfl rfl ?_
              refine pq_iald F haa1 (by decide) (by decide) rfl (fun n1_91 n2_91 => (by simp only [vp_in_iff, Int32.lt_iff_toInt_lt, Int32.le_iff_toInt_le, ← Int32.toInt_inj, Int32.toInt_add, Int32.toInt_sub, Int32.toInt_mul, Int32.toInt_neg, pq_NuO, pq_NuI, pq_NuJ, qm1, q0, q1, q3] at *; (try simp (disch := omega) only [pq_bm] at *); all_goals omega)) dX11_closure_91 (fun x91 e91 l91 u91 => ?_)
              refine pq_iload_n F dX11_closure_92 rfl rfl ?_
              refine pq_icmp_ge (tgt := 135) F dX11_closure_93 (by decide) (fun c93 => ?_) (fun c93 => ?_)
              · skip
                refine pq_goto (tgt := 7) F dX11_closure_135 (by decide) ?_
                exact pq_fg (ih _ bs (pl1 - 1) rd1 (hF.uO ha1 (by decide)) pq_ks hp7 (pq_kp hrr (by decide)) hr0 (hcp.1.less (Nat.le_add_right _ _)) (by show (pl1 - 1).toNatClampNeg + 2 * pq_un (hI S1 ast) x mn < fu; omega)) (by repeat' (first | exact rfl | exact trivial | constructor))
              · skip
                refine pq_aload_n F dX11_closure_96 rfl rfl ?_
                refine pq_get F ha1 (by decide) lk_X11_20 (pq_kp e51 (by decide)) dX11_closure_97 ?_
                refine pq_iload_n F dX11_closure_100 rfl rfl ?_
                refine pq_iald F haa1 (by decide) (by decide) rfl (fun n1_101 n2_101 => (by simp only [vp_in_iff, Int32.lt_iff_toInt_lt, Int32.le_iff_toInt_le, ← Int32.toInt_inj, Int32.toInt_add, Int32.toInt_sub, Int32.toInt_mul, Int32.toInt_neg, pq_NuO, pq_NuI, pq_NuJ, qm1, q0, q1, q3] at *; (try simp (disch := omega) only [pq_bm] at *); all_goals omega)) dX11_closure_101 (fun x101 e101 l101 u101 => ?_)
                refine pq_istore_n F dX11_closure_102 rfl (by decide) ?_
                refine pq_goto (tgt := 135) F dX11_closure_103 (by decide) ?_
                refine pq_goto (tgt := 7) F dX11_closure_135 (by decide) ?_
                exact pq_fg (ih _ x101 (pl1 - 1) rd1 (hF.uO ha1 (by decide)) pq_ks hp7 (pq_kp hrr (by decide)) hr0 (hcp.1.less (Nat.le_add_right _ _)) (by show (pl1 - 1).toNatClampNeg + 2 * pq_un (hI S1 ast) x mn < fu; omega)) (by repeat' (first | exact rfl | exact trivial | constructor))
        · skip
          have g0 : hI S ao x32.toNatClampNeg = 0 := (by rw [← io1]; exact e39.symm.trans (by simpa using c40))
          have hcy := hcp.1
          rw [if_pos g0] at hcy
          have hle := hcy.2.2
          have ip := ipw.1 g0
          refine pq_aload_n F dX11_closure_43 rfl rfl ?_
          refine pq_getR F ha1 (by decide) lk_X11_130 rfl dX11_closure_44 (fun r44 e44 h44 => ?_)
          refine pq_aload_n F dX11_closure_47 rfl rfl ?_
          refine pq_get F ha1 (by decide) lk_X11_127 (pq_kp hrr (by decide)) dX11_closure_48 ?_
          refine pq_aload_n F dX11_closure_51 rfl rfl ?_
          refine pq_get F ha1 (by decide) lk_X11_20 (pq_kp e51 (by decide)) dX11_closure_52 ?_
          refine pq_iload_n F dX11_closure_55 rfl rfl ?_
          refine pq_iald F haa1 (by decide) (by decide) rfl (fun n1_56 n2_56 => (by simp only [vp_in_iff, Int32.lt_iff_toInt_lt, Int32.le_iff_toInt_le, ← Int32.toInt_inj, Int32.toInt_add, Int32.toInt_sub, Int32.toInt_mul, Int32.toInt_neg, pq_NuO, pq_NuI, pq_NuJ, qm1, q0, q1, q3] at *; (try simp (disch := omega) only [pq_bm] at *); all_goals omega)) dX11_closure_56 (fun x56 e56 l56 u56 => ?_)
          have ea : x56 = hI S aa x32.toNatClampNeg := (by rw [← ia1]; exact e56)
          rw [← ea] at ip
          refine pq_iast F h44 (by decide) (by decide) rfl (fun n1_57 n2_57 => (by simp only [vp_in_iff, Int32.lt_iff_toInt_lt, Int32.le_iff_toInt_le, ← Int32.toInt_inj, Int32.toInt_add, Int32.toInt_sub, Int32.toInt_mul, Int32.toInt_neg, pq_NuO, pq_NuI, pq_NuJ, qm1, q0, q1, q3] at *; (try simp (disch := omega) only [pq_bm] at *); all_goals omega)) (⟨(by simp only [vp_in_iff, Int32.lt_iff_toInt_lt, Int32.le_iff_toInt_le, ← Int32.toInt_inj, Int32.toInt_add, Int32.toInt_sub, Int32.toInt_mul, Int32.toInt_neg, pq_NuO, pq_NuI, pq_NuJ, qm1, q0, q1, q3] at *; (try simp (disch := omega) only [pq_bm] at *); all_goals omega), (by simp only [vp_in_iff, Int32.lt_iff_toInt_lt, Int32.le_iff_toInt_le, ← Int32.toInt_inj, Int32.toInt_add, Int32.toInt_sub, Int32.toInt_mul, Int32.toInt_neg, pq_NuO, pq_NuI, pq_NuJ, qm1, q0, q1, q3] at *; (try simp (disch := omega) only [pq_bm] at *); all_goals omega)⟩) dX11_closure_57 ?_
          refine pq_aload_n F dX11_closure_58 rfl rfl ?_
          refine pq_dup F dX11_closure_59 rfl ?_
          refine pq_get F ha1 (by decide) lk_X11_127 (pq_kp hrr (by decide)) dX11_closure_60 ?_
          refine pq_iconst (v := 1) F dX11_closure_63 (by decide) ?_
          refine pq_iadd F dX11_closure_64 ?_
          refine pq_putI F ha1 (by decide) lp_X11_127 rfl (by simp only [vp_in_iff, Int32.lt_iff_toInt_lt, Int32.le_iff_toInt_le, ← Int32.toInt_inj, Int32.toInt_add, Int32.toInt_sub, Int32.toInt_mul, Int32.toInt_neg, pq_NuO, pq_NuI, pq_NuJ, qm1, q0, q1, q3] at *; (try simp (disch := omega) only [pq_bm] at *); all_goals omega) (by simp only [vp_in_iff, Int32.lt_iff_toInt_lt, Int32.le_iff_toInt_le, ← Int32.toInt_inj, Int32.toInt_add, Int32.toInt_sub, Int32.toInt_mul, Int32.toInt_neg, pq_NuO, pq_NuI, pq_NuJ, qm1, q0, q1, q3] at *; (try simp (disch := omega) only [pq_bm] at *); all_goals omega) dX11_closure_65 ?_
          refine pq_goto (tgt := 135) F dX11_closure_68 (by decide) ?_
          refine pq_goto (tgt := 7) F dX11_closure_135 (by decide) ?_
          have e9 : (rd1 + 1).toNatClampNeg = rd1.toNatClampNeg + 1 := (by have h8 : 0 ≤ (rd1 + 1).toInt := (by simp only [vp_in_iff, Int32.lt_iff_toInt_lt, Int32.le_iff_toInt_le, ← Int32.toInt_inj, Int32.toInt_add, Int32.toInt_sub, Int32.toInt_mul, Int32.toInt_neg, pq_NuO, pq_NuI, pq_NuJ, qm1, q0, q1, q3] at *; (try simp (disch := omega) only [pq_bm] at *); all_goals omega); have h7 : (rd1 + 1).toInt = rd1.toInt + 1 := (by simp only [vp_in_iff, Int32.lt_iff_toInt_lt, Int32.le_iff_toInt_le, ← Int32.toInt_inj, Int32.toInt_add, Int32.toInt_sub, Int32.toInt_mul, Int32.toInt_neg, pq_NuO, pq_NuI, pq_NuJ, qm1, q0, q1, q3] at *; (try simp (disch := omega) only [pq_bm] at *); all_goals omega); have h6 := pq_cl h8; omega); exact pq_fg (ih _ bs (pl1 - 1) (rd1 + 1) (((hF.uO ha1 (by decide)).uI h44 (by decide)).uO ha1 (by decide)) (pq_kp pq_ks (by decide)) hp7 pq_ks (by simp only [vp_in_iff, Int32.lt_iff_toInt_lt, Int32.le_iff_toInt_le, ← Int32.toInt_inj, Int32.toInt_add, Int32.toInt_sub, Int32.toInt_mul, Int32.toInt_neg, pq_NuO, pq_NuI, pq_NuJ, qm1, q0, q1, q3] at *; (try simp (disch := omega) only [pq_bm] at *); all_goals omega) (by rw [e9]; show pq_cb _ (hI (pq_uI (pq_uO S1 a 24 _) r44 _) ast) (hI (pq_uI (pq_uO S1 a 24 _) r44 _) ask) x mn _ _; rw [pq_Ib (S := pq_uO S1 a 24 _) (rb := 127) (ra := 129) hst1 h44 (by decide), pq_Ib (S := pq_uO S1 a 24 _) (rb := 128) (ra := 129) hsk1 h44 (by decide)]; exact hcy) (by show _ + 2 * pq_un (hI (pq_uI (pq_uO S1 a 24 _) r44 _) ast) x mn < fu; rw [pq_Ib (S := pq_uO S1 a 24 _) (rb := 127) (ra := 129) hst1 h44 (by decide)]; show _ + 2 * pq_un (hI S1 ast) x mn < fu; omega)) (by repeat' (first | exact rfl | exact trivial | constructor))
  refine pq_iconst (v := -1) F dX11_closure_0 (by decide) ?_
  refine pq_istore_n F dX11_closure_1 rfl (by decide) ?_
  refine pq_aload_n F dX11_closure_2 rfl rfl ?_
  refine pq_iconst (v := 0) F dX11_closure_3 (by decide) ?_
  refine pq_putI F ha (by decide) lp_X11_127 rfl (by simp only [vp_in_iff, Int32.lt_iff_toInt_lt, Int32.le_iff_toInt_le, ← Int32.toInt_inj, Int32.toInt_add, Int32.toInt_sub, Int32.toInt_mul, Int32.toInt_neg, pq_NuO, pq_NuI, pq_NuJ, qm1, q0, q1, q3] at *; (try simp (disch := omega) only [pq_bm] at *); all_goals omega) (by simp only [vp_in_iff, Int32.lt_iff_toInt_lt, Int32.le_iff_toInt_le, ← Int32.toInt_inj, Int32.toInt_add, Int32.toInt_sub, Int32.toInt_mul, Int32.toInt_neg, pq_NuO, pq_NuI, pq_NuJ, qm1, q0, q1, q3] at *; (try simp (disch := omega) only [pq_bm] at *); all_goals omega) dX11_closure_4 ?_
  exact pq_fg (L7 _ _ (-1) pl 0 (pq_Fr.rf.uO ha (by decide)) (pq_kp e24 (by decide)) hpl pq_ks (by simp only [vp_in_iff, Int32.lt_iff_toInt_lt, Int32.le_iff_toInt_le, ← Int32.toInt_inj, Int32.toInt_add, Int32.toInt_sub, Int32.toInt_mul, Int32.toInt_neg, pq_NuO, pq_NuI, pq_NuJ, qm1, q0, q1, q3] at *; (try simp (disch := omega) only [pq_bm] at *); all_goals omega) hc (Nat.lt_succ_self _)) (by repeat' (first | exact rfl | exact trivial | constructor))

