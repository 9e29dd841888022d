/-! ===== numbers by their bits ===== -/
theorem pq_nn {x : Int32} (h : 0 ≤ x.toInt) : ∃ a : Nat, x = nI a ∧ (a : Int) = x.toInt := by
  have h2 := Int32.toInt_lt x
  refine ⟨x.toInt.toNat, ?_, by omega⟩
  apply Int32.toInt_inj.mp
  rw [nI_toInt (by omega)]; omega
theorem pq_nor (a b : Nat) : nI a ||| nI b = nI (a ||| b) := by
  apply Int32.toBitVec_inj.1
  show BitVec.ofNat 32 a ||| BitVec.ofNat 32 b = BitVec.ofNat 32 (a ||| b)
  apply BitVec.eq_of_getLsbD_eq
  intro i hi
  simp [hi]
theorem pq_or8 {x y : Int32} (h0 : 0 ≤ x.toInt) (h1 : x.toInt ≤ 1000000) (h2 : 0 ≤ y.toInt) (h3 : y.toInt ≤ 255) : ((x <<< ((8 : Int32) &&& 31)) ||| y).toInt = 256 * x.toInt + y.toInt := by
  obtain ⟨a, ea, ha⟩ := pq_nn h0
  obtain ⟨b, eb, hb⟩ := pq_nn h2
  rw [← ha] at h1 ⊢
  rw [← hb] at h3 ⊢
  rw [ea, eb, pk_shlN ((8 : Int32) &&& 31) 8 (by decide) (by omega), pq_nor, Nat.mul_comm a, ← Nat.two_pow_add_eq_or_of_lt (by omega) a, nI_toInt (by omega)]
  omega
theorem pq_or7 {x y : Int32} (h0 : 0 ≤ x.toInt) (h1 : x.toInt ≤ 1000000) (h2 : 0 ≤ y.toInt) (h3 : y.toInt ≤ 127) : ((x <<< ((7 : Int32) &&& 31)) ||| y).toInt = 128 * x.toInt + y.toInt := by
  obtain ⟨a, ea, ha⟩ := pq_nn h0
  obtain ⟨b, eb, hb⟩ := pq_nn h2
  rw [← ha] at h1 ⊢
  rw [← hb] at h3 ⊢
  rw [ea, eb, pk_shlN ((7 : Int32) &&& 31) 7 (by decide) (by omega), pq_nor, Nat.mul_comm a, ← Nat.two_pow_add_eq_or_of_lt (by omega) a, nI_toInt (by omega)]
  omega
theorem pq_shl8 {x : Int32} (h0 : 0 ≤ x.toInt) (h1 : x.toInt ≤ 1000000) : (x <<< ((8 : Int32) &&& 31)).toInt = 256 * x.toInt := by
  obtain ⟨a, ea, ha⟩ := pq_nn h0
  rw [← ha] at h1 ⊢
  rw [ea, pk_shlN ((8 : Int32) &&& 31) 8 (by decide) (by omega), nI_toInt (by omega)]
  omega
theorem pq_and255v {x : Int32} (h0 : 0 ≤ x.toInt) : (x &&& 255).toInt = x.toInt % 256 := by
  have h2 := Int32.toInt_lt x
  obtain ⟨a, ea, ha⟩ := pq_nn h0
  rw [← ha, ea, pk_and (nI a) 8 (by decide), pk_tn (by omega), nI_toInt (by omega)]
  omega
/-- bit p &&& 63 of v, as the class takes it -/
def pq_bv (v : Int64) (p : Int32) : Int64 := (v.toUInt64 >>> ((p &&& 63).toInt64.toUInt64 &&& Int64.toUInt64 63)).toInt64 &&& 1
theorem pq_shA : ∀ j, j < 64 → (((nI j).toInt64.toUInt64 &&& Int64.toUInt64 63).toBitVec % 64).toNat = j := by decide +kernel
theorem pq_shB : ∀ j, j < 64 → (((nI j).toInt64 &&& 63).toBitVec.smod 64).toNat = j := by decide +kernel
theorem pq_bv_iff (p : Int32) : ∃ j, j < 64 ∧ p &&& 63 = nI j ∧ ∀ v : Int64, (pq_bv v p = 0 ↔ v.toBitVec.getLsbD j = false) := by
  obtain ⟨j, hj, e⟩ := pk_andE p (m := 63) 6 (by decide)
  refine ⟨j, hj, e, fun v => ?_⟩
  unfold pq_bv
  rw [e, ← Int64.toBitVec_inj, Int64.toBitVec_and]
  show ((v.toUInt64 >>> ((nI j).toInt64.toUInt64 &&& Int64.toUInt64 63)).toBitVec &&& 1#64) = 0#64 ↔ _
  rw [UInt64.toBitVec_shiftRight]
  show (v.toBitVec >>> (((nI j).toInt64.toUInt64 &&& Int64.toUInt64 63).toBitVec % 64).toNat &&& 1#64) = 0#64 ↔ _
  rw [pq_shA j hj, BitVec.and_one_eq_setWidth_ofBool_getLsbD, BitVec.getLsbD_ushiftRight, Nat.add_zero]
  cases v.toBitVec.getLsbD j
  · exact ⟨fun _ => rfl, fun _ => rfl⟩
  · exact ⟨fun h => absurd h (by decide), fun h => absurd h (by decide)⟩
theorem pq_bv_set (v : Int64) (p : Int32) : ¬ pq_bv (v ||| (1 <<< ((p &&& 63).toInt64 &&& 63))) p = 0 := by
  obtain ⟨j, hj, e, h⟩ := pq_bv_iff p
  rw [h, Int64.toBitVec_or, BitVec.getLsbD_or, e, Int64.toBitVec_shiftLeft]
  show ¬ (v.toBitVec.getLsbD j || (1#64 <<< (((nI j).toInt64 &&& 63).toBitVec.smod 64).toNat).getLsbD j) = false
  rw [pq_shB j hj, BitVec.getLsbD_shiftLeft]
  simp [hj]
theorem pq_bv_or (v w : Int64) (p : Int32) (hv : ¬ pq_bv v p = 0) : ¬ pq_bv (v ||| w) p = 0 := by
  obtain ⟨j, hj, e, h⟩ := pq_bv_iff p
  rw [h] at hv
  rw [h, Int64.toBitVec_or, BitVec.getLsbD_or]
  simp only [Bool.not_eq_false] at hv
  simp [hv]
def pq_bs (g : Nat → Int64) (p : Int32) : Prop := ¬ pq_bv (g (p.toInt / 64).toNat) p = 0
theorem pq_bs.or {g : Nat → Int64} {q : Int32} {k : Nat} {w : Int64} (h : pq_bs g q) : pq_bs (vp_updL g k (g k ||| w)) q := by
  unfold pq_bs vp_updL
  by_cases e : (q.toInt / 64).toNat = k
  · rw [if_pos e, ← e]; exact pq_bv_or _ _ _ h
  · rw [if_neg e]; exact h
theorem pq_bs_set {g : Nat → Int64} {p : Int32} {k : Nat} (hk : k = (p.toInt / 64).toNat) : pq_bs (vp_updL g k (g k ||| (1 <<< ((p &&& 63).toInt64 &&& 63)))) p := by
  unfold pq_bs vp_updL
  rw [if_pos hk.symm]
  exact pq_bv_set _ _
theorem pq_cmpz {x y : Int64} (h : lg_cmp x y = 0) : x = y := by
  unfold lg_cmp at h
  by_cases h1 : x > y
  · rw [if_pos h1] at h; exact absurd h (by decide)
  · rw [if_neg h1] at h
    by_cases h2 : x = y
    · exact h2
    · rw [if_neg h2] at h; exact absurd h (by decide)
/-- m different numbers below N -/
theorem pq_pg : ∀ (N m : Nat) (f : Nat → Nat), (∀ i, i < m → f i < N) → (∀ i j, i < j → j < m → f i ≠ f j) → m ≤ N
  | 0, m, f, h, _ => by
    rcases Nat.eq_zero_or_pos m with e | e
    · omega
    · exact absurd (h 0 e) (Nat.not_lt_zero _)
  | N + 1, m, f, h, hd => by
    by_cases hx : ∃ i, i < m ∧ f i = N
    · obtain ⟨i0, hi0, e0⟩ := hx
      have := pq_pg N (m - 1) (fun i => if i = i0 then f (m - 1) else f i) (fun i hi => ?_) (fun i j hij hj => ?_)
      · omega
      · show (if i = i0 then f (m - 1) else f i) < N
        by_cases e : i = i0
        · rw [if_pos e]
          have h1 := h (m - 1) (by omega)
          have h2 := hd i0 (m - 1) (by omega) (by omega)
          omega
        · rw [if_neg e]
          have h1 := h i (by omega)
          have h2 : f i ≠ N := by
            rw [← e0]
            rcases Nat.lt_or_ge i i0 with h3 | h3
            · exact hd i i0 h3 hi0
            · exact (hd i0 i (by omega) (by omega)).symm
          omega
      · show (if i = i0 then f (m - 1) else f i) ≠ (if j = i0 then f (m - 1) else f j)
        by_cases e : i = i0
        · rw [if_pos e, if_neg (by omega)]
          exact (hd j (m - 1) (by omega) (by omega)).symm
        · rw [if_neg e]
          by_cases e2 : j = i0
          · rw [if_pos e2]; exact hd i (m - 1) (by omega) (by omega)
          · rw [if_neg e2]; exact hd i j hij (by omega)
    · have := pq_pg N m f (fun i hi => ?_) hd
      · omega
      · have h1 := h i hi
        have h2 : f i ≠ N := fun e => hx ⟨i, hi, e⟩
        omega
/-! ===== the search's rows: f pairs, g seen, o origins, fd found ===== -/
def pq_pr (x y : Int32) : Int32 := (x <<< ((8 : Int32) &&& 31)) ||| y
def pq_Sr (f : Nat → Int32) (g : Nat → Int64) (o : Nat → Int32) (PA PB : Int32 → Prop) (fd : Int) : Prop := (∀ i : Nat, (i : Int) < fd → ∃ x y : Int32, PA x ∧ PB y ∧ f i = pq_pr x y) ∧ (∀ i : Nat, 1 ≤ i → (i : Int) < fd → pq_bs g (f i)) ∧ (∀ i j : Nat, 1 ≤ i → i < j → (j : Int) < fd → f i ≠ f j) ∧ o 0 = 0 ∧ ∀ i : Nat, 1 ≤ i → (i : Int) < fd → 0 ≤ (o i).toInt ∧ (o i).toInt / 128 < (i : Int)
theorem pq_Sr.start {f : Nat → Int32} {g : Nat → Int64} {o : Nat → Int32} {PA PB : Int32 → Prop} {x y : Int32} (hx : PA x) (hy : PB y) : pq_Sr (upd f 0 (pq_pr x y)) g (upd o 0 0) PA PB 1 := by
  refine ⟨fun i hi => ⟨x, y, hx, hy, ?_⟩, fun i h1 h2 => absurd h2 (by omega), fun i j h1 h2 h3 => absurd h3 (by omega), pk_us, fun i h1 h2 => absurd h2 (by omega)⟩
  rw [show i = 0 by omega, pk_us]
theorem pq_Sr.add {f : Nat → Int32} {g g2 : Nat → Int64} {o : Nat → Int32} {PA PB : Int32 → Prop} {fd : Int} {x y : Int32} {k : Nat} {v : Int32} (h : pq_Sr f g o PA PB fd) (hx : PA x) (hy : PB y) (hn : ¬ pq_bs g (pq_pr x y)) (hg : ∀ q, pq_bs g q → pq_bs g2 q) (hg2 : pq_bs g2 (pq_pr x y)) (hk : (k : Int) = fd) (hk1 : 1 ≤ k) (hv : 0 ≤ v.toInt) (hv2 : v.toInt / 128 < fd) : pq_Sr (upd f k (pq_pr x y)) g2 (upd o k v) PA PB (fd + 1) := by
  obtain ⟨h1, h2, h3, h4, h5⟩ := h
  refine ⟨fun i hi => ?_, fun i i1 hi => ?_, fun i j i1 ij hj => ?_, ?_, fun i i1 hi => ?_⟩
  · by_cases e : i = k
    · rw [e, pk_us]; exact ⟨x, y, hx, hy, rfl⟩
    · rw [pk_un e]; exact h1 i (by omega)
  · by_cases e : i = k
    · rw [e, pk_us]; exact hg2
    · rw [pk_un e]; exact hg _ (h2 i i1 (by omega))
  · rw [pk_un (show i ≠ k by omega)]
    by_cases e : j = k
    · rw [e, pk_us]
      intro z
      exact hn (z ▸ h2 i i1 (by omega))
    · rw [pk_un e]; exact h3 i j i1 ij (by omega)
  · rw [pk_un (show 0 ≠ k by omega)]; exact h4
  · by_cases e : i = k
    · rw [e, pk_us, hk]; exact ⟨hv, hv2⟩
    · rw [pk_un e]; exact h5 i i1 (by omega)
/-- a number that is found is one of a * b pairs -/
theorem pq_Sr.most {f : Nat → Int32} {g : Nat → Int64} {o : Nat → Int32} {PA PB : Int32 → Prop} {fd : Int} {sa sb : Int} (h : pq_Sr f g o PA PB fd) (hA : ∀ x, PA x → 0 ≤ x.toInt ∧ x.toInt < sa) (hB : ∀ y, PB y → 0 ≤ y.toInt ∧ y.toInt < sb) (ha : sa ≤ 201) (hb : sb ≤ 201) : fd ≤ 40402 := by
  have key : ∀ i : Nat, 1 ≤ i → (i : Int) < fd → ∃ a b : Nat, a < 201 ∧ b < 201 ∧ (f i).toInt = 256 * (a : Int) + (b : Int) := fun i _ hi => by
    obtain ⟨x, y, hx, hy, e⟩ := h.1 i hi
    have h1 := hA x hx
    have h2 := hB y hy
    refine ⟨x.toInt.toNat, y.toInt.toNat, by omega, by omega, ?_⟩
    rw [e]
    show ((x <<< ((8 : Int32) &&& 31)) ||| y).toInt = _
    rw [pq_or8 h1.1 (by omega) h2.1 (by omega)]
    omega
  have := pq_pg 40401 (fd - 1).toNat (fun i => ((f (i + 1)).toInt.toNat / 256) * 201 + (f (i + 1)).toInt.toNat % 256) (fun i hi => ?_) (fun i j hij hj => ?_)
  · omega
  · obtain ⟨a, b, h1, h2, h3⟩ := key (i + 1) (by omega) (by omega)
    show ((f (i + 1)).toInt.toNat / 256) * 201 + (f (i + 1)).toInt.toNat % 256 < 40401
    omega
  · obtain ⟨a, b, h1, h2, h3⟩ := key (i + 1) (by omega) (by omega)
    obtain ⟨a2, b2, k1, k2, k3⟩ := key (j + 1) (by omega) (by omega)
    have hne := h.2.2.1 (i + 1) (j + 1) (by omega) (by omega) (by omega)
    show ((f (i + 1)).toInt.toNat / 256) * 201 + (f (i + 1)).toInt.toNat % 256 ≠ ((f (j + 1)).toInt.toNat / 256) * 201 + (f (j + 1)).toInt.toNat % 256
    intro e
    apply hne
    apply Int32.toInt_inj.mp
    omega

set_option maxHeartbeats 4000000 in
set_option maxRecDepth 100000 in
theorem k_X7_isWanted (l : Launch) (D : va_G) (cy : Nat → ClassId) (S : HS) (kd : Int32) (za : Int32) (hza0 : 0 ≤ za.toInt) (hza1 : za.toInt ≤ 1) (zb : Int32) (hzb0 : 0 ≤ zb.toInt) (hzb1 : zb.toInt ≤ 1) : pq_C l D cy yX7_isWanted cX7_isWanted 3 (some .boolean) 1 0 0 S [.int kd, .int za, .int zb] (fun v S2 => S2 = S ∧ ∃ x : Int32, v = some (.int x) ∧ 0 ≤ x.toInt ∧ x.toInt ≤ 1 ∧ ((x.toInt = 1 → ((kd.toInt = 0 ∧ ¬ za.toInt = zb.toInt) ∨ (kd.toInt = 1 ∧ za.toInt = 1 ∧ zb.toInt = 0) ∨ (kd.toInt = 2 ∧ zb.toInt = 1 ∧ za.toInt = 0) ∨ (kd.toInt = 3 ∧ za.toInt = 1 ∧ zb.toInt = 1) ∨ ((kd.toInt < 0 ∨ 3 < kd.toInt) ∧ za.toInt = 0 ∧ zb.toInt = 0))) ∧ (((kd.toInt = 0 ∧ ¬ za.toInt = zb.toInt) ∨ (kd.toInt = 1 ∧ za.toInt = 1 ∧ zb.toInt = 0) ∨ (kd.toInt = 2 ∧ zb.toInt = 1 ∧ za.toInt = 0) ∨ (kd.toInt = 3 ∧ za.toInt = 1 ∧ zb.toInt = 1) ∨ ((kd.toInt < 0 ∨ 3 < kd.toInt) ∧ za.toInt = 0 ∧ zb.toInt = 0)) → x.toInt = 1))) := by
  refine pq_start (by decide) (Nat.le_of_ble_eq_true rfl) ?_
  intro p e s m args below meth c A F hr hlk hnm hA
  have lqm1 : (-1 : Int32).toInt = -1 := rfl
  have lq0 : (0 : Int32).toInt = 0 := rfl
  have lq1 : (1 : Int32).toInt = 1 := rfl
  refine pq_iload_n F dX7_isWanted_0 rfl rfl ?_
  by_cases c1o : kd.toInt < 0 ∨ 3 < kd.toInt
  · refine pq_tabOut (tgt := 85) F dX7_isWanted_1 c1o (by decide) ?_
    refine pq_iload_n F dX7_isWanted_85 rfl rfl ?_
    refine pq_if_ne (tgt := 97) F dX7_isWanted_86 (by decide) (fun c86 => ?_) (fun c86 => ?_)
    · skip
      refine pq_iconst (v := 0) F dX7_isWanted_97 (by decide) ?_
      exact pq_zret F hr hlk hA rfl (Nat.le_refl _) (Nat.le_refl _) (⟨rfl, _, rfl, (by focus (simp only [vp_in_iff, Int32.lt_iff_toInt_lt, Int32.le_iff_toInt_le, ← Int32.toInt_inj, Int32.toInt_add, Int32.toInt_sub, Int32.toInt_mul, Int32.toInt_neg, pq_NuO, pq_NuI, pq_NuJ, pq_NuR, pq_shr6, pq_shr7, pq_shr8, lqm1, lq0, lq1] at *; (try simp (disch := omega) only [pq_bm] at *); all_goals omega)), (by focus (simp only [vp_in_iff, Int32.lt_iff_toInt_lt, Int32.le_iff_toInt_le, ← Int32.toInt_inj, Int32.toInt_add, Int32.toInt_sub, Int32.toInt_mul, Int32.toInt_neg, pq_NuO, pq_NuI, pq_NuJ, pq_NuR, pq_shr6, pq_shr7, pq_shr8, lqm1, lq0, lq1] at *; (try simp (disch := omega) only [pq_bm] at *); all_goals omega)), (by constructor; (intro z9; focus (simp only [vp_in_iff, Int32.lt_iff_toInt_lt, Int32.le_iff_toInt_le, ← Int32.toInt_inj, Int32.toInt_add, Int32.toInt_sub, Int32.toInt_mul, Int32.toInt_neg, pq_NuO, pq_NuI, pq_NuJ, pq_NuR, pq_shr6, pq_shr7, pq_shr8, lqm1, lq0, lq1] at *; (try simp (disch := omega) only [pq_bm] at *); all_goals omega)); (intro z9; focus (simp only [vp_in_iff, Int32.lt_iff_toInt_lt, Int32.le_iff_toInt_le, ← Int32.toInt_inj, Int32.toInt_add, Int32.toInt_sub, Int32.toInt_mul, Int32.toInt_neg, pq_NuO, pq_NuI, pq_NuJ, pq_NuR, pq_shr6, pq_shr7, pq_shr8, lqm1, lq0, lq1] at *; (try simp (disch := omega) only [pq_bm] at *); all_goals omega)))⟩) dX7_isWanted_98
    · skip
      refine pq_iload_n F dX7_isWanted_89 rfl rfl ?_
      refine pq_if_ne (tgt := 97) F dX7_isWanted_90 (by decide) (fun c90 => ?_) (fun c90 => ?_)
      · skip
        refine pq_iconst (v := 0) F dX7_isWanted_97 (by decide) ?_
        exact pq_zret F hr hlk hA rfl (Nat.le_refl _) (Nat.le_refl _) (⟨rfl, _, rfl, (by focus (simp only [vp_in_iff, Int32.lt_iff_toInt_lt, Int32.le_iff_toInt_le, ← Int32.toInt_inj, Int32.toInt_add, Int32.toInt_sub, Int32.toInt_mul, Int32.toInt_neg, pq_NuO, pq_NuI, pq_NuJ, pq_NuR, pq_shr6, pq_shr7, pq_shr8, lqm1, lq0, lq1] at *; (try simp (disch := omega) only [pq_bm] at *); all_goals omega)), (by focus (simp only [vp_in_iff, Int32.lt_iff_toInt_lt, Int32.le_iff_toInt_le, ← Int32.toInt_inj, Int32.toInt_add, Int32.toInt_sub, Int32.toInt_mul, Int32.toInt_neg, pq_NuO, pq_NuI, pq_NuJ, pq_NuR, pq_shr6, pq_shr7, pq_shr8, lqm1, lq0, lq1] at *; (try simp (disch := omega) only [pq_bm] at *); all_goals omega)), (by constructor; (intro z9; focus (simp only [vp_in_iff, Int32.lt_iff_toInt_lt, Int32.le_iff_toInt_le, ← Int32.toInt_inj, Int32.toInt_add, Int32.toInt_sub, Int32.toInt_mul, Int32.toInt_neg, pq_NuO, pq_NuI, pq_NuJ, pq_NuR, pq_shr6, pq_shr7, pq_shr8, lqm1, lq0, lq1] at *; (try simp (disch := omega) only [pq_bm] at *); all_goals omega)); (intro z9; focus (simp only [vp_in_iff, Int32.lt_iff_toInt_lt, Int32.le_iff_toInt_le, ← Int32.toInt_inj, Int32.toInt_add, Int32.toInt_sub, Int32.toInt_mul, Int32.toInt_neg, pq_NuO, pq_NuI, pq_NuJ, pq_NuR, pq_shr6, pq_shr7, pq_shr8, lqm1, lq0, lq1] at *; (try simp (disch := omega) only [pq_bm] at *); all_goals omega)))⟩) dX7_isWanted_98
      · skip
        refine pq_iconst (v := 1) F dX7_isWanted_93 (by decide) ?_
        refine pq_goto (tgt := 98) F dX7_isWanted_94 (by decide) ?_
        exact pq_zret F hr hlk hA rfl (Nat.le_refl _) (Nat.le_refl _) (⟨rfl, _, rfl, (by focus (simp only [vp_in_iff, Int32.lt_iff_toInt_lt, Int32.le_iff_toInt_le, ← Int32.toInt_inj, Int32.toInt_add, Int32.toInt_sub, Int32.toInt_mul, Int32.toInt_neg, pq_NuO, pq_NuI, pq_NuJ, pq_NuR, pq_shr6, pq_shr7, pq_shr8, lqm1, lq0, lq1] at *; (try simp (disch := omega) only [pq_bm] at *); all_goals omega)), (by focus (simp only [vp_in_iff, Int32.lt_iff_toInt_lt, Int32.le_iff_toInt_le, ← Int32.toInt_inj, Int32.toInt_add, Int32.toInt_sub, Int32.toInt_mul, Int32.toInt_neg, pq_NuO, pq_NuI, pq_NuJ, pq_NuR, pq_shr6, pq_shr7, pq_shr8, lqm1, lq0, lq1] at *; (try simp (disch := omega) only [pq_bm] at *); all_goals omega)), (by constructor; (intro z9; focus (simp only [vp_in_iff, Int32.lt_iff_toInt_lt, Int32.le_iff_toInt_le, ← Int32.toInt_inj, Int32.toInt_add, Int32.toInt_sub, Int32.toInt_mul, Int32.toInt_neg, pq_NuO, pq_NuI, pq_NuJ, pq_NuR, pq_shr6, pq_shr7, pq_shr8, lqm1, lq0, lq1] at *; (try simp (disch := omega) only [pq_bm] at *); all_goals omega)); (intro z9; focus (simp only [vp_in_iff, Int32.lt_iff_toInt_lt, Int32.le_iff_toInt_le, ← Int32.toInt_inj, Int32.toInt_add, Int32.toInt_sub, Int32.toInt_mul, Int32.toInt_neg, pq_NuO, pq_NuI, pq_NuJ, pq_NuR, pq_shr6, pq_shr7, pq_shr8, lqm1, lq0, lq1] at *; (try simp (disch := omega) only [pq_bm] at *); all_goals omega)))⟩) dX7_isWanted_98
  by_cases c1_0 : kd.toInt = 0
  · refine pq_tabIn (tgt := 32) F dX7_isWanted_1 (by omega) (by omega) (by rw [c1_0]; rfl) (by decide) ?_
    refine pq_iload_n F dX7_isWanted_32 rfl rfl ?_
    refine pq_iload_n F dX7_isWanted_33 rfl rfl ?_
    refine pq_icmp_eq (tgt := 41) F dX7_isWanted_34 (by decide) (fun c34 => ?_) (fun c34 => ?_)
    · skip
      refine pq_iconst (v := 0) F dX7_isWanted_41 (by decide) ?_
      exact pq_zret F hr hlk hA rfl (Nat.le_refl _) (Nat.le_refl _) (⟨rfl, _, rfl, (by focus (simp only [vp_in_iff, Int32.lt_iff_toInt_lt, Int32.le_iff_toInt_le, ← Int32.toInt_inj, Int32.toInt_add, Int32.toInt_sub, Int32.toInt_mul, Int32.toInt_neg, pq_NuO, pq_NuI, pq_NuJ, pq_NuR, pq_shr6, pq_shr7, pq_shr8, lqm1, lq0, lq1] at *; (try simp (disch := omega) only [pq_bm] at *); all_goals omega)), (by focus (simp only [vp_in_iff, Int32.lt_iff_toInt_lt, Int32.le_iff_toInt_le, ← Int32.toInt_inj, Int32.toInt_add, Int32.toInt_sub, Int32.toInt_mul, Int32.toInt_neg, pq_NuO, pq_NuI, pq_NuJ, pq_NuR, pq_shr6, pq_shr7, pq_shr8, lqm1, lq0, lq1] at *; (try simp (disch := omega) only [pq_bm] at *); all_goals omega)), (by constructor; (intro z9; focus (simp only [vp_in_iff, Int32.lt_iff_toInt_lt, Int32.le_iff_toInt_le, ← Int32.toInt_inj, Int32.toInt_add, Int32.toInt_sub, Int32.toInt_mul, Int32.toInt_neg, pq_NuO, pq_NuI, pq_NuJ, pq_NuR, pq_shr6, pq_shr7, pq_shr8, lqm1, lq0, lq1] at *; (try simp (disch := omega) only [pq_bm] at *); all_goals omega)); (intro z9; focus (simp only [vp_in_iff, Int32.lt_iff_toInt_lt, Int32.le_iff_toInt_le, ← Int32.toInt_inj, Int32.toInt_add, Int32.toInt_sub, Int32.toInt_mul, Int32.toInt_neg, pq_NuO, pq_NuI, pq_NuJ, pq_NuR, pq_shr6, pq_shr7, pq_shr8, lqm1, lq0, lq1] at *; (try simp (disch := omega) only [pq_bm] at *); all_goals omega)))⟩) dX7_isWanted_42
    · skip
      refine pq_iconst (v := 1) F dX7_isWanted_37 (by decide) ?_
      refine pq_goto (tgt := 42) F dX7_isWanted_38 (by decide) ?_
      exact pq_zret F hr hlk hA rfl (Nat.le_refl _) (Nat.le_refl _) (⟨rfl, _, rfl, (by focus (simp only [vp_in_iff, Int32.lt_iff_toInt_lt, Int32.le_iff_toInt_le, ← Int32.toInt_inj, Int32.toInt_add, Int32.toInt_sub, Int32.toInt_mul, Int32.toInt_neg, pq_NuO, pq_NuI, pq_NuJ, pq_NuR, pq_shr6, pq_shr7, pq_shr8, lqm1, lq0, lq1] at *; (try simp (disch := omega) only [pq_bm] at *); all_goals omega)), (by focus (simp only [vp_in_iff, Int32.lt_iff_toInt_lt, Int32.le_iff_toInt_le, ← Int32.toInt_inj, Int32.toInt_add, Int32.toInt_sub, Int32.toInt_mul, Int32.toInt_neg, pq_NuO, pq_NuI, pq_NuJ, pq_NuR, pq_shr6, pq_shr7, pq_shr8, lqm1, lq0, lq1] at *; (try simp (disch := omega) only [pq_bm] at *); all_goals omega)), (by constructor; (intro z9; focus (simp only [vp_in_iff, Int32.lt_iff_toInt_lt, Int32.le_iff_toInt_le, ← Int32.toInt_inj, Int32.toInt_add, Int32.toInt_sub, Int32.toInt_mul, Int32.toInt_neg, pq_NuO, pq_NuI, pq_NuJ, pq_NuR, pq_shr6, pq_shr7, pq_shr8, lqm1, lq0, lq1] at *; (try simp (disch := omega) only [pq_bm] at *); all_goals omega)); (intro z9; focus (simp only [vp_in_iff, Int32.lt_iff_toInt_lt, Int32.le_iff_toInt_le, ← Int32.toInt_inj, Int32.toInt_add, Int32.toInt_sub, Int32.toInt_mul, Int32.toInt_neg, pq_NuO, pq_NuI, pq_NuJ, pq_NuR, pq_shr6, pq_shr7, pq_shr8, lqm1, lq0, lq1] at *; (try simp (disch := omega) only [pq_bm] at *); all_goals omega)))⟩) dX7_isWanted_42
  by_cases c1_1 : kd.toInt = 1
  · refine pq_tabIn (tgt := 43) F dX7_isWanted_1 (by omega) (by omega) (by rw [c1_1]; rfl) (by decide) ?_
    refine pq_iload_n F dX7_isWanted_43 rfl rfl ?_
    refine pq_if_eq (tgt := 55) F dX7_isWanted_44 (by decide) (fun c44 => ?_) (fun c44 => ?_)
    · skip
      refine pq_iconst (v := 0) F dX7_isWanted_55 (by decide) ?_
      exact pq_zret F hr hlk hA rfl (Nat.le_refl _) (Nat.le_refl _) (⟨rfl, _, rfl, (by focus (simp only [vp_in_iff, Int32.lt_iff_toInt_lt, Int32.le_iff_toInt_le, ← Int32.toInt_inj, Int32.toInt_add, Int32.toInt_sub, Int32.toInt_mul, Int32.toInt_neg, pq_NuO, pq_NuI, pq_NuJ, pq_NuR, pq_shr6, pq_shr7, pq_shr8, lqm1, lq0, lq1] at *; (try simp (disch := omega) only [pq_bm] at *); all_goals omega)), (by focus (simp only [vp_in_iff, Int32.lt_iff_toInt_lt, Int32.le_iff_toInt_le, ← Int32.toInt_inj, Int32.toInt_add, Int32.toInt_sub, Int32.toInt_mul, Int32.toInt_neg, pq_NuO, pq_NuI, pq_NuJ, pq_NuR, pq_shr6, pq_shr7, pq_shr8, lqm1, lq0, lq1] at *; (try simp (disch := omega) only [pq_bm] at *); all_goals omega)), (by constructor; (intro z9; focus (simp only [vp_in_iff, Int32.lt_iff_toInt_lt, Int32.le_iff_toInt_le, ← Int32.toInt_inj, Int32.toInt_add, Int32.toInt_sub, Int32.toInt_mul, Int32.toInt_neg, pq_NuO, pq_NuI, pq_NuJ, pq_NuR, pq_shr6, pq_shr7, pq_shr8, lqm1, lq0, lq1] at *; (try simp (disch := omega) only [pq_bm] at *); all_goals omega)); (intro z9; focus (simp only [vp_in_iff, Int32.lt_iff_toInt_lt, Int32.le_iff_toInt_le, ← Int32.toInt_inj, Int32.toInt_add, Int32.toInt_sub, Int32.toInt_mul, Int32.toInt_neg, pq_NuO, pq_NuI, pq_NuJ, pq_NuR, pq_shr6, pq_shr7, pq_shr8, lqm1, lq0, lq1] at *; (try simp (disch := omega) only [pq_bm] at *); all_goals omega)))⟩) dX7_isWanted_56
    · skip
      refine pq_iload_n F dX7_isWanted_47 rfl rfl ?_
      refine pq_if_ne (tgt := 55) F dX7_isWanted_48 (by decide) (fun c48 => ?_) (fun c48 => ?_)
      · skip
        refine pq_iconst (v := 0) F dX7_isWanted_55 (by decide) ?_
        exact pq_zret F hr hlk hA rfl (Nat.le_refl _) (Nat.le_refl _) (⟨rfl, _, rfl, (by focus (simp only [vp_in_iff, Int32.lt_iff_toInt_lt, Int32.le_iff_toInt_le, ← Int32.toInt_inj, Int32.toInt_add, Int32.toInt_sub, Int32.toInt_mul, Int32.toInt_neg, pq_NuO, pq_NuI, pq_NuJ, pq_NuR, pq_shr6, pq_shr7, pq_shr8, lqm1, lq0, lq1] at *; (try simp (disch := omega) only [pq_bm] at *); all_goals omega)), (by focus (simp only [vp_in_iff, Int32.lt_iff_toInt_lt, Int32.le_iff_toInt_le, ← Int32.toInt_inj, Int32.toInt_add, Int32.toInt_sub, Int32.toInt_mul, Int32.toInt_neg, pq_NuO, pq_NuI, pq_NuJ, pq_NuR, pq_shr6, pq_shr7, pq_shr8, lqm1, lq0, lq1] at *; (try simp (disch := omega) only [pq_bm] at *); all_goals omega)), (by constructor; (intro z9; focus (simp only [vp_in_iff, Int32.lt_iff_toInt_lt, Int32.le_iff_toInt_le, ← Int32.toInt_inj, Int32.toInt_add, Int32.toInt_sub, Int32.toInt_mul, Int32.toInt_neg, pq_NuO, pq_NuI, pq_NuJ, pq_NuR, pq_shr6, pq_shr7, pq_shr8, lqm1, lq0, lq1] at *; (try simp (disch := omega) only [pq_bm] at *); all_goals omega)); (intro z9; focus (simp only [vp_in_iff, Int32.lt_iff_toInt_lt, Int32.le_iff_toInt_le, ← Int32.toInt_inj, Int32.toInt_add, Int32.toInt_sub, Int32.toInt_mul, Int32.toInt_neg, pq_NuO, pq_NuI, pq_NuJ, pq_NuR, pq_shr6, pq_shr7, pq_shr8, lqm1, lq0, lq1] at *; (try simp (disch := omega) only [pq_bm] at *); all_goals omega)))⟩) dX7_isWanted_56
      · skip
        refine pq_iconst (v := 1) F dX7_isWanted_51 (by decide) ?_
        refine pq_goto (tgt := 56) F dX7_isWanted_52 (by decide) ?_
        exact pq_zret F hr hlk hA rfl (Nat.le_refl _) (Nat.le_refl _) (⟨rfl, _, rfl, (by focus (simp only [vp_in_iff, Int32.lt_iff_toInt_lt, Int32.le_iff_toInt_le, ← Int32.toInt_inj, Int32.toInt_add, Int32.toInt_sub, Int32.toInt_mul, Int32.toInt_neg, pq_NuO, pq_NuI, pq_NuJ, pq_NuR, pq_shr6, pq_shr7, pq_shr8, lqm1, lq0, lq1] at *; (try simp (disch := omega) only [pq_bm] at *); all_goals omega)), (by focus (simp only [vp_in_iff, Int32.lt_iff_toInt_lt, Int32.le_iff_toInt_le, ← Int32.toInt_inj, Int32.toInt_add, Int32.toInt_sub, Int32.toInt_mul, Int32.toInt_neg, pq_NuO, pq_NuI, pq_NuJ, pq_NuR, pq_shr6, pq_shr7, pq_shr8, lqm1, lq0, lq1] at *; (try simp (disch := omega) only [pq_bm] at *); all_goals omega)), (by constructor; (intro z9; focus (simp only [vp_in_iff, Int32.lt_iff_toInt_lt, Int32.le_iff_toInt_le, ← Int32.toInt_inj, Int32.toInt_add, Int32.toInt_sub, Int32.toInt_mul, Int32.toInt_neg, pq_NuO, pq_NuI, pq_NuJ, pq_NuR, pq_shr6, pq_shr7, pq_shr8, lqm1, lq0, lq1] at *; (try simp (disch := omega) only [pq_bm] at *); all_goals omega)); (intro z9; focus (simp only [vp_in_iff, Int32.lt_iff_toInt_lt, Int32.le_iff_toInt_le, ← Int32.toInt_inj, Int32.toInt_add, Int32.toInt_sub, Int32.toInt_mul, Int32.toInt_neg, pq_NuO, pq_NuI, pq_NuJ, pq_NuR, pq_shr6, pq_shr7, pq_shr8, lqm1, lq0, lq1] at *; (try simp (disch := omega) only [pq_bm] at *); all_goals omega)))⟩) dX7_isWanted_56
  by_cases c1_2 : kd.toInt = 2
  · refine pq_tabIn (tgt := 57) F dX7_isWanted_1 (by omega) (by omega) (by rw [c1_2]; rfl) (by decide) ?_
    refine pq_iload_n F dX7_isWanted_57 rfl rfl ?_
    refine pq_if_eq (tgt := 69) F dX7_isWanted_58 (by decide) (fun c58 => ?_) (fun c58 => ?_)
    · skip
      refine pq_iconst (v := 0) F dX7_isWanted_69 (by decide) ?_
      exact pq_zret F hr hlk hA rfl (Nat.le_refl _) (Nat.le_refl _) (⟨rfl, _, rfl, (by focus (simp only [vp_in_iff, Int32.lt_iff_toInt_lt, Int32.le_iff_toInt_le, ← Int32.toInt_inj, Int32.toInt_add, Int32.toInt_sub, Int32.toInt_mul, Int32.toInt_neg, pq_NuO, pq_NuI, pq_NuJ, pq_NuR, pq_shr6, pq_shr7, pq_shr8, lqm1, lq0, lq1] at *; (try simp (disch := omega) only [pq_bm] at *); all_goals omega)), (by focus (simp only [vp_in_iff, Int32.lt_iff_toInt_lt, Int32.le_iff_toInt_le, ← Int32.toInt_inj, Int32.toInt_add, Int32.toInt_sub, Int32.toInt_mul, Int32.toInt_neg, pq_NuO, pq_NuI, pq_NuJ, pq_NuR, pq_shr6, pq_shr7, pq_shr8, lqm1, lq0, lq1] at *; (try simp (disch := omega) only [pq_bm] at *); all_goals omega)), (by constructor; (intro z9; focus (simp only [vp_in_iff, Int32.lt_iff_toInt_lt, Int32.le_iff_toInt_le, ← Int32.toInt_inj, Int32.toInt_add, Int32.toInt_sub, Int32.toInt_mul, Int32.toInt_neg, pq_NuO, pq_NuI, pq_NuJ, pq_NuR, pq_shr6, pq_shr7, pq_shr8, lqm1, lq0, lq1] at *; (try simp (disch := omega) only [pq_bm] at *); all_goals omega)); (intro z9; focus (simp only [vp_in_iff, Int32.lt_iff_toInt_lt, Int32.le_iff_toInt_le, ← Int32.toInt_inj, Int32.toInt_add, Int32.toInt_sub, Int32.toInt_mul, Int32.toInt_neg, pq_NuO, pq_NuI, pq_NuJ, pq_NuR, pq_shr6, pq_shr7, pq_shr8, lqm1, lq0, lq1] at *; (try simp (disch := omega) only [pq_bm] at *); all_goals omega)))⟩) dX7_isWanted_70
    · skip
      refine pq_iload_n F dX7_isWanted_61 rfl rfl ?_
      refine pq_if_ne (tgt := 69) F dX7_isWanted_62 (by decide) (fun c62 => ?_) (fun c62 => ?_)
      · skip
        refine pq_iconst (v := 0) F dX7_isWanted_69 (by decide) ?_
        exact pq_zret F hr hlk hA rfl (Nat.le_refl _) (Nat.le_refl _) (⟨rfl, _, rfl, (by focus (simp only [vp_in_iff, Int32.lt_iff_toInt_lt, Int32.le_iff_toInt_le, ← Int32.toInt_inj, Int32.toInt_add, Int32.toInt_sub, Int32.toInt_mul, Int32.toInt_neg, pq_NuO, pq_NuI, pq_NuJ, pq_NuR, pq_shr6, pq_shr7, pq_shr8, lqm1, lq0, lq1] at *; (try simp (disch := omega) only [pq_bm] at *); all_goals omega)), (by focus (simp only [vp_in_iff, Int32.lt_iff_toInt_lt, Int32.le_iff_toInt_le, ← Int32.toInt_inj, Int32.toInt_add, Int32.toInt_sub, Int32.toInt_mul, Int32.toInt_neg, pq_NuO, pq_NuI, pq_NuJ, pq_NuR, pq_shr6, pq_shr7, pq_shr8, lqm1, lq0, lq1] at *; (try simp (disch := omega) only [pq_bm] at *); all_goals omega)), (by constructor; (intro z9; focus (simp only [vp_in_iff, Int32.lt_iff_toInt_lt, Int32.le_iff_toInt_le, ← Int32.toInt_inj, Int32.toInt_add, Int32.toInt_sub, Int32.toInt_mul, Int32.toInt_neg, pq_NuO, pq_NuI, pq_NuJ, pq_NuR, pq_shr6, pq_shr7, pq_shr8, lqm1, lq0, lq1] at *; (try simp (disch := omega) only [pq_bm] at *); all_goals omega)); (intro z9; focus (simp only [vp_in_iff, Int32.lt_iff_toInt_lt, Int32.le_iff_toInt_le, ← Int32.toInt_inj, Int32.toInt_add, Int32.toInt_sub, Int32.toInt_mul, Int32.toInt_neg, pq_NuO, pq_NuI, pq_NuJ, pq_NuR, pq_shr6, pq_shr7, pq_shr8, lqm1, lq0, lq1] at *; (try simp (disch := omega) only [pq_bm] at *); all_goals omega)))⟩) dX7_isWanted_70
      · skip
        refine pq_iconst (v := 1) F dX7_isWanted_65 (by decide) ?_
        refine pq_goto (tgt := 70) F dX7_isWanted_66 (by decide) ?_
        exact pq_zret F hr hlk hA rfl (Nat.le_refl _) (Nat.le_refl _) (⟨rfl, _, rfl, (by focus (simp only [vp_in_iff, Int32.lt_iff_toInt_lt, Int32.le_iff_toInt_le, ← Int32.toInt_inj, Int32.toInt_add, Int32.toInt_sub, Int32.toInt_mul, Int32.toInt_neg, pq_NuO, pq_NuI, pq_NuJ, pq_NuR, pq_shr6, pq_shr7, pq_shr8, lqm1, lq0, lq1] at *; (try simp (disch := omega) only [pq_bm] at *); all_goals omega)), (by focus (simp only [vp_in_iff, Int32.lt_iff_toInt_lt, Int32.le_iff_toInt_le, ← Int32.toInt_inj, Int32.toInt_add, Int32.toInt_sub, Int32.toInt_mul, Int32.toInt_neg, pq_NuO, pq_NuI, pq_NuJ, pq_NuR, pq_shr6, pq_shr7, pq_shr8, lqm1, lq0, lq1] at *; (try simp (disch := omega) only [pq_bm] at *); all_goals omega)), (by constructor; (intro z9; focus (simp only [vp_in_iff, Int32.lt_iff_toInt_lt, Int32.le_iff_toInt_le, ← Int32.toInt_inj, Int32.toInt_add, Int32.toInt_sub, Int32.toInt_mul, Int32.toInt_neg, pq_NuO, pq_NuI, pq_NuJ, pq_NuR, pq_shr6, pq_shr7, pq_shr8, lqm1, lq0, lq1] at *; (try simp (disch := omega) only [pq_bm] at *); all_goals omega)); (intro z9; focus (simp only [vp_in_iff, Int32.lt_iff_toInt_lt, Int32.le_iff_toInt_le, ← Int32.toInt_inj, Int32.toInt_add, Int32.toInt_sub, Int32.toInt_mul, Int32.toInt_neg, pq_NuO, pq_NuI, pq_NuJ, pq_NuR, pq_shr6, pq_shr7, pq_shr8, lqm1, lq0, lq1] at *; (try simp (disch := omega) only [pq_bm] at *); all_goals omega)))⟩) dX7_isWanted_70
  by_cases c1_3 : kd.toInt = 3
  · refine pq_tabIn (tgt := 71) F dX7_isWanted_1 (by omega) (by omega) (by rw [c1_3]; rfl) (by decide) ?_
    refine pq_iload_n F dX7_isWanted_71 rfl rfl ?_
    refine pq_if_eq (tgt := 83) F dX7_isWanted_72 (by decide) (fun c72 => ?_) (fun c72 => ?_)
    · skip
      refine pq_iconst (v := 0) F dX7_isWanted_83 (by decide) ?_
      exact pq_zret F hr hlk hA rfl (Nat.le_refl _) (Nat.le_refl _) (⟨rfl, _, rfl, (by focus (simp only [vp_in_iff, Int32.lt_iff_toInt_lt, Int32.le_iff_toInt_le, ← Int32.toInt_inj, Int32.toInt_add, Int32.toInt_sub, Int32.toInt_mul, Int32.toInt_neg, pq_NuO, pq_NuI, pq_NuJ, pq_NuR, pq_shr6, pq_shr7, pq_shr8, lqm1, lq0, lq1] at *; (try simp (disch := omega) only [pq_bm] at *); all_goals omega)), (by focus (simp only [vp_in_iff, Int32.lt_iff_toInt_lt, Int32.le_iff_toInt_le, ← Int32.toInt_inj, Int32.toInt_add, Int32.toInt_sub, Int32.toInt_mul, Int32.toInt_neg, pq_NuO, pq_NuI, pq_NuJ, pq_NuR, pq_shr6, pq_shr7, pq_shr8, lqm1, lq0, lq1] at *; (try simp (disch := omega) only [pq_bm] at *); all_goals omega)), (by constructor; (intro z9; focus (simp only [vp_in_iff, Int32.lt_iff_toInt_lt, Int32.le_iff_toInt_le, ← Int32.toInt_inj, Int32.toInt_add, Int32.toInt_sub, Int32.toInt_mul, Int32.toInt_neg, pq_NuO, pq_NuI, pq_NuJ, pq_NuR, pq_shr6, pq_shr7, pq_shr8, lqm1, lq0, lq1] at *; (try simp (disch := omega) only [pq_bm] at *); all_goals omega)); (intro z9; focus (simp only [vp_in_iff, Int32.lt_iff_toInt_lt, Int32.le_iff_toInt_le, ← Int32.toInt_inj, Int32.toInt_add, Int32.toInt_sub, Int32.toInt_mul, Int32.toInt_neg, pq_NuO, pq_NuI, pq_NuJ, pq_NuR, pq_shr6, pq_shr7, pq_shr8, lqm1, lq0, lq1] at *; (try simp (disch := omega) only [pq_bm] at *); all_goals omega)))⟩) dX7_isWanted_84
    · skip
      refine pq_iload_n F dX7_isWanted_75 rfl rfl ?_
      refine pq_if_eq (tgt := 83) F dX7_isWanted_76 (by decide) (fun c76 => ?_) (fun c76 => ?_)
      · skip
        refine pq_iconst (v := 0) F dX7_isWanted_83 (by decide) ?_
        exact pq_zret F hr hlk hA rfl (Nat.le_refl _) (Nat.le_refl _) (⟨rfl, _, rfl, (by focus (simp only [vp_in_iff, Int32.lt_iff_toInt_lt, Int32.le_iff_toInt_le, ← Int32.toInt_inj, Int32.toInt_add, Int32.toInt_sub, Int32.toInt_mul, Int32.toInt_neg, pq_NuO, pq_NuI, pq_NuJ, pq_NuR, pq_shr6, pq_shr7, pq_shr8, lqm1, lq0, lq1] at *; (try simp (disch := omega) only [pq_bm] at *); all_goals omega)), (by focus (simp only [vp_in_iff, Int32.lt_iff_toInt_lt, Int32.le_iff_toInt_le, ← Int32.toInt_inj, Int32.toInt_add, Int32.toInt_sub, Int32.toInt_mul, Int32.toInt_neg, pq_NuO, pq_NuI, pq_NuJ, pq_NuR, pq_shr6, pq_shr7, pq_shr8, lqm1, lq0, lq1] at *; (try simp (disch := omega) only [pq_bm] at *); all_goals omega)), (by constructor; (intro z9; focus (simp only [vp_in_iff, Int32.lt_iff_toInt_lt, Int32.le_iff_toInt_le, ← Int32.toInt_inj, Int32.toInt_add, Int32.toInt_sub, Int32.toInt_mul, Int32.toInt_neg, pq_NuO, pq_NuI, pq_NuJ, pq_NuR, pq_shr6, pq_shr7, pq_shr8, lqm1, lq0, lq1] at *; (try simp (disch := omega) only [pq_bm] at *); all_goals omega)); (intro z9; focus (simp only [vp_in_iff, Int32.lt_iff_toInt_lt, Int32.le_iff_toInt_le, ← Int32.toInt_inj, Int32.toInt_add, Int32.toInt_sub, Int32.toInt_mul, Int32.toInt_neg, pq_NuO, pq_NuI, pq_NuJ, pq_NuR, pq_shr6, pq_shr7, pq_shr8, lqm1, lq0, lq1] at *; (try simp (disch := omega) only [pq_bm] at *); all_goals omega)))⟩) dX7_isWanted_84
      · skip
        refine pq_iconst (v := 1) F dX7_isWanted_79 (by decide) ?_
        refine pq_goto (tgt := 84) F dX7_isWanted_80 (by decide) ?_
        exact pq_zret F hr hlk hA rfl (Nat.le_refl _) (Nat.le_refl _) (⟨rfl, _, rfl, (by focus (simp only [vp_in_iff, Int32.lt_iff_toInt_lt, Int32.le_iff_toInt_le, ← Int32.toInt_inj, Int32.toInt_add, Int32.toInt_sub, Int32.toInt_mul, Int32.toInt_neg, pq_NuO, pq_NuI, pq_NuJ, pq_NuR, pq_shr6, pq_shr7, pq_shr8, lqm1, lq0, lq1] at *; (try simp (disch := omega) only [pq_bm] at *); all_goals omega)), (by focus (simp only [vp_in_iff, Int32.lt_iff_toInt_lt, Int32.le_iff_toInt_le, ← Int32.toInt_inj, Int32.toInt_add, Int32.toInt_sub, Int32.toInt_mul, Int32.toInt_neg, pq_NuO, pq_NuI, pq_NuJ, pq_NuR, pq_shr6, pq_shr7, pq_shr8, lqm1, lq0, lq1] at *; (try simp (disch := omega) only [pq_bm] at *); all_goals omega)), (by constructor; (intro z9; focus (simp only [vp_in_iff, Int32.lt_iff_toInt_lt, Int32.le_iff_toInt_le, ← Int32.toInt_inj, Int32.toInt_add, Int32.toInt_sub, Int32.toInt_mul, Int32.toInt_neg, pq_NuO, pq_NuI, pq_NuJ, pq_NuR, pq_shr6, pq_shr7, pq_shr8, lqm1, lq0, lq1] at *; (try simp (disch := omega) only [pq_bm] at *); all_goals omega)); (intro z9; focus (simp only [vp_in_iff, Int32.lt_iff_toInt_lt, Int32.le_iff_toInt_le, ← Int32.toInt_inj, Int32.toInt_add, Int32.toInt_sub, Int32.toInt_mul, Int32.toInt_neg, pq_NuO, pq_NuI, pq_NuJ, pq_NuR, pq_shr6, pq_shr7, pq_shr8, lqm1, lq0, lq1] at *; (try simp (disch := omega) only [pq_bm] at *); all_goals omega)))⟩) dX7_isWanted_84
  exact (by exfalso; omega)

