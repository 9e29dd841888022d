theorem tk_i2c {c : Int32} (h0 : 0 ≤ c.toInt) (h1 : c.toInt ≤ 255) : (c.toUInt32 % 65536).toInt32 = c := by
  rw [pk_char]
  apply Int32.toInt_inj.mp
  have hn : c.toBitVec.toNat < 2 ^ 32 := c.toBitVec.isLt
  have e : c.toInt = if 2 * c.toBitVec.toNat < 2 ^ 32 then (c.toBitVec.toNat : Int) else (c.toBitVec.toNat : Int) - (2 ^ 32 : Nat) := BitVec.toInt_eq_toNat_cond c.toBitVec
  by_cases z : 2 * c.toBitVec.toNat < 2 ^ 32
  · rw [if_pos z] at e
    rw [nI_toInt (by omega)]
    omega
  · rw [if_neg z] at e
    omega
theorem tk_sm (i : Nat) (B : List Int) (e : B = (tk_sl i).map Int32.toInt) (c : Int32) : c ∈ tk_sl i ↔ c.toInt ∈ B := by
  rw [e, List.mem_map]
  exact ⟨fun h => ⟨c, h, rfl⟩, fun ⟨d, h, z⟩ => by rw [← Int32.toInt_inj.mp z]; exact h⟩
theorem tk_s0 : ∀ c : Int32, c ∈ tk_sl 0 ↔ c.toInt ∈ tr_e9 := tk_sm 0 tr_e9 (by decide +kernel)
theorem tk_s1 : ∀ c : Int32, c ∈ tk_sl 1 ↔ c.toInt ∈ tr_e3 := tk_sm 1 tr_e3 (by decide +kernel)
theorem tk_s2 : ∀ c : Int32, c ∈ tk_sl 2 ↔ c.toInt ∈ tr_e13 := tk_sm 2 tr_e13 (by decide +kernel)
theorem tk_escn {c : Int32} (h : c.toInt < 0) : tr_esc c = -1 := Classical.byContradiction (fun z => by
  unfold tr_esc at z
  have n1 : c ≠ 110 := fun e => by rw [e] at h; exact absurd h (by decide)
  have n2 : c ≠ 116 := fun e => by rw [e] at h; exact absurd h (by decide)
  have n3 : c ≠ 114 := fun e => by rw [e] at h; exact absurd h (by decide)
  rw [if_neg n1, if_neg n2, if_neg n3] at z
  by_cases w : c.toInt ∈ tr_e13
  · simp only [tr_e13, List.mem_cons, List.not_mem_nil, or_false] at w
    omega
  · rw [if_neg w] at z
    exact z rfl)
/-- how the class sees a byte -/
def tk_sb (y c : Int32) : Prop := y = c ∨ (128 ≤ y.toInt ∧ c.toInt < 0)
theorem tk_bc.sb {T : Nat → Int32} {n k : Nat} {y : Int32} (h : y = tk_bc T n k ∧ (k < n → -128 ≤ (T k).toInt ∧ (T k).toInt ≤ 127)) : tk_sb y (tr_by T n k) := by
  obtain ⟨e, hb⟩ := h
  subst e
  by_cases z : k < n
  · rcases tk_bc.eq (n := n) (hb z).1 (hb z).2 with w | w | w
    · exact Or.inl w
    · exact Or.inr ⟨w.1, w.2.1⟩
    · exact Or.inr w
  · exact Or.inl (by unfold tk_bc tr_by; rw [if_neg z, if_neg z])
theorem tk_sb.lo {y c : Int32} (h : tk_sb y c) (hy : y.toInt < 128) : y = c := h.resolve_right (fun w => by omega)
theorem tk_sb.ne {y c v : Int32} (h : tk_sb y c) (hv : 0 ≤ v.toInt) (hn : y ≠ v) : c ≠ v := fun e => by
  rcases h with w | w
  · exact hn (w.trans e)
  · rw [e] at w; omega

set_option maxHeartbeats 4000000 in
set_option maxRecDepth 100000 in
theorem k_X6_escapedG (l : Launch) (D : va_G) (cy : Nat → ClassId) (S : HS) (c0 : Int32) (hc00 : -1 ≤ c0.toInt) (hc01 : c0.toInt ≤ 255) (cb : Int32) (hcb : tk_sb c0 cb) : pq_C l D cy yX6_escaped cX6_escaped 1 (some .int) 5 0 0 S [.int c0] (fun v S2 => S2 = S ∧ ∃ x : Int32, v = some (.int x) ∧ -1 ≤ x.toInt ∧ x.toInt ≤ 255 ∧ (x = tr_esc cb)) := by
  refine pq_start (by decide) (Nat.le_of_ble_eq_true rfl) ?_
  intro p e s m args below meth c A F hr hlk hnm hA
  have lqm1 : (-1 : Int32).toInt = -1 := rfl
  have lq0 : (0 : Int32).toInt = 0 := rfl
  have lq1 : (1 : Int32).toInt = 1 := rfl
  have lq9 : (9 : Int32).toInt = 9 := rfl
  have lq10 : (10 : Int32).toInt = 10 := rfl
  have lq13 : (13 : Int32).toInt = 13 := rfl
  refine pq_iload_n F dX6_escaped_0 rfl rfl ?_
  by_cases c1_0 : c0 = 110
  · refine pq_look (tgt := 36) (off := 35) F dX6_escaped_1 (by decide) (by rw [c1_0]; rfl) (by decide) ?_
    refine pq_bipush (v := 10) F dX6_escaped_36 (by decide) ?_
    exact pq_iret F hr hlk hA (Nat.le_refl _) (Nat.le_refl _) ((by have e := hcb.lo (by rw [c1_0]; decide); exact ⟨rfl, 10, rfl, (by focus ((try clear hcb); (try clear p53); simp only [vp_in_iff, Int32.lt_iff_toInt_lt, Int32.le_iff_toInt_le, ← Int32.toInt_inj, Int32.toInt_add, Int32.toInt_sub, Int32.toInt_mul, Int32.toInt_neg, pq_NuO, pq_NuI, pq_NuJ, pq_NuR, pq_shr6, pq_shr7, pq_shr8, lqm1, lq0, lq1, lq9, lq10, lq13] at *; (try simp (disch := omega) only [pq_bm] at *); all_goals omega)), (by focus ((try clear hcb); (try clear p53); simp only [vp_in_iff, Int32.lt_iff_toInt_lt, Int32.le_iff_toInt_le, ← Int32.toInt_inj, Int32.toInt_add, Int32.toInt_sub, Int32.toInt_mul, Int32.toInt_neg, pq_NuO, pq_NuI, pq_NuJ, pq_NuR, pq_shr6, pq_shr7, pq_shr8, lqm1, lq0, lq1, lq9, lq10, lq13] at *; (try simp (disch := omega) only [pq_bm] at *); all_goals omega)), (by rw [← e]; exact tk_es (Or.inl ⟨c1_0, rfl⟩))⟩)) dX6_escaped_38
  by_cases c1_1 : c0 = 114
  · refine pq_look (tgt := 42) (off := 41) F dX6_escaped_1 (by decide) (by rw [c1_1]; rfl) (by decide) ?_
    refine pq_bipush (v := 13) F dX6_escaped_42 (by decide) ?_
    exact pq_iret F hr hlk hA (Nat.le_refl _) (Nat.le_refl _) ((by have e := hcb.lo (by rw [c1_1]; decide); exact ⟨rfl, 13, rfl, (by focus ((try clear hcb); (try clear p53); simp only [vp_in_iff, Int32.lt_iff_toInt_lt, Int32.le_iff_toInt_le, ← Int32.toInt_inj, Int32.toInt_add, Int32.toInt_sub, Int32.toInt_mul, Int32.toInt_neg, pq_NuO, pq_NuI, pq_NuJ, pq_NuR, pq_shr6, pq_shr7, pq_shr8, lqm1, lq0, lq1, lq9, lq10, lq13] at *; (try simp (disch := omega) only [pq_bm] at *); all_goals omega)), (by focus ((try clear hcb); (try clear p53); simp only [vp_in_iff, Int32.lt_iff_toInt_lt, Int32.le_iff_toInt_le, ← Int32.toInt_inj, Int32.toInt_add, Int32.toInt_sub, Int32.toInt_mul, Int32.toInt_neg, pq_NuO, pq_NuI, pq_NuJ, pq_NuR, pq_shr6, pq_shr7, pq_shr8, lqm1, lq0, lq1, lq9, lq10, lq13] at *; (try simp (disch := omega) only [pq_bm] at *); all_goals omega)), (by rw [← e]; exact tk_es (Or.inr (Or.inr (Or.inl ⟨c1_0, (by rw [c1_1]; decide), c1_1, rfl⟩))))⟩)) dX6_escaped_44
  by_cases c1_2 : c0 = 116
  · refine pq_look (tgt := 39) (off := 38) F dX6_escaped_1 (by decide) (by rw [c1_2]; rfl) (by decide) ?_
    refine pq_bipush (v := 9) F dX6_escaped_39 (by decide) ?_
    exact pq_iret F hr hlk hA (Nat.le_refl _) (Nat.le_refl _) ((by have e := hcb.lo (by rw [c1_2]; decide); exact ⟨rfl, 9, rfl, (by focus ((try clear hcb); (try clear p53); simp only [vp_in_iff, Int32.lt_iff_toInt_lt, Int32.le_iff_toInt_le, ← Int32.toInt_inj, Int32.toInt_add, Int32.toInt_sub, Int32.toInt_mul, Int32.toInt_neg, pq_NuO, pq_NuI, pq_NuJ, pq_NuR, pq_shr6, pq_shr7, pq_shr8, lqm1, lq0, lq1, lq9, lq10, lq13] at *; (try simp (disch := omega) only [pq_bm] at *); all_goals omega)), (by focus ((try clear hcb); (try clear p53); simp only [vp_in_iff, Int32.lt_iff_toInt_lt, Int32.le_iff_toInt_le, ← Int32.toInt_inj, Int32.toInt_add, Int32.toInt_sub, Int32.toInt_mul, Int32.toInt_neg, pq_NuO, pq_NuI, pq_NuJ, pq_NuR, pq_shr6, pq_shr7, pq_shr8, lqm1, lq0, lq1, lq9, lq10, lq13] at *; (try simp (disch := omega) only [pq_bm] at *); all_goals omega)), (by rw [← e]; exact tk_es (Or.inr (Or.inl ⟨c1_0, c1_2, rfl⟩)))⟩)) dX6_escaped_41
  refine pq_look (tgt := 45) (off := 44) F dX6_escaped_1 (by decide) (by show Op.lookupswitch.offset [(110, 35), (114, 41), (116, 38)] 44 c0.toInt = 44; rw [lv_osw (a := 110) c1_0 rfl, lv_osw (a := 114) c1_1 rfl, lv_osw (a := 116) c1_2 rfl]; rfl) (by decide) ?_
  refine pq_iload_n F dX6_escaped_45 rfl rfl ?_
  refine pq_if_lt (tgt := 63) F dX6_escaped_46 (by decide) (fun c46 => ?_) (fun c46 => ?_)
  · skip
    refine pq_iconst (v := -1) F dX6_escaped_63 (by decide) ?_
    exact pq_iret F hr hlk hA (Nat.le_refl _) (Nat.le_refl _) (⟨rfl, -1, rfl, (by focus ((try clear hcb); (try clear p53); simp only [vp_in_iff, Int32.lt_iff_toInt_lt, Int32.le_iff_toInt_le, ← Int32.toInt_inj, Int32.toInt_add, Int32.toInt_sub, Int32.toInt_mul, Int32.toInt_neg, pq_NuO, pq_NuI, pq_NuJ, pq_NuR, pq_shr6, pq_shr7, pq_shr8, lqm1, lq0, lq1, lq9, lq10, lq13] at *; (try simp (disch := omega) only [pq_bm] at *); all_goals omega)), (by focus ((try clear hcb); (try clear p53); simp only [vp_in_iff, Int32.lt_iff_toInt_lt, Int32.le_iff_toInt_le, ← Int32.toInt_inj, Int32.toInt_add, Int32.toInt_sub, Int32.toInt_mul, Int32.toInt_neg, pq_NuO, pq_NuI, pq_NuJ, pq_NuR, pq_shr6, pq_shr7, pq_shr8, lqm1, lq0, lq1, lq9, lq10, lq13] at *; (try simp (disch := omega) only [pq_bm] at *); all_goals omega)), (tk_escn (by have e := hcb.lo (by focus ((try clear hcb); (try clear p53); simp only [vp_in_iff, Int32.lt_iff_toInt_lt, Int32.le_iff_toInt_le, ← Int32.toInt_inj, Int32.toInt_add, Int32.toInt_sub, Int32.toInt_mul, Int32.toInt_neg, pq_NuO, pq_NuI, pq_NuJ, pq_NuR, pq_shr6, pq_shr7, pq_shr8, lqm1, lq0, lq1, lq9, lq10, lq13] at *; (try simp (disch := omega) only [pq_bm] at *); all_goals omega)); rw [← e]; focus ((try clear hcb); (try clear p53); simp only [vp_in_iff, Int32.lt_iff_toInt_lt, Int32.le_iff_toInt_le, ← Int32.toInt_inj, Int32.toInt_add, Int32.toInt_sub, Int32.toInt_mul, Int32.toInt_neg, pq_NuO, pq_NuI, pq_NuJ, pq_NuR, pq_shr6, pq_shr7, pq_shr8, lqm1, lq0, lq1, lq9, lq10, lq13] at *; (try simp (disch := omega) only [pq_bm] at *); all_goals omega))).symm⟩) dX6_escaped_64
  · skip
    refine pq_ldcS (i := 2) F (by decide) rfl rfl dX6_escaped_49 ?_
    refine pq_iload_n F dX6_escaped_51 rfl rfl ?_
    refine pq_i2c F dX6_escaped_52 ?_
    refine pq_kcallV (As := [_]) F (by decide) (k_J0_indexOf1G l D cy _ _ ?_ _) ml_X6_170 rfl (Nat.le_of_ble_eq_true rfl) ⟨Nat.le_of_ble_eq_true rfl, Nat.le_of_ble_eq_true rfl⟩ ⟨by decide, by decide⟩ dX6_escaped_53 (fun v53 S53 w53 => ?_)
    · exact by decide
    obtain ⟨u53, y53, rfl, p53⟩ := w53
    rw [u53]
    try rw [u53] at p53
    refine pq_if_lt (tgt := 63) F dX6_escaped_56 (by decide) (fun c56 => ?_) (fun c56 => ?_)
    · skip
      refine pq_iconst (v := -1) F dX6_escaped_63 (by decide) ?_
      exact pq_iret F hr hlk hA (Nat.le_refl _) (Nat.le_refl _) (⟨rfl, -1, rfl, (by focus ((try clear hcb); (try clear p53); simp only [vp_in_iff, Int32.lt_iff_toInt_lt, Int32.le_iff_toInt_le, ← Int32.toInt_inj, Int32.toInt_add, Int32.toInt_sub, Int32.toInt_mul, Int32.toInt_neg, pq_NuO, pq_NuI, pq_NuJ, pq_NuR, pq_shr6, pq_shr7, pq_shr8, lqm1, lq0, lq1, lq9, lq10, lq13] at *; (try simp (disch := omega) only [pq_bm] at *); all_goals omega)), (by focus ((try clear hcb); (try clear p53); simp only [vp_in_iff, Int32.lt_iff_toInt_lt, Int32.le_iff_toInt_le, ← Int32.toInt_inj, Int32.toInt_add, Int32.toInt_sub, Int32.toInt_mul, Int32.toInt_neg, pq_NuO, pq_NuI, pq_NuJ, pq_NuR, pq_shr6, pq_shr7, pq_shr8, lqm1, lq0, lq1, lq9, lq10, lq13] at *; (try simp (disch := omega) only [pq_bm] at *); all_goals omega)), (by rcases hcb with e | e; (rw [tk_i2c (by focus ((try clear hcb); (try clear p53); simp only [vp_in_iff, Int32.lt_iff_toInt_lt, Int32.le_iff_toInt_le, ← Int32.toInt_inj, Int32.toInt_add, Int32.toInt_sub, Int32.toInt_mul, Int32.toInt_neg, pq_NuO, pq_NuI, pq_NuJ, pq_NuR, pq_shr6, pq_shr7, pq_shr8, lqm1, lq0, lq1, lq9, lq10, lq13] at *; (try simp (disch := omega) only [pq_bm] at *); all_goals omega)) (by focus ((try clear hcb); (try clear p53); simp only [vp_in_iff, Int32.lt_iff_toInt_lt, Int32.le_iff_toInt_le, ← Int32.toInt_inj, Int32.toInt_add, Int32.toInt_sub, Int32.toInt_mul, Int32.toInt_neg, pq_NuO, pq_NuI, pq_NuJ, pq_NuR, pq_shr6, pq_shr7, pq_shr8, lqm1, lq0, lq1, lq9, lq10, lq13] at *; (try simp (disch := omega) only [pq_bm] at *); all_goals omega))] at p53; rw [← e]; exact tk_es (Or.inr (Or.inr (Or.inr ⟨c1_0, c1_2, c1_1, Or.inr ⟨fun w => (by have v := p53.mpr ((tk_s2 _).mpr w); focus ((try clear hcb); (try clear p53); simp only [vp_in_iff, Int32.lt_iff_toInt_lt, Int32.le_iff_toInt_le, ← Int32.toInt_inj, Int32.toInt_add, Int32.toInt_sub, Int32.toInt_mul, Int32.toInt_neg, pq_NuO, pq_NuI, pq_NuJ, pq_NuR, pq_shr6, pq_shr7, pq_shr8, lqm1, lq0, lq1, lq9, lq10, lq13] at *; (try simp (disch := omega) only [pq_bm] at *); all_goals omega)), rfl⟩⟩)))); exact (tk_escn e.2).symm)⟩) dX6_escaped_64
    · skip
      refine pq_iload_n F dX6_escaped_59 rfl rfl ?_
      refine pq_goto (tgt := 64) F dX6_escaped_60 (by decide) ?_
      exact pq_iret F hr hlk hA (Nat.le_refl _) (Nat.le_refl _) ((by rw [tk_i2c (by focus ((try clear hcb); (try clear p53); simp only [vp_in_iff, Int32.lt_iff_toInt_lt, Int32.le_iff_toInt_le, ← Int32.toInt_inj, Int32.toInt_add, Int32.toInt_sub, Int32.toInt_mul, Int32.toInt_neg, pq_NuO, pq_NuI, pq_NuJ, pq_NuR, pq_shr6, pq_shr7, pq_shr8, lqm1, lq0, lq1, lq9, lq10, lq13] at *; (try simp (disch := omega) only [pq_bm] at *); all_goals omega)) (by focus ((try clear hcb); (try clear p53); simp only [vp_in_iff, Int32.lt_iff_toInt_lt, Int32.le_iff_toInt_le, ← Int32.toInt_inj, Int32.toInt_add, Int32.toInt_sub, Int32.toInt_mul, Int32.toInt_neg, pq_NuO, pq_NuI, pq_NuJ, pq_NuR, pq_shr6, pq_shr7, pq_shr8, lqm1, lq0, lq1, lq9, lq10, lq13] at *; (try simp (disch := omega) only [pq_bm] at *); all_goals omega))] at p53; have hm := p53.mp (by focus ((try clear hcb); (try clear p53); simp only [vp_in_iff, Int32.lt_iff_toInt_lt, Int32.le_iff_toInt_le, ← Int32.toInt_inj, Int32.toInt_add, Int32.toInt_sub, Int32.toInt_mul, Int32.toInt_neg, pq_NuO, pq_NuI, pq_NuJ, pq_NuR, pq_shr6, pq_shr7, pq_shr8, lqm1, lq0, lq1, lq9, lq10, lq13] at *; (try simp (disch := omega) only [pq_bm] at *); all_goals omega)); have e := hcb.lo (by have w := (tk_sla 2 (by decide) _ hm).2; exact w); exact ⟨rfl, c0, rfl, (by focus ((try clear hcb); (try clear p53); simp only [vp_in_iff, Int32.lt_iff_toInt_lt, Int32.le_iff_toInt_le, ← Int32.toInt_inj, Int32.toInt_add, Int32.toInt_sub, Int32.toInt_mul, Int32.toInt_neg, pq_NuO, pq_NuI, pq_NuJ, pq_NuR, pq_shr6, pq_shr7, pq_shr8, lqm1, lq0, lq1, lq9, lq10, lq13] at *; (try simp (disch := omega) only [pq_bm] at *); all_goals omega)), (by focus ((try clear hcb); (try clear p53); simp only [vp_in_iff, Int32.lt_iff_toInt_lt, Int32.le_iff_toInt_le, ← Int32.toInt_inj, Int32.toInt_add, Int32.toInt_sub, Int32.toInt_mul, Int32.toInt_neg, pq_NuO, pq_NuI, pq_NuJ, pq_NuR, pq_shr6, pq_shr7, pq_shr8, lqm1, lq0, lq1, lq9, lq10, lq13] at *; (try simp (disch := omega) only [pq_bm] at *); all_goals omega)), (by rw [← e]; exact tk_es (Or.inr (Or.inr (Or.inr ⟨c1_0, c1_2, c1_1, Or.inl ⟨(tk_s2 _).mp hm, rfl⟩⟩))))⟩)) dX6_escaped_64

set_option maxHeartbeats 4000000 in
set_option maxRecDepth 100000 in
theorem k_X6_readSymbolG (l : Launch) (D : va_G) (cy : Nat → ClassId) (S : HS) (a : Nat) (ha : pq_R S a 9) (ks : Nat) (hks : ks < 6) (ch sq tp : Nat) (dp at1 br t : Int32) (hB : pq_Rd S a ch sq tp dp at1 br t dp.toInt) (tb n k : Nat) (g0 : hO S tp 0 = .ref tb) (hgb : pq_R S tb 104) (hn : t.toInt = (n : Int)) (hk : at1.toInt = (k : Int)) (hkn : k ≤ n) (Bs : List Int) (hBs : ∀ c : Int32, c ∈ tk_sl ks ↔ c.toInt ∈ Bs) : pq_C l D cy yX6_readSymbol cX6_readSymbol 3 (some .int) 6 0 0 S [.ref a, .ref (cy (10 + ks))] (fun v S2 => pq_Fr [(9, 5), (9, 7)] S S2 ∧ ∃ x : Int32, v = some (.int x) ∧ -1 ≤ x.toInt ∧ x.toInt ≤ 255 ∧ (∃ (at2 br2 : Int32) (k2 : Nat), pq_Rd S2 a ch sq tp dp at2 br2 t dp.toInt ∧ at2.toInt = (k2 : Int) ∧ k2 ≤ n ∧ tr_sy (hI S tb) n Bs k = (x, k2) ∧ ((x = -1 ∧ br2 = at2) ∨ (¬ x = -1 ∧ br2 = br)))) := by
  refine pq_start (by decide) (Nat.le_of_ble_eq_true rfl) ?_
  intro p e s m args below meth c A F hr hlk hnm hA
  have lqm1 : (-1 : Int32).toInt = -1 := rfl
  have lq0 : (0 : Int32).toInt = 0 := rfl
  have lq1 : (1 : Int32).toInt = 1 := rfl
  have lq32 : (32 : Int32).toInt = 32 := rfl
  have lq92 : (92 : Int32).toInt = 92 := rfl
  have lq126 : (126 : Int32).toInt = 126 := rfl
  obtain ⟨hd0, hd1, ha0, ha1, ht0, ht1⟩ := hB.b
  refine pq_aload_n F dX6_readSymbol_0 rfl rfl ?_
  refine pq_get F ha (by decide) lk_X6_25 hB.e0 dX6_readSymbol_1 ?_
  refine pq_aload_n F dX6_readSymbol_4 rfl rfl ?_
  refine pq_get F ha (by decide) lk_X6_38 hB.e5 dX6_readSymbol_5 ?_
  refine pq_callV (As := [_]) F (k_X9_byteAtG l D cy _ _ ?_ _ tb n k t g0 hgb hB.et hn ?_ ?_) ml_X6_79 hB.h0 (by decide) rfl (Nat.le_of_ble_eq_true rfl) ⟨Nat.le_of_ble_eq_true rfl, Nat.le_of_ble_eq_true rfl⟩ ⟨by decide, by decide⟩ dX6_readSymbol_8 (fun v8 S8 w8 => ?_)
  · exact hB.h0
  · focus ((try clear p8); (try clear p36); (try clear p39); (try clear p61); (try clear hB); (try clear hBs); (try clear hb8); (try clear hb36); (try clear hx39); (try clear hkl); simp only [vp_in_iff, Int32.lt_iff_toInt_lt, Int32.le_iff_toInt_le, ← Int32.toInt_inj, Int32.toInt_add, Int32.toInt_sub, Int32.toInt_mul, Int32.toInt_neg, pq_NuO, pq_NuI, pq_NuJ, pq_NuR, pq_shr6, pq_shr7, pq_shr8, lqm1, lq0, lq1, lq32, lq92, lq126] at *; (try simp (disch := omega) only [pq_bm] at *); all_goals omega)
  · focus ((try clear p8); (try clear p36); (try clear p39); (try clear p61); (try clear hB); (try clear hBs); (try clear hb8); (try clear hb36); (try clear hx39); (try clear hkl); simp only [vp_in_iff, Int32.lt_iff_toInt_lt, Int32.le_iff_toInt_le, ← Int32.toInt_inj, Int32.toInt_add, Int32.toInt_sub, Int32.toInt_mul, Int32.toInt_neg, pq_NuO, pq_NuI, pq_NuJ, pq_NuR, pq_shr6, pq_shr7, pq_shr8, lqm1, lq0, lq1, lq32, lq92, lq126] at *; (try simp (disch := omega) only [pq_bm] at *); all_goals omega)
  obtain ⟨u8, y8, rfl, yl8_0, yl8_1, p8⟩ := w8
  rw [u8]
  try rw [u8] at p8
  have hb8 := tk_bc.sb p8
  refine pq_istore_n F dX6_readSymbol_11 rfl (by decide) ?_
  refine pq_iload_n F dX6_readSymbol_12 rfl rfl ?_
  refine pq_bipush (v := 92) F dX6_readSymbol_13 (by decide) ?_
  refine pq_icmp_ne (tgt := 46) F dX6_readSymbol_15 (by decide) (fun c15 => ?_) (fun c15 => ?_)
  · skip
    refine pq_iload_n F dX6_readSymbol_46 rfl rfl ?_
    refine pq_bipush (v := 32) F dX6_readSymbol_47 (by decide) ?_
    refine pq_icmp_lt (tgt := 67) F dX6_readSymbol_49 (by decide) (fun c49 => ?_) (fun c49 => ?_)
    · skip
      refine pq_iconst (v := -1) F dX6_readSymbol_67 (by decide) ?_
      refine pq_istore_n F dX6_readSymbol_68 rfl (by decide) ?_
      refine pq_iload_n F dX6_readSymbol_69 rfl rfl ?_
      refine pq_if_ge (tgt := 84) F dX6_readSymbol_70 (by decide) (fun c70 => ?_) (fun c70 => ?_)
      · exact absurd c70 (by decide)
      · skip
        refine pq_aload_n F dX6_readSymbol_73 rfl rfl ?_
        refine pq_aload_n F dX6_readSymbol_74 rfl rfl ?_
        refine pq_get F ha (by decide) lk_X6_38 hB.e5 dX6_readSymbol_75 ?_
        refine pq_putI F ha (by decide) lp_X6_42 rfl (pq_any1 _) (pq_any2 _) dX6_readSymbol_78 ?_
        refine pq_goto (tgt := 94) F dX6_readSymbol_81 (by decide) ?_
        refine pq_iload_n F dX6_readSymbol_94 rfl rfl ?_
        exact pq_iret F hr hlk hA (Nat.le_refl _) (Nat.le_refl _) (⟨(pq_Fr.rf.uO ha (by decide)), _, rfl, (by focus ((try clear p8); (try clear p36); (try clear p39); (try clear p61); (try clear hB); (try clear hBs); (try clear hb8); (try clear hb36); (try clear hx39); (try clear hkl); simp only [vp_in_iff, Int32.lt_iff_toInt_lt, Int32.le_iff_toInt_le, ← Int32.toInt_inj, Int32.toInt_add, Int32.toInt_sub, Int32.toInt_mul, Int32.toInt_neg, pq_NuO, pq_NuI, pq_NuJ, pq_NuR, pq_shr6, pq_shr7, pq_shr8, lqm1, lq0, lq1, lq32, lq92, lq126] at *; (try simp (disch := omega) only [pq_bm] at *); all_goals omega)), (by focus ((try clear p8); (try clear p36); (try clear p39); (try clear p61); (try clear hB); (try clear hBs); (try clear hb8); (try clear hb36); (try clear hx39); (try clear hkl); simp only [vp_in_iff, Int32.lt_iff_toInt_lt, Int32.le_iff_toInt_le, ← Int32.toInt_inj, Int32.toInt_add, Int32.toInt_sub, Int32.toInt_mul, Int32.toInt_neg, pq_NuO, pq_NuI, pq_NuJ, pq_NuR, pq_shr6, pq_shr7, pq_shr8, lqm1, lq0, lq1, lq32, lq92, lq126] at *; (try simp (disch := omega) only [pq_bm] at *); all_goals omega)), _, _, k, hB.p7, hk, hkn, tk_sy3 (hb8.ne (by decide) c15) (Or.inl (by have e := hb8.lo (by focus ((try clear p8); (try clear p36); (try clear p39); (try clear p61); (try clear hB); (try clear hBs); (try clear hb8); (try clear hb36); (try clear hx39); (try clear hkl); simp only [vp_in_iff, Int32.lt_iff_toInt_lt, Int32.le_iff_toInt_le, ← Int32.toInt_inj, Int32.toInt_add, Int32.toInt_sub, Int32.toInt_mul, Int32.toInt_neg, pq_NuO, pq_NuI, pq_NuJ, pq_NuR, pq_shr6, pq_shr7, pq_shr8, lqm1, lq0, lq1, lq32, lq92, lq126] at *; (try simp (disch := omega) only [pq_bm] at *); all_goals omega)); rw [← e]; focus ((try clear p8); (try clear p36); (try clear p39); (try clear p61); (try clear hB); (try clear hBs); (try clear hb8); (try clear hb36); (try clear hx39); (try clear hkl); simp only [vp_in_iff, Int32.lt_iff_toInt_lt, Int32.le_iff_toInt_le, ← Int32.toInt_inj, Int32.toInt_add, Int32.toInt_sub, Int32.toInt_mul, Int32.toInt_neg, pq_NuO, pq_NuI, pq_NuJ, pq_NuR, pq_shr6, pq_shr7, pq_shr8, lqm1, lq0, lq1, lq32, lq92, lq126] at *; (try simp (disch := omega) only [pq_bm] at *); all_goals omega))), Or.inl ⟨rfl, rfl⟩⟩) dX6_readSymbol_95
    · skip
      refine pq_iload_n F dX6_readSymbol_52 rfl rfl ?_
      refine pq_bipush (v := 126) F dX6_readSymbol_53 (by decide) ?_
      refine pq_icmp_gt (tgt := 67) F dX6_readSymbol_55 (by decide) (fun c55 => ?_) (fun c55 => ?_)
      · skip
        refine pq_iconst (v := -1) F dX6_readSymbol_67 (by decide) ?_
        refine pq_istore_n F dX6_readSymbol_68 rfl (by decide) ?_
        refine pq_iload_n F dX6_readSymbol_69 rfl rfl ?_
        refine pq_if_ge (tgt := 84) F dX6_readSymbol_70 (by decide) (fun c70 => ?_) (fun c70 => ?_)
        · exact absurd c70 (by decide)
        · skip
          refine pq_aload_n F dX6_readSymbol_73 rfl rfl ?_
          refine pq_aload_n F dX6_readSymbol_74 rfl rfl ?_
          refine pq_get F ha (by decide) lk_X6_38 hB.e5 dX6_readSymbol_75 ?_
          refine pq_putI F ha (by decide) lp_X6_42 rfl (pq_any1 _) (pq_any2 _) dX6_readSymbol_78 ?_
          refine pq_goto (tgt := 94) F dX6_readSymbol_81 (by decide) ?_
          refine pq_iload_n F dX6_readSymbol_94 rfl rfl ?_
          exact pq_iret F hr hlk hA (Nat.le_refl _) (Nat.le_refl _) (⟨(pq_Fr.rf.uO ha (by decide)), _, rfl, (by focus ((try clear p8); (try clear p36); (try clear p39); (try clear p61); (try clear hB); (try clear hBs); (try clear hb8); (try clear hb36); (try clear hx39); (try clear hkl); simp only [vp_in_iff, Int32.lt_iff_toInt_lt, Int32.le_iff_toInt_le, ← Int32.toInt_inj, Int32.toInt_add, Int32.toInt_sub, Int32.toInt_mul, Int32.toInt_neg, pq_NuO, pq_NuI, pq_NuJ, pq_NuR, pq_shr6, pq_shr7, pq_shr8, lqm1, lq0, lq1, lq32, lq92, lq126] at *; (try simp (disch := omega) only [pq_bm] at *); all_goals omega)), (by focus ((try clear p8); (try clear p36); (try clear p39); (try clear p61); (try clear hB); (try clear hBs); (try clear hb8); (try clear hb36); (try clear hx39); (try clear hkl); simp only [vp_in_iff, Int32.lt_iff_toInt_lt, Int32.le_iff_toInt_le, ← Int32.toInt_inj, Int32.toInt_add, Int32.toInt_sub, Int32.toInt_mul, Int32.toInt_neg, pq_NuO, pq_NuI, pq_NuJ, pq_NuR, pq_shr6, pq_shr7, pq_shr8, lqm1, lq0, lq1, lq32, lq92, lq126] at *; (try simp (disch := omega) only [pq_bm] at *); all_goals omega)), _, _, k, hB.p7, hk, hkn, tk_sy3 (hb8.ne (by decide) c15) (by rcases hb8 with e | e; exact Or.inr (Or.inl (by rw [← e]; focus ((try clear p8); (try clear p36); (try clear p39); (try clear p61); (try clear hB); (try clear hBs); (try clear hb8); (try clear hb36); (try clear hx39); (try clear hkl); simp only [vp_in_iff, Int32.lt_iff_toInt_lt, Int32.le_iff_toInt_le, ← Int32.toInt_inj, Int32.toInt_add, Int32.toInt_sub, Int32.toInt_mul, Int32.toInt_neg, pq_NuO, pq_NuI, pq_NuJ, pq_NuR, pq_shr6, pq_shr7, pq_shr8, lqm1, lq0, lq1, lq32, lq92, lq126] at *; (try simp (disch := omega) only [pq_bm] at *); all_goals omega))); exact Or.inl (by have := e.2; omega)), Or.inl ⟨rfl, rfl⟩⟩) dX6_readSymbol_95
      · skip
        refine pq_aload_n F dX6_readSymbol_58 rfl rfl ?_
        refine pq_iload_n F dX6_readSymbol_59 rfl rfl ?_
        refine pq_i2c F dX6_readSymbol_60 ?_
        refine pq_kcallV (As := [_]) F hks (k_J0_indexOf1G l D cy _ _ ?_ _) ml_X6_170 rfl (Nat.le_of_ble_eq_true rfl) ⟨Nat.le_of_ble_eq_true rfl, Nat.le_of_ble_eq_true rfl⟩ ⟨by decide, by decide⟩ dX6_readSymbol_61 (fun v61 S61 w61 => ?_)
        · exact hks
        obtain ⟨u61, y61, rfl, p61⟩ := w61
        rw [u61]
        try rw [u61] at p61
        refine pq_if_lt (tgt := 69) F dX6_readSymbol_64 (by decide) (fun c64 => ?_) (fun c64 => ?_)
        · skip
          refine pq_iload_n F dX6_readSymbol_69 rfl rfl ?_
          refine pq_if_ge (tgt := 84) F dX6_readSymbol_70 (by decide) (fun c70 => ?_) (fun c70 => ?_)
          · skip
            refine pq_aload_n F dX6_readSymbol_84 rfl rfl ?_
            refine pq_dup F dX6_readSymbol_85 rfl ?_
            refine pq_get F ha (by decide) lk_X6_38 hB.e5 dX6_readSymbol_86 ?_
            refine pq_iconst (v := 1) F dX6_readSymbol_89 (by decide) ?_
            refine pq_iadd F dX6_readSymbol_90 ?_
            refine pq_putI F ha (by decide) lp_X6_38 rfl (pq_any1 _) (pq_any2 _) dX6_readSymbol_91 ?_
            refine pq_iload_n F dX6_readSymbol_94 rfl rfl ?_
            exact pq_iret F hr hlk hA (Nat.le_refl _) (Nat.le_refl _) ((by have e := hb8.lo (by focus ((try clear p8); (try clear p36); (try clear p39); (try clear p61); (try clear hB); (try clear hBs); (try clear hb8); (try clear hb36); (try clear hx39); (try clear hkl); simp only [vp_in_iff, Int32.lt_iff_toInt_lt, Int32.le_iff_toInt_le, ← Int32.toInt_inj, Int32.toInt_add, Int32.toInt_sub, Int32.toInt_mul, Int32.toInt_neg, pq_NuO, pq_NuI, pq_NuJ, pq_NuR, pq_shr6, pq_shr7, pq_shr8, lqm1, lq0, lq1, lq32, lq92, lq126] at *; (try simp (disch := omega) only [pq_bm] at *); all_goals omega)); rw [tk_i2c (by focus ((try clear p8); (try clear p36); (try clear p39); (try clear p61); (try clear hB); (try clear hBs); (try clear hb8); (try clear hb36); (try clear hx39); (try clear hkl); simp only [vp_in_iff, Int32.lt_iff_toInt_lt, Int32.le_iff_toInt_le, ← Int32.toInt_inj, Int32.toInt_add, Int32.toInt_sub, Int32.toInt_mul, Int32.toInt_neg, pq_NuO, pq_NuI, pq_NuJ, pq_NuR, pq_shr6, pq_shr7, pq_shr8, lqm1, lq0, lq1, lq32, lq92, lq126] at *; (try simp (disch := omega) only [pq_bm] at *); all_goals omega)) (by focus ((try clear p8); (try clear p36); (try clear p39); (try clear p61); (try clear hB); (try clear hBs); (try clear hb8); (try clear hb36); (try clear hx39); (try clear hkl); simp only [vp_in_iff, Int32.lt_iff_toInt_lt, Int32.le_iff_toInt_le, ← Int32.toInt_inj, Int32.toInt_add, Int32.toInt_sub, Int32.toInt_mul, Int32.toInt_neg, pq_NuO, pq_NuI, pq_NuJ, pq_NuR, pq_shr6, pq_shr7, pq_shr8, lqm1, lq0, lq1, lq32, lq92, lq126] at *; (try simp (disch := omega) only [pq_bm] at *); all_goals omega))] at p61; have hkl : k < n := tr_by.lt (T := hI S tb) (fun w => c49 (by rw [e, w]; decide)); exact ⟨(pq_Fr.rf.uO ha (by decide)), _, rfl, (by focus ((try clear p8); (try clear p36); (try clear p39); (try clear p61); (try clear hB); (try clear hBs); (try clear hb8); (try clear hb36); (try clear hx39); (try clear hkl); simp only [vp_in_iff, Int32.lt_iff_toInt_lt, Int32.le_iff_toInt_le, ← Int32.toInt_inj, Int32.toInt_add, Int32.toInt_sub, Int32.toInt_mul, Int32.toInt_neg, pq_NuO, pq_NuI, pq_NuJ, pq_NuR, pq_shr6, pq_shr7, pq_shr8, lqm1, lq0, lq1, lq32, lq92, lq126] at *; (try simp (disch := omega) only [pq_bm] at *); all_goals omega)), (by focus ((try clear p8); (try clear p36); (try clear p39); (try clear p61); (try clear hB); (try clear hBs); (try clear hb8); (try clear hb36); (try clear hx39); (try clear hkl); simp only [vp_in_iff, Int32.lt_iff_toInt_lt, Int32.le_iff_toInt_le, ← Int32.toInt_inj, Int32.toInt_add, Int32.toInt_sub, Int32.toInt_mul, Int32.toInt_neg, pq_NuO, pq_NuI, pq_NuJ, pq_NuR, pq_shr6, pq_shr7, pq_shr8, lqm1, lq0, lq1, lq32, lq92, lq126] at *; (try simp (disch := omega) only [pq_bm] at *); all_goals omega)), _, br, k + 1, hB.p5 (by focus ((try clear p8); (try clear p36); (try clear p39); (try clear p61); (try clear hB); (try clear hBs); (try clear hb8); (try clear hb36); (try clear hx39); (try clear hkl); simp only [vp_in_iff, Int32.lt_iff_toInt_lt, Int32.le_iff_toInt_le, ← Int32.toInt_inj, Int32.toInt_add, Int32.toInt_sub, Int32.toInt_mul, Int32.toInt_neg, pq_NuO, pq_NuI, pq_NuJ, pq_NuR, pq_shr6, pq_shr7, pq_shr8, lqm1, lq0, lq1, lq32, lq92, lq126] at *; (try simp (disch := omega) only [pq_bm] at *); all_goals omega)) (by focus ((try clear p8); (try clear p36); (try clear p39); (try clear p61); (try clear hB); (try clear hBs); (try clear hb8); (try clear hb36); (try clear hx39); (try clear hkl); simp only [vp_in_iff, Int32.lt_iff_toInt_lt, Int32.le_iff_toInt_le, ← Int32.toInt_inj, Int32.toInt_add, Int32.toInt_sub, Int32.toInt_mul, Int32.toInt_neg, pq_NuO, pq_NuI, pq_NuJ, pq_NuR, pq_shr6, pq_shr7, pq_shr8, lqm1, lq0, lq1, lq32, lq92, lq126] at *; (try simp (disch := omega) only [pq_bm] at *); all_goals omega)), (by focus ((try clear p8); (try clear p36); (try clear p39); (try clear p61); (try clear hB); (try clear hBs); (try clear hb8); (try clear hb36); (try clear hx39); (try clear hkl); simp only [vp_in_iff, Int32.lt_iff_toInt_lt, Int32.le_iff_toInt_le, ← Int32.toInt_inj, Int32.toInt_add, Int32.toInt_sub, Int32.toInt_mul, Int32.toInt_neg, pq_NuO, pq_NuI, pq_NuJ, pq_NuR, pq_shr6, pq_shr7, pq_shr8, lqm1, lq0, lq1, lq32, lq92, lq126] at *; (try simp (disch := omega) only [pq_bm] at *); all_goals omega)), hkl, (by rw [e]; exact tk_sy4 (hb8.ne (by decide) c15) (by rw [← e]; focus ((try clear p8); (try clear p36); (try clear p39); (try clear p61); (try clear hB); (try clear hBs); (try clear hb8); (try clear hb36); (try clear hx39); (try clear hkl); simp only [vp_in_iff, Int32.lt_iff_toInt_lt, Int32.le_iff_toInt_le, ← Int32.toInt_inj, Int32.toInt_add, Int32.toInt_sub, Int32.toInt_mul, Int32.toInt_neg, pq_NuO, pq_NuI, pq_NuJ, pq_NuR, pq_shr6, pq_shr7, pq_shr8, lqm1, lq0, lq1, lq32, lq92, lq126] at *; (try simp (disch := omega) only [pq_bm] at *); all_goals omega)) (by rw [← e]; focus ((try clear p8); (try clear p36); (try clear p39); (try clear p61); (try clear hB); (try clear hBs); (try clear hb8); (try clear hb36); (try clear hx39); (try clear hkl); simp only [vp_in_iff, Int32.lt_iff_toInt_lt, Int32.le_iff_toInt_le, ← Int32.toInt_inj, Int32.toInt_add, Int32.toInt_sub, Int32.toInt_mul, Int32.toInt_neg, pq_NuO, pq_NuI, pq_NuJ, pq_NuR, pq_shr6, pq_shr7, pq_shr8, lqm1, lq0, lq1, lq32, lq92, lq126] at *; (try simp (disch := omega) only [pq_bm] at *); all_goals omega)) (fun w => (by rw [← e] at w; have v := p61.mpr ((hBs _).mpr w); focus ((try clear p8); (try clear p36); (try clear p39); (try clear p61); (try clear hB); (try clear hBs); (try clear hb8); (try clear hb36); (try clear hx39); (try clear hkl); simp only [vp_in_iff, Int32.lt_iff_toInt_lt, Int32.le_iff_toInt_le, ← Int32.toInt_inj, Int32.toInt_add, Int32.toInt_sub, Int32.toInt_mul, Int32.toInt_neg, pq_NuO, pq_NuI, pq_NuJ, pq_NuR, pq_shr6, pq_shr7, pq_shr8, lqm1, lq0, lq1, lq32, lq92, lq126] at *; (try simp (disch := omega) only [pq_bm] at *); all_goals omega)))), Or.inr ⟨fun w => c49 (by rw [w]; decide), rfl⟩⟩)) dX6_readSymbol_95
          · exact absurd c70 (fun z => (by focus ((try clear p8); (try clear p36); (try clear p39); (try clear p61); (try clear hB); (try clear hBs); (try clear hb8); (try clear hb36); (try clear hx39); (try clear hkl); simp only [vp_in_iff, Int32.lt_iff_toInt_lt, Int32.le_iff_toInt_le, ← Int32.toInt_inj, Int32.toInt_add, Int32.toInt_sub, Int32.toInt_mul, Int32.toInt_neg, pq_NuO, pq_NuI, pq_NuJ, pq_NuR, pq_shr6, pq_shr7, pq_shr8, lqm1, lq0, lq1, lq32, lq92, lq126] at *; (try simp (disch := omega) only [pq_bm] at *); all_goals omega)))
        · skip
          refine pq_iconst (v := -1) F dX6_readSymbol_67 (by decide) ?_
          refine pq_istore_n F dX6_readSymbol_68 rfl (by decide) ?_
          refine pq_iload_n F dX6_readSymbol_69 rfl rfl ?_
          refine pq_if_ge (tgt := 84) F dX6_readSymbol_70 (by decide) (fun c70 => ?_) (fun c70 => ?_)
          · exact absurd c70 (by decide)
          · skip
            refine pq_aload_n F dX6_readSymbol_73 rfl rfl ?_
            refine pq_aload_n F dX6_readSymbol_74 rfl rfl ?_
            refine pq_get F ha (by decide) lk_X6_38 hB.e5 dX6_readSymbol_75 ?_
            refine pq_putI F ha (by decide) lp_X6_42 rfl (pq_any1 _) (pq_any2 _) dX6_readSymbol_78 ?_
            refine pq_goto (tgt := 94) F dX6_readSymbol_81 (by decide) ?_
            refine pq_iload_n F dX6_readSymbol_94 rfl rfl ?_
            exact pq_iret F hr hlk hA (Nat.le_refl _) (Nat.le_refl _) ((by have e := hb8.lo (by focus ((try clear p8); (try clear p36); (try clear p39); (try clear p61); (try clear hB); (try clear hBs); (try clear hb8); (try clear hb36); (try clear hx39); (try clear hkl); simp only [vp_in_iff, Int32.lt_iff_toInt_lt, Int32.le_iff_toInt_le, ← Int32.toInt_inj, Int32.toInt_add, Int32.toInt_sub, Int32.toInt_mul, Int32.toInt_neg, pq_NuO, pq_NuI, pq_NuJ, pq_NuR, pq_shr6, pq_shr7, pq_shr8, lqm1, lq0, lq1, lq32, lq92, lq126] at *; (try simp (disch := omega) only [pq_bm] at *); all_goals omega)); rw [tk_i2c (by focus ((try clear p8); (try clear p36); (try clear p39); (try clear p61); (try clear hB); (try clear hBs); (try clear hb8); (try clear hb36); (try clear hx39); (try clear hkl); simp only [vp_in_iff, Int32.lt_iff_toInt_lt, Int32.le_iff_toInt_le, ← Int32.toInt_inj, Int32.toInt_add, Int32.toInt_sub, Int32.toInt_mul, Int32.toInt_neg, pq_NuO, pq_NuI, pq_NuJ, pq_NuR, pq_shr6, pq_shr7, pq_shr8, lqm1, lq0, lq1, lq32, lq92, lq126] at *; (try simp (disch := omega) only [pq_bm] at *); all_goals omega)) (by focus ((try clear p8); (try clear p36); (try clear p39); (try clear p61); (try clear hB); (try clear hBs); (try clear hb8); (try clear hb36); (try clear hx39); (try clear hkl); simp only [vp_in_iff, Int32.lt_iff_toInt_lt, Int32.le_iff_toInt_le, ← Int32.toInt_inj, Int32.toInt_add, Int32.toInt_sub, Int32.toInt_mul, Int32.toInt_neg, pq_NuO, pq_NuI, pq_NuJ, pq_NuR, pq_shr6, pq_shr7, pq_shr8, lqm1, lq0, lq1, lq32, lq92, lq126] at *; (try simp (disch := omega) only [pq_bm] at *); all_goals omega))] at p61; exact ⟨(pq_Fr.rf.uO ha (by decide)), _, rfl, (by focus ((try clear p8); (try clear p36); (try clear p39); (try clear p61); (try clear hB); (try clear hBs); (try clear hb8); (try clear hb36); (try clear hx39); (try clear hkl); simp only [vp_in_iff, Int32.lt_iff_toInt_lt, Int32.le_iff_toInt_le, ← Int32.toInt_inj, Int32.toInt_add, Int32.toInt_sub, Int32.toInt_mul, Int32.toInt_neg, pq_NuO, pq_NuI, pq_NuJ, pq_NuR, pq_shr6, pq_shr7, pq_shr8, lqm1, lq0, lq1, lq32, lq92, lq126] at *; (try simp (disch := omega) only [pq_bm] at *); all_goals omega)), (by focus ((try clear p8); (try clear p36); (try clear p39); (try clear p61); (try clear hB); (try clear hBs); (try clear hb8); (try clear hb36); (try clear hx39); (try clear hkl); simp only [vp_in_iff, Int32.lt_iff_toInt_lt, Int32.le_iff_toInt_le, ← Int32.toInt_inj, Int32.toInt_add, Int32.toInt_sub, Int32.toInt_mul, Int32.toInt_neg, pq_NuO, pq_NuI, pq_NuJ, pq_NuR, pq_shr6, pq_shr7, pq_shr8, lqm1, lq0, lq1, lq32, lq92, lq126] at *; (try simp (disch := omega) only [pq_bm] at *); all_goals omega)), _, _, k, hB.p7, hk, hkn, tk_sy3 (hb8.ne (by decide) c15) (Or.inr (Or.inr (by rw [← e]; exact (hBs _).mp (p61.mp (by focus ((try clear p8); (try clear p36); (try clear p39); (try clear p61); (try clear hB); (try clear hBs); (try clear hb8); (try clear hb36); (try clear hx39); (try clear hkl); simp only [vp_in_iff, Int32.lt_iff_toInt_lt, Int32.le_iff_toInt_le, ← Int32.toInt_inj, Int32.toInt_add, Int32.toInt_sub, Int32.toInt_mul, Int32.toInt_neg, pq_NuO, pq_NuI, pq_NuJ, pq_NuR, pq_shr6, pq_shr7, pq_shr8, lqm1, lq0, lq1, lq32, lq92, lq126] at *; (try simp (disch := omega) only [pq_bm] at *); all_goals omega)))))), Or.inl ⟨rfl, rfl⟩⟩)) dX6_readSymbol_95
  · skip
    have hb8e := hb8.lo (by rw [c15]; decide)
    have hlt : k < n := tr_by.lt (T := hI S tb) (by rw [← hb8e, c15]; decide)
    refine pq_aload_n F dX6_readSymbol_18 rfl rfl ?_
    refine pq_dup F dX6_readSymbol_19 rfl ?_
    refine pq_get F ha (by decide) lk_X6_38 hB.e5 dX6_readSymbol_20 ?_
    refine pq_iconst (v := 1) F dX6_readSymbol_23 (by decide) ?_
    refine pq_iadd F dX6_readSymbol_24 ?_
    refine pq_putI F ha (by decide) lp_X6_38 rfl (pq_any1 _) (pq_any2 _) dX6_readSymbol_25 ?_
    refine pq_aload_n F dX6_readSymbol_28 rfl rfl ?_
    refine pq_get F ha (by decide) lk_X6_25 (pq_kp hB.e0 (by decide)) dX6_readSymbol_29 ?_
    refine pq_aload_n F dX6_readSymbol_32 rfl rfl ?_
    refine pq_get F ha (by decide) lk_X6_38 pq_ks dX6_readSymbol_33 ?_
    refine pq_callV (As := [_]) F (k_X9_byteAtG l D cy _ _ ?_ _ tb n (k + 1) t (pq_ko g0 hB.h0 ha (by decide)) hgb (pq_ko hB.et hB.h0 ha (by decide)) hn ?_ ?_) ml_X6_79 hB.h0 (by decide) rfl (Nat.le_of_ble_eq_true rfl) ⟨Nat.le_of_ble_eq_true rfl, Nat.le_of_ble_eq_true rfl⟩ ⟨by decide, by decide⟩ dX6_readSymbol_36 (fun v36 S36 w36 => ?_)
    · exact hB.h0
    · focus ((try clear p8); (try clear p36); (try clear p39); (try clear p61); (try clear hB); (try clear hBs); (try clear hb8); (try clear hb36); (try clear hx39); (try clear hkl); simp only [vp_in_iff, Int32.lt_iff_toInt_lt, Int32.le_iff_toInt_le, ← Int32.toInt_inj, Int32.toInt_add, Int32.toInt_sub, Int32.toInt_mul, Int32.toInt_neg, pq_NuO, pq_NuI, pq_NuJ, pq_NuR, pq_shr6, pq_shr7, pq_shr8, lqm1, lq0, lq1, lq32, lq92, lq126] at *; (try simp (disch := omega) only [pq_bm] at *); all_goals omega)
    · focus ((try clear p8); (try clear p36); (try clear p39); (try clear p61); (try clear hB); (try clear hBs); (try clear hb8); (try clear hb36); (try clear hx39); (try clear hkl); simp only [vp_in_iff, Int32.lt_iff_toInt_lt, Int32.le_iff_toInt_le, ← Int32.toInt_inj, Int32.toInt_add, Int32.toInt_sub, Int32.toInt_mul, Int32.toInt_neg, pq_NuO, pq_NuI, pq_NuJ, pq_NuR, pq_shr6, pq_shr7, pq_shr8, lqm1, lq0, lq1, lq32, lq92, lq126] at *; (try simp (disch := omega) only [pq_bm] at *); all_goals omega)
    obtain ⟨u36, y36, rfl, yl36_0, yl36_1, p36⟩ := w36
    rw [u36]
    try rw [u36] at p36
    simp only [pq_IuO] at p36
    have hb36 := tk_bc.sb p36
    refine pq_callS (As := [_]) F (k_X6_escapedG l D cy _ _ ?_ ?_ (tr_by (hI S tb) n (k + 1)) hb36) ml_X6_167 (Nat.le_of_ble_eq_true rfl) ⟨Nat.le_of_ble_eq_true rfl, Nat.le_of_ble_eq_true rfl⟩ ⟨by decide, by decide⟩ dX6_readSymbol_39 (fun v39 S39 w39 => ?_)
    · focus ((try clear p8); (try clear p36); (try clear p39); (try clear p61); (try clear hB); (try clear hBs); (try clear hb8); (try clear hb36); (try clear hx39); (try clear hkl); simp only [vp_in_iff, Int32.lt_iff_toInt_lt, Int32.le_iff_toInt_le, ← Int32.toInt_inj, Int32.toInt_add, Int32.toInt_sub, Int32.toInt_mul, Int32.toInt_neg, pq_NuO, pq_NuI, pq_NuJ, pq_NuR, pq_shr6, pq_shr7, pq_shr8, lqm1, lq0, lq1, lq32, lq92, lq126] at *; (try simp (disch := omega) only [pq_bm] at *); all_goals omega)
    · focus ((try clear p8); (try clear p36); (try clear p39); (try clear p61); (try clear hB); (try clear hBs); (try clear hb8); (try clear hb36); (try clear hx39); (try clear hkl); simp only [vp_in_iff, Int32.lt_iff_toInt_lt, Int32.le_iff_toInt_le, ← Int32.toInt_inj, Int32.toInt_add, Int32.toInt_sub, Int32.toInt_mul, Int32.toInt_neg, pq_NuO, pq_NuI, pq_NuJ, pq_NuR, pq_shr6, pq_shr7, pq_shr8, lqm1, lq0, lq1, lq32, lq92, lq126] at *; (try simp (disch := omega) only [pq_bm] at *); all_goals omega)
    obtain ⟨u39, y39, rfl, yl39_0, yl39_1, p39⟩ := w39
    rw [u39]
    try rw [u39] at p39
    have hx39 : y39 = -1 ∨ (9 ≤ y39.toInt ∧ y39.toInt ≤ 126 ∧ k + 1 < n) := (by by_cases w : y39 = -1; exact Or.inl w; (rw [p39] at w; have v := tr_esc.ok w; rw [← p39] at v; exact Or.inr ⟨v.2.1, v.2.2, tr_by.lt v.1⟩))
    refine pq_istore_n F dX6_readSymbol_42 rfl (by decide) ?_
    refine pq_goto (tgt := 69) F dX6_readSymbol_43 (by decide) ?_
    refine pq_iload_n F dX6_readSymbol_69 rfl rfl ?_
    refine pq_if_ge (tgt := 84) F dX6_readSymbol_70 (by decide) (fun c70 => ?_) (fun c70 => ?_)
    · skip
      refine pq_aload_n F dX6_readSymbol_84 rfl rfl ?_
      refine pq_dup F dX6_readSymbol_85 rfl ?_
      refine pq_get F ha (by decide) lk_X6_38 pq_ks dX6_readSymbol_86 ?_
      refine pq_iconst (v := 1) F dX6_readSymbol_89 (by decide) ?_
      refine pq_iadd F dX6_readSymbol_90 ?_
      refine pq_putI F ha (by decide) lp_X6_38 rfl (pq_any1 _) (pq_any2 _) dX6_readSymbol_91 ?_
      refine pq_iload_n F dX6_readSymbol_94 rfl rfl ?_
      exact pq_iret F hr hlk hA (Nat.le_refl _) (Nat.le_refl _) ((by have v := hx39.resolve_left (fun w => (by rw [w] at c70; exact absurd c70 (by decide))); have v3 := v.2.2; exact ⟨((pq_Fr.rf.uO ha (by decide)).uO ha (by decide)), _, rfl, (by focus ((try clear p8); (try clear p36); (try clear p39); (try clear p61); (try clear hB); (try clear hBs); (try clear hb8); (try clear hb36); (try clear hx39); (try clear hkl); simp only [vp_in_iff, Int32.lt_iff_toInt_lt, Int32.le_iff_toInt_le, ← Int32.toInt_inj, Int32.toInt_add, Int32.toInt_sub, Int32.toInt_mul, Int32.toInt_neg, pq_NuO, pq_NuI, pq_NuJ, pq_NuR, pq_shr6, pq_shr7, pq_shr8, lqm1, lq0, lq1, lq32, lq92, lq126] at *; (try simp (disch := omega) only [pq_bm] at *); all_goals omega)), (by focus ((try clear p8); (try clear p36); (try clear p39); (try clear p61); (try clear hB); (try clear hBs); (try clear hb8); (try clear hb36); (try clear hx39); (try clear hkl); simp only [vp_in_iff, Int32.lt_iff_toInt_lt, Int32.le_iff_toInt_le, ← Int32.toInt_inj, Int32.toInt_add, Int32.toInt_sub, Int32.toInt_mul, Int32.toInt_neg, pq_NuO, pq_NuI, pq_NuJ, pq_NuR, pq_shr6, pq_shr7, pq_shr8, lqm1, lq0, lq1, lq32, lq92, lq126] at *; (try simp (disch := omega) only [pq_bm] at *); all_goals omega)), _, br, k + 2, (hB.p5 (by focus ((try clear p8); (try clear p36); (try clear p39); (try clear p61); (try clear hB); (try clear hBs); (try clear hb8); (try clear hb36); (try clear hx39); (try clear hkl); simp only [vp_in_iff, Int32.lt_iff_toInt_lt, Int32.le_iff_toInt_le, ← Int32.toInt_inj, Int32.toInt_add, Int32.toInt_sub, Int32.toInt_mul, Int32.toInt_neg, pq_NuO, pq_NuI, pq_NuJ, pq_NuR, pq_shr6, pq_shr7, pq_shr8, lqm1, lq0, lq1, lq32, lq92, lq126] at *; (try simp (disch := omega) only [pq_bm] at *); all_goals omega)) (by focus ((try clear p8); (try clear p36); (try clear p39); (try clear p61); (try clear hB); (try clear hBs); (try clear hb8); (try clear hb36); (try clear hx39); (try clear hkl); simp only [vp_in_iff, Int32.lt_iff_toInt_lt, Int32.le_iff_toInt_le, ← Int32.toInt_inj, Int32.toInt_add, Int32.toInt_sub, Int32.toInt_mul, Int32.toInt_neg, pq_NuO, pq_NuI, pq_NuJ, pq_NuR, pq_shr6, pq_shr7, pq_shr8, lqm1, lq0, lq1, lq32, lq92, lq126] at *; (try simp (disch := omega) only [pq_bm] at *); all_goals omega))).p5 (by focus ((try clear p8); (try clear p36); (try clear p39); (try clear p61); (try clear hB); (try clear hBs); (try clear hb8); (try clear hb36); (try clear hx39); (try clear hkl); simp only [vp_in_iff, Int32.lt_iff_toInt_lt, Int32.le_iff_toInt_le, ← Int32.toInt_inj, Int32.toInt_add, Int32.toInt_sub, Int32.toInt_mul, Int32.toInt_neg, pq_NuO, pq_NuI, pq_NuJ, pq_NuR, pq_shr6, pq_shr7, pq_shr8, lqm1, lq0, lq1, lq32, lq92, lq126] at *; (try simp (disch := omega) only [pq_bm] at *); all_goals omega)) (by focus ((try clear p8); (try clear p36); (try clear p39); (try clear p61); (try clear hB); (try clear hBs); (try clear hb8); (try clear hb36); (try clear hx39); (try clear hkl); simp only [vp_in_iff, Int32.lt_iff_toInt_lt, Int32.le_iff_toInt_le, ← Int32.toInt_inj, Int32.toInt_add, Int32.toInt_sub, Int32.toInt_mul, Int32.toInt_neg, pq_NuO, pq_NuI, pq_NuJ, pq_NuR, pq_shr6, pq_shr7, pq_shr8, lqm1, lq0, lq1, lq32, lq92, lq126] at *; (try simp (disch := omega) only [pq_bm] at *); all_goals omega)), (by focus ((try clear p8); (try clear p36); (try clear p39); (try clear p61); (try clear hB); (try clear hBs); (try clear hb8); (try clear hb36); (try clear hx39); (try clear hkl); simp only [vp_in_iff, Int32.lt_iff_toInt_lt, Int32.le_iff_toInt_le, ← Int32.toInt_inj, Int32.toInt_add, Int32.toInt_sub, Int32.toInt_mul, Int32.toInt_neg, pq_NuO, pq_NuI, pq_NuJ, pq_NuR, pq_shr6, pq_shr7, pq_shr8, lqm1, lq0, lq1, lq32, lq92, lq126] at *; (try simp (disch := omega) only [pq_bm] at *); all_goals omega)), v3, (by rw [p39]; exact tk_sy2 (hb8e.symm.trans c15) (fun w => (by rw [← p39] at w; rw [w] at c70; exact absurd c70 (by decide)))), Or.inr ⟨fun w => (by rw [w] at c70; exact absurd c70 (by decide)), rfl⟩⟩)) dX6_readSymbol_95
    · skip
      refine pq_aload_n F dX6_readSymbol_73 rfl rfl ?_
      refine pq_aload_n F dX6_readSymbol_74 rfl rfl ?_
      refine pq_get F ha (by decide) lk_X6_38 pq_ks dX6_readSymbol_75 ?_
      refine pq_putI F ha (by decide) lp_X6_42 rfl (pq_any1 _) (pq_any2 _) dX6_readSymbol_78 ?_
      refine pq_goto (tgt := 94) F dX6_readSymbol_81 (by decide) ?_
      refine pq_iload_n F dX6_readSymbol_94 rfl rfl ?_
      exact pq_iret F hr hlk hA (Nat.le_refl _) (Nat.le_refl _) ((by have v := hx39.resolve_right (fun w => (by have w1 := w.1; focus ((try clear p8); (try clear p36); (try clear p39); (try clear p61); (try clear hB); (try clear hBs); (try clear hb8); (try clear hb36); (try clear hx39); (try clear hkl); simp only [vp_in_iff, Int32.lt_iff_toInt_lt, Int32.le_iff_toInt_le, ← Int32.toInt_inj, Int32.toInt_add, Int32.toInt_sub, Int32.toInt_mul, Int32.toInt_neg, pq_NuO, pq_NuI, pq_NuJ, pq_NuR, pq_shr6, pq_shr7, pq_shr8, lqm1, lq0, lq1, lq32, lq92, lq126] at *; (try simp (disch := omega) only [pq_bm] at *); all_goals omega))); exact ⟨((pq_Fr.rf.uO ha (by decide)).uO ha (by decide)), _, rfl, (by focus ((try clear p8); (try clear p36); (try clear p39); (try clear p61); (try clear hB); (try clear hBs); (try clear hb8); (try clear hb36); (try clear hx39); (try clear hkl); simp only [vp_in_iff, Int32.lt_iff_toInt_lt, Int32.le_iff_toInt_le, ← Int32.toInt_inj, Int32.toInt_add, Int32.toInt_sub, Int32.toInt_mul, Int32.toInt_neg, pq_NuO, pq_NuI, pq_NuJ, pq_NuR, pq_shr6, pq_shr7, pq_shr8, lqm1, lq0, lq1, lq32, lq92, lq126] at *; (try simp (disch := omega) only [pq_bm] at *); all_goals omega)), (by focus ((try clear p8); (try clear p36); (try clear p39); (try clear p61); (try clear hB); (try clear hBs); (try clear hb8); (try clear hb36); (try clear hx39); (try clear hkl); simp only [vp_in_iff, Int32.lt_iff_toInt_lt, Int32.le_iff_toInt_le, ← Int32.toInt_inj, Int32.toInt_add, Int32.toInt_sub, Int32.toInt_mul, Int32.toInt_neg, pq_NuO, pq_NuI, pq_NuJ, pq_NuR, pq_shr6, pq_shr7, pq_shr8, lqm1, lq0, lq1, lq32, lq92, lq126] at *; (try simp (disch := omega) only [pq_bm] at *); all_goals omega)), _, _, k + 1, (hB.p5 (by focus ((try clear p8); (try clear p36); (try clear p39); (try clear p61); (try clear hB); (try clear hBs); (try clear hb8); (try clear hb36); (try clear hx39); (try clear hkl); simp only [vp_in_iff, Int32.lt_iff_toInt_lt, Int32.le_iff_toInt_le, ← Int32.toInt_inj, Int32.toInt_add, Int32.toInt_sub, Int32.toInt_mul, Int32.toInt_neg, pq_NuO, pq_NuI, pq_NuJ, pq_NuR, pq_shr6, pq_shr7, pq_shr8, lqm1, lq0, lq1, lq32, lq92, lq126] at *; (try simp (disch := omega) only [pq_bm] at *); all_goals omega)) (by focus ((try clear p8); (try clear p36); (try clear p39); (try clear p61); (try clear hB); (try clear hBs); (try clear hb8); (try clear hb36); (try clear hx39); (try clear hkl); simp only [vp_in_iff, Int32.lt_iff_toInt_lt, Int32.le_iff_toInt_le, ← Int32.toInt_inj, Int32.toInt_add, Int32.toInt_sub, Int32.toInt_mul, Int32.toInt_neg, pq_NuO, pq_NuI, pq_NuJ, pq_NuR, pq_shr6, pq_shr7, pq_shr8, lqm1, lq0, lq1, lq32, lq92, lq126] at *; (try simp (disch := omega) only [pq_bm] at *); all_goals omega))).p7, (by focus ((try clear p8); (try clear p36); (try clear p39); (try clear p61); (try clear hB); (try clear hBs); (try clear hb8); (try clear hb36); (try clear hx39); (try clear hkl); simp only [vp_in_iff, Int32.lt_iff_toInt_lt, Int32.le_iff_toInt_le, ← Int32.toInt_inj, Int32.toInt_add, Int32.toInt_sub, Int32.toInt_mul, Int32.toInt_neg, pq_NuO, pq_NuI, pq_NuJ, pq_NuR, pq_shr6, pq_shr7, pq_shr8, lqm1, lq0, lq1, lq32, lq92, lq126] at *; (try simp (disch := omega) only [pq_bm] at *); all_goals omega)), hlt, (by rw [v]; exact tk_sy1 (hb8e.symm.trans c15) (p39.symm.trans v)), Or.inl ⟨v, rfl⟩⟩)) dX6_readSymbol_95

set_option maxHeartbeats 4000000 in
set_option maxRecDepth 100000 in
theorem k_X6_includeG (l : Launch) (D : va_G) (cy : Nat → ClassId) (S : HS) (a : Nat) (ha : pq_R S a 9) (lo : Int32) (hi : Int32) (lo8 hi8 : Int64) (f8 : hO S a 8 = .long lo8) (f9 : hO S a 9 = .long hi8) : pq_C l D cy yX6_include cX6_include 4 (none) 1 0 0 S [.ref a, .int lo, .int hi] (fun v S2 => v = none ∧ pq_Fr [(9, 8), (9, 9)] S S2 ∧ (∃ lo9 hi9 : Int64, hO S2 a 8 = .long lo9 ∧ hO S2 a 9 = .long hi9 ∧ (0 ≤ lo.toInt → hi.toInt ≤ 127 → (lo9, hi9) = tr_inc (hi.toInt - lo.toInt + 1).toNat (lo8, hi8) lo))) := by
  refine pq_start (by decide) (Nat.le_of_ble_eq_true rfl) ?_
  intro p e s m args below meth c A F hr hlk hnm hA
  have lqm1 : (-1 : Int32).toInt = -1 := rfl
  have lq0 : (0 : Int32).toInt = 0 := rfl
  have lq1 : (1 : Int32).toInt = 1 := rfl
  have lq64 : (64 : Int32).toInt = 64 := rfl
  have lq128 : (128 : Int32).toInt = 128 := rfl
  have L6 : ∀  (fu : Nat) (S1 : HS) (k : Int32) (l3 h3 : Int64) (hF : pq_Fr [(9, 8), (9, 9)] S S1) (h8 : hO S1 a 8 = .long l3) (h9 : hO S1 a 9 = .long h3) (hk0 : 0 ≤ k.toInt) (hR : 0 ≤ lo.toInt → hi.toInt ≤ 127 → tr_inc (hi.toInt - k.toInt + 1).toNat (l3, h3) k = tr_inc (hi.toInt - lo.toInt + 1).toNat (lo8, hi8) lo), (128 - k.toInt).toNat < fu → pq_At p l e (pq_rm 1 0 0) s m args below meth c (pq_Z below args s D cy S 0 0 (fun v S2 => v = none ∧ pq_Fr [(9, 8), (9, 9)] S S2 ∧ (∃ lo9 hi9 : Int64, hO S2 a 8 = .long lo9 ∧ hO S2 a 9 = .long hi9 ∧ (0 ≤ lo.toInt → hi.toInt ≤ 127 → (lo9, hi9) = tr_inc (hi.toInt - lo.toInt + 1).toNat (lo8, hi8) lo)))) D cy A 4 0 0 6 S1 [some (.ref a), some (.int lo), some (.int hi), some (.int k)] [] := by
    intro  fu
    induction fu with
    | zero => intro S1 k l3 h3 hF h8 h9 hk0 hR hm; exact absurd hm (Nat.not_lt_zero _)
    | succ fu ih =>
      intro S1 k l3 h3 hF h8 h9 hk0 hR hm
      have haL := hF.R ha (by first | decide | omega)
      refine pq_iload_n F dX6_include_6 rfl rfl ?_
      refine pq_iload_n F dX6_include_7 rfl rfl ?_
      refine pq_icmp_gt (tgt := 60) F dX6_include_8 (by decide) (fun c8 => ?_) (fun c8 => ?_)
      · skip
        exact pq_vret F hr hlk hA (Nat.le_refl _) (Nat.le_refl _) (⟨rfl, hF, l3, h3, h8, h9, fun w1 w2 => (by have v := hR w1 w2; rw [show (hi.toInt - k.toInt + 1).toNat = 0 from (by clear hR; focus ((try clear hR); (try clear ih); simp only [vp_in_iff, Int32.lt_iff_toInt_lt, Int32.le_iff_toInt_le, ← Int32.toInt_inj, Int32.toInt_add, Int32.toInt_sub, Int32.toInt_mul, Int32.toInt_neg, pq_NuO, pq_NuI, pq_NuJ, pq_NuR, pq_shr6, pq_shr7, pq_shr8, lqm1, lq0, lq1, lq64, lq128] at *; (try simp (disch := omega) only [pq_bm] at *); all_goals omega))] at v; exact v)⟩) dX6_include_60
      · skip
        refine pq_iload_n F dX6_include_11 rfl rfl ?_
        refine pq_sipush (v := 128) F dX6_include_12 (by decide) ?_
        refine pq_icmp_ge (tgt := 60) F dX6_include_15 (by decide) (fun c15 => ?_) (fun c15 => ?_)
        · skip
          exact pq_vret F hr hlk hA (Nat.le_refl _) (Nat.le_refl _) (⟨rfl, hF, l3, h3, h8, h9, fun w1 w2 => (by have v := hR w1 w2; rw [show (hi.toInt - k.toInt + 1).toNat = 0 from (by clear hR; focus ((try clear hR); (try clear ih); simp only [vp_in_iff, Int32.lt_iff_toInt_lt, Int32.le_iff_toInt_le, ← Int32.toInt_inj, Int32.toInt_add, Int32.toInt_sub, Int32.toInt_mul, Int32.toInt_neg, pq_NuO, pq_NuI, pq_NuJ, pq_NuR, pq_shr6, pq_shr7, pq_shr8, lqm1, lq0, lq1, lq64, lq128] at *; (try simp (disch := omega) only [pq_bm] at *); all_goals omega))] at v; exact v)⟩) dX6_include_60
        · skip
          refine pq_iload_n F dX6_include_18 rfl rfl ?_
          refine pq_bipush (v := 64) F dX6_include_19 (by decide) ?_
          refine pq_icmp_ge (tgt := 39) F dX6_include_21 (by decide) (fun c21 => ?_) (fun c21 => ?_)
          · skip
            refine pq_aload_n F dX6_include_39 rfl rfl ?_
            refine pq_dup F dX6_include_40 rfl ?_
            refine pq_get F haL (by decide) lk_X6_100 h9 dX6_include_41 ?_
            refine pq_lconst (v := 1) F dX6_include_44 (by decide) ?_
            refine pq_iload_n F dX6_include_45 rfl rfl ?_
            refine pq_bipush (v := 64) F dX6_include_46 (by decide) ?_
            refine pq_isub F dX6_include_48 ?_
            refine pq_lshl F dX6_include_49 ?_
            refine pq_lor F dX6_include_50 ?_
            refine pq_put F haL (by decide) lp_X6_100 rfl rfl (⟨_, rfl⟩) dX6_include_51 ?_
            refine pq_iinc (v := 1) F dX6_include_54 rfl (by decide) (by decide) ?_
            refine pq_goto (tgt := 6) F dX6_include_57 (by decide) ?_
            exact pq_fgm [true, true, true, true] (ih _ _ _ _ (hF.uO haL (by decide)) (pq_kp h8 (by decide)) pq_ks (by focus ((try clear hR); (try clear ih); simp only [vp_in_iff, Int32.lt_iff_toInt_lt, Int32.le_iff_toInt_le, ← Int32.toInt_inj, Int32.toInt_add, Int32.toInt_sub, Int32.toInt_mul, Int32.toInt_neg, pq_NuO, pq_NuI, pq_NuJ, pq_NuR, pq_shr6, pq_shr7, pq_shr8, lqm1, lq0, lq1, lq64, lq128] at *; (try simp (disch := omega) only [pq_bm] at *); all_goals omega)) (fun w1 w2 => (by have e9 : (hi.toInt - k.toInt + 1).toNat = (hi.toInt - (k + 1).toInt + 1).toNat + 1 := (by clear hR; focus ((try clear hR); (try clear ih); simp only [vp_in_iff, Int32.lt_iff_toInt_lt, Int32.le_iff_toInt_le, ← Int32.toInt_inj, Int32.toInt_add, Int32.toInt_sub, Int32.toInt_mul, Int32.toInt_neg, pq_NuO, pq_NuI, pq_NuJ, pq_NuR, pq_shr6, pq_shr7, pq_shr8, lqm1, lq0, lq1, lq64, lq128] at *; (try simp (disch := omega) only [pq_bm] at *); all_goals omega)); have v := hR w1 w2; rw [e9] at v; rw [← v]; show _ = tr_inc _ (tr_set (l3, h3) k) (k + 1); unfold tr_set; rw [if_neg (by clear hR; focus ((try clear hR); (try clear ih); simp only [vp_in_iff, Int32.lt_iff_toInt_lt, Int32.le_iff_toInt_le, ← Int32.toInt_inj, Int32.toInt_add, Int32.toInt_sub, Int32.toInt_mul, Int32.toInt_neg, pq_NuO, pq_NuI, pq_NuJ, pq_NuR, pq_shr6, pq_shr7, pq_shr8, lqm1, lq0, lq1, lq64, lq128] at *; (try simp (disch := omega) only [pq_bm] at *); all_goals omega))]; rfl)) (by clear hR; focus ((try clear hR); (try clear ih); simp only [vp_in_iff, Int32.lt_iff_toInt_lt, Int32.le_iff_toInt_le, ← Int32.toInt_inj, Int32.toInt_add, Int32.toInt_sub, Int32.toInt_mul, Int32.toInt_neg, pq_NuO, pq_NuI, pq_NuJ, pq_NuR, pq_shr6, pq_shr7, pq_shr8, lqm1, lq0, lq1, lq64, lq128] at *; (try simp (disch := omega) only [pq_bm] at *); all_goals omega)))
          · skip
            refine pq_aload_n F dX6_include_24 rfl rfl ?_
            refine pq_dup F dX6_include_25 rfl ?_
            refine pq_get F haL (by decide) lk_X6_96 h8 dX6_include_26 ?_
            refine pq_lconst (v := 1) F dX6_include_29 (by decide) ?_
            refine pq_iload_n F dX6_include_30 rfl rfl ?_
            refine pq_lshl F dX6_include_31 ?_
            refine pq_lor F dX6_include_32 ?_
            refine pq_put F haL (by decide) lp_X6_96 rfl rfl (⟨_, rfl⟩) dX6_include_33 ?_
            refine pq_goto (tgt := 54) F dX6_include_36 (by decide) ?_
            refine pq_iinc (v := 1) F dX6_include_54 rfl (by decide) (by decide) ?_
            refine pq_goto (tgt := 6) F dX6_include_57 (by decide) ?_
            exact pq_fgm [true, true, true, true] (ih _ _ _ _ (hF.uO haL (by decide)) pq_ks (pq_kp h9 (by decide)) (by focus ((try clear hR); (try clear ih); simp only [vp_in_iff, Int32.lt_iff_toInt_lt, Int32.le_iff_toInt_le, ← Int32.toInt_inj, Int32.toInt_add, Int32.toInt_sub, Int32.toInt_mul, Int32.toInt_neg, pq_NuO, pq_NuI, pq_NuJ, pq_NuR, pq_shr6, pq_shr7, pq_shr8, lqm1, lq0, lq1, lq64, lq128] at *; (try simp (disch := omega) only [pq_bm] at *); all_goals omega)) (fun w1 w2 => (by have e9 : (hi.toInt - k.toInt + 1).toNat = (hi.toInt - (k + 1).toInt + 1).toNat + 1 := (by clear hR; focus ((try clear hR); (try clear ih); simp only [vp_in_iff, Int32.lt_iff_toInt_lt, Int32.le_iff_toInt_le, ← Int32.toInt_inj, Int32.toInt_add, Int32.toInt_sub, Int32.toInt_mul, Int32.toInt_neg, pq_NuO, pq_NuI, pq_NuJ, pq_NuR, pq_shr6, pq_shr7, pq_shr8, lqm1, lq0, lq1, lq64, lq128] at *; (try simp (disch := omega) only [pq_bm] at *); all_goals omega)); have v := hR w1 w2; rw [e9] at v; rw [← v]; show _ = tr_inc _ (tr_set (l3, h3) k) (k + 1); unfold tr_set; rw [if_pos (by clear hR; focus ((try clear hR); (try clear ih); simp only [vp_in_iff, Int32.lt_iff_toInt_lt, Int32.le_iff_toInt_le, ← Int32.toInt_inj, Int32.toInt_add, Int32.toInt_sub, Int32.toInt_mul, Int32.toInt_neg, pq_NuO, pq_NuI, pq_NuJ, pq_NuR, pq_shr6, pq_shr7, pq_shr8, lqm1, lq0, lq1, lq64, lq128] at *; (try simp (disch := omega) only [pq_bm] at *); all_goals omega))]; rfl)) (by clear hR; focus ((try clear hR); (try clear ih); simp only [vp_in_iff, Int32.lt_iff_toInt_lt, Int32.le_iff_toInt_le, ← Int32.toInt_inj, Int32.toInt_add, Int32.toInt_sub, Int32.toInt_mul, Int32.toInt_neg, pq_NuO, pq_NuI, pq_NuJ, pq_NuR, pq_shr6, pq_shr7, pq_shr8, lqm1, lq0, lq1, lq64, lq128] at *; (try simp (disch := omega) only [pq_bm] at *); all_goals omega)))
  refine pq_iload_n F dX6_include_0 rfl rfl ?_
  refine pq_iconst (v := 0) F dX6_include_1 (by decide) ?_
  refine pq_mmax F mx_X6_177 ⟨Nat.le_of_ble_eq_true rfl, Nat.le_of_ble_eq_true rfl⟩ (by decide) (by decide) dX6_include_2 (fun y2 yl2_0 yl2_1 yl2_2 => ?_)
  refine pq_istore_n F dX6_include_5 rfl (by decide) ?_
  exact pq_fgm [true, true, true, true] (L6 1000 _ y2 lo8 hi8 pq_Fr.rf f8 f9 (by focus ((try clear hR); (try clear ih); simp only [vp_in_iff, Int32.lt_iff_toInt_lt, Int32.le_iff_toInt_le, ← Int32.toInt_inj, Int32.toInt_add, Int32.toInt_sub, Int32.toInt_mul, Int32.toInt_neg, pq_NuO, pq_NuI, pq_NuJ, pq_NuR, pq_shr6, pq_shr7, pq_shr8, lqm1, lq0, lq1, lq64, lq128] at *; (try simp (disch := omega) only [pq_bm] at *); all_goals omega)) (fun w1 w2 => (by have e : y2 = lo := (by rcases yl2_2 with v | v; exact v; exact Int32.toInt_inj.mp (by rw [v]; focus ((try clear hR); (try clear ih); simp only [vp_in_iff, Int32.lt_iff_toInt_lt, Int32.le_iff_toInt_le, ← Int32.toInt_inj, Int32.toInt_add, Int32.toInt_sub, Int32.toInt_mul, Int32.toInt_neg, pq_NuO, pq_NuI, pq_NuJ, pq_NuR, pq_shr6, pq_shr7, pq_shr8, lqm1, lq0, lq1, lq64, lq128] at *; (try simp (disch := omega) only [pq_bm] at *); all_goals omega))); rw [e])) (by focus ((try clear hR); (try clear ih); simp only [vp_in_iff, Int32.lt_iff_toInt_lt, Int32.le_iff_toInt_le, ← Int32.toInt_inj, Int32.toInt_add, Int32.toInt_sub, Int32.toInt_mul, Int32.toInt_neg, pq_NuO, pq_NuI, pq_NuJ, pq_NuR, pq_shr6, pq_shr7, pq_shr8, lqm1, lq0, lq1, lq64, lq128] at *; (try simp (disch := omega) only [pq_bm] at *); all_goals omega)))

