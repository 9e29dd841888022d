theorem tk_hbu {r : Nat → Int64} {st : Nat} {w : Int64} {x : Int32} {p i : Nat} (h : x.toInt = (p : Int)) (hp : p < 448) (hi : i = st + p / 64) (hw : w = r i) : lg_cmp ((w.toUInt64 >>> ((x &&& 63).toInt64.toUInt64 &&& Int64.toUInt64 63)).toInt64 &&& 1) 0 = 0 ↔ ¬ tk_bit r st p := by
  rw [tk_cmp, tr_and1.2, tr_ushrN (by omega) (tk_b63 h), hw, hi]
  exact ⟨fun z y => z y.2, fun z y => z ⟨hp, y⟩⟩
def tk_bc (T : Nat → Int32) (n k : Nat) : Int32 := if k < n then T k &&& 255 else -1
theorem tk_a255 {x : Int32} (h0 : -128 ≤ x.toInt) (h1 : x.toInt ≤ 127) : (x &&& 255).toInt = if 0 ≤ x.toInt then x.toInt else x.toInt + 256 := by
  rw [pk_and x 8 rfl, nI_toInt (by omega)]
  have hn : x.toBitVec.toNat < 2 ^ 32 := x.toBitVec.isLt
  have e : x.toInt = if 2 * x.toBitVec.toNat < 2 ^ 32 then (x.toBitVec.toNat : Int) else (x.toBitVec.toNat : Int) - (2 ^ 32 : Nat) := BitVec.toInt_eq_toNat_cond x.toBitVec
  by_cases c : 2 * x.toBitVec.toNat < 2 ^ 32
  · rw [if_pos c] at e
    rw [if_pos (by omega)]
    omega
  · rw [if_neg c] at e
    rw [if_neg (by omega)]
    omega
/-- the class's bytes are the tape's, but for those that are no byte of a pattern -/
theorem tk_bc.eq {T : Nat → Int32} {n k : Nat} (h0 : -128 ≤ (T k).toInt) (h1 : (T k).toInt ≤ 127) : tk_bc T n k = tr_by T n k ∨ (128 ≤ (tk_bc T n k).toInt ∧ (tr_by T n k).toInt < 0 ∧ tr_by T n k ≠ -1 ∨ 128 ≤ (tk_bc T n k).toInt ∧ (tr_by T n k).toInt < 0) := by
  unfold tk_bc tr_by
  by_cases e : k < n
  · rw [if_pos e, if_pos e]
    have a := tk_a255 h0 h1
    by_cases z : 0 ≤ (T k).toInt
    · rw [if_pos z] at a
      exact Or.inl (Int32.toInt_inj.mp a)
    · rw [if_neg z] at a
      exact Or.inr (Or.inr ⟨by omega, by omega⟩)
  · rw [if_neg e, if_neg e]
    exact Or.inl rfl

set_option maxHeartbeats 4000000 in
set_option maxRecDepth 100000 in
theorem k_X10_hasBitG (l : Launch) (D : va_G) (cy : Nat → ClassId) (S : HS) (b rb : Nat) (hb : pq_R S b rb) (kb0 : 180 ≤ rb) (kb1 : rb < 200) (lo : Int32) (hlo0 : 0 ≤ lo.toInt) (bit : Int32) (hbit0 : 0 ≤ bit.toInt) (h1 : lo.toInt + bit.toInt / 64 < (hN S b : Int)) (h2 : hN S b ≤ 1000000) (st bn : Nat) (hst9 : lo.toInt = (st : Int)) (hbn : bit.toInt = (bn : Int)) (hb4 : bn < 448) : pq_C l D cy yX10_hasBit cX10_hasBit 3 (some .boolean) 1 0 0 S [.ref b, .int lo, .int bit] (fun v S2 => S2 = S ∧ ∃ x : Int32, v = some (.int x) ∧ 0 ≤ x.toInt ∧ x.toInt ≤ 1 ∧ (x = 1 ↔ tk_bit (hJ S b) st bn)) := by
  refine pq_start (by decide) (Nat.le_of_ble_eq_true rfl) ?_
  intro p e s m args below meth c A F hr hlk hnm hA
  have lqm1 : (-1 : Int32).toInt = -1 := rfl
  have lq0 : (0 : Int32).toInt = 0 := rfl
  have lq1 : (1 : Int32).toInt = 1 := rfl
  have lq6 : (6 : Int32).toInt = 6 := rfl
  have lq63 : (63 : Int32).toInt = 63 := rfl
  refine pq_aload_n F dX10_hasBit_0 rfl rfl ?_
  refine pq_iload_n F dX10_hasBit_1 rfl rfl ?_
  refine pq_iload_n F dX10_hasBit_2 rfl rfl ?_
  refine pq_bipush (v := 6) F dX10_hasBit_3 (by decide) ?_
  refine pq_ishr F dX10_hasBit_5 ?_
  refine pq_iadd F dX10_hasBit_6 ?_
  refine pq_lald F hb kb0 kb1 rfl (fun n1_7 n2_7 => (by focus ((try clear hu9); simp only [vp_in_iff, Int32.lt_iff_toInt_lt, Int32.le_iff_toInt_le, ← Int32.toInt_inj, Int32.toInt_add, Int32.toInt_sub, Int32.toInt_mul, Int32.toInt_neg, pq_NuO, pq_NuI, pq_NuJ, pq_NuR, pq_shr6, pq_shr7, pq_shr8, lqm1, lq0, lq1, lq6, lq63] at *; (try simp (disch := omega) only [pq_bm] at *); all_goals omega))) dX10_hasBit_7 (fun x7 e7 => ?_)
  refine pq_iload_n F dX10_hasBit_8 rfl rfl ?_
  refine pq_bipush (v := 63) F dX10_hasBit_9 (by decide) ?_
  refine pq_iand F dX10_hasBit_11 ?_
  refine pq_lushr F dX10_hasBit_12 ?_
  refine pq_lconst (v := 1) F dX10_hasBit_13 (by decide) ?_
  refine pq_land F dX10_hasBit_14 ?_
  refine pq_lconst (v := 0) F dX10_hasBit_15 (by decide) ?_
  refine pq_lcmp F dX10_hasBit_16 ?_
  have hu9 := tk_hbu (r := hJ S b) (st := st) (w := x7) (x := bit) hbn hb4 (by have w := pq_cl (x := lo + bit >>> ((6 : Int32) &&& 31)) (by focus ((try clear hu9); simp only [vp_in_iff, Int32.lt_iff_toInt_lt, Int32.le_iff_toInt_le, ← Int32.toInt_inj, Int32.toInt_add, Int32.toInt_sub, Int32.toInt_mul, Int32.toInt_neg, pq_NuO, pq_NuI, pq_NuJ, pq_NuR, pq_shr6, pq_shr7, pq_shr8, lqm1, lq0, lq1, lq6, lq63] at *; (try simp (disch := omega) only [pq_bm] at *); all_goals omega)); focus ((try clear hu9); simp only [vp_in_iff, Int32.lt_iff_toInt_lt, Int32.le_iff_toInt_le, ← Int32.toInt_inj, Int32.toInt_add, Int32.toInt_sub, Int32.toInt_mul, Int32.toInt_neg, pq_NuO, pq_NuI, pq_NuJ, pq_NuR, pq_shr6, pq_shr7, pq_shr8, lqm1, lq0, lq1, lq6, lq63] at *; (try simp (disch := omega) only [pq_bm] at *); all_goals omega)) e7
  refine pq_if_eq (tgt := 24) F dX10_hasBit_17 (by decide) (fun c17 => ?_) (fun c17 => ?_)
  · skip
    refine pq_iconst (v := 0) F dX10_hasBit_24 (by decide) ?_
    exact pq_zret F hr hlk hA rfl (Nat.le_refl _) (Nat.le_refl _) (⟨rfl, 0, rfl, (by focus ((try clear hu9); simp only [vp_in_iff, Int32.lt_iff_toInt_lt, Int32.le_iff_toInt_le, ← Int32.toInt_inj, Int32.toInt_add, Int32.toInt_sub, Int32.toInt_mul, Int32.toInt_neg, pq_NuO, pq_NuI, pq_NuJ, pq_NuR, pq_shr6, pq_shr7, pq_shr8, lqm1, lq0, lq1, lq6, lq63] at *; (try simp (disch := omega) only [pq_bm] at *); all_goals omega)), (by focus ((try clear hu9); simp only [vp_in_iff, Int32.lt_iff_toInt_lt, Int32.le_iff_toInt_le, ← Int32.toInt_inj, Int32.toInt_add, Int32.toInt_sub, Int32.toInt_mul, Int32.toInt_neg, pq_NuO, pq_NuI, pq_NuJ, pq_NuR, pq_shr6, pq_shr7, pq_shr8, lqm1, lq0, lq1, lq6, lq63] at *; (try simp (disch := omega) only [pq_bm] at *); all_goals omega)), ⟨fun w => absurd w (by decide), fun w => absurd w (hu9.mp c17)⟩⟩) dX10_hasBit_25
  · skip
    refine pq_iconst (v := 1) F dX10_hasBit_20 (by decide) ?_
    refine pq_goto (tgt := 25) F dX10_hasBit_21 (by decide) ?_
    exact pq_zret F hr hlk hA rfl (Nat.le_refl _) (Nat.le_refl _) (⟨rfl, 1, rfl, (by focus ((try clear hu9); simp only [vp_in_iff, Int32.lt_iff_toInt_lt, Int32.le_iff_toInt_le, ← Int32.toInt_inj, Int32.toInt_add, Int32.toInt_sub, Int32.toInt_mul, Int32.toInt_neg, pq_NuO, pq_NuI, pq_NuJ, pq_NuR, pq_shr6, pq_shr7, pq_shr8, lqm1, lq0, lq1, lq6, lq63] at *; (try simp (disch := omega) only [pq_bm] at *); all_goals omega)), (by focus ((try clear hu9); simp only [vp_in_iff, Int32.lt_iff_toInt_lt, Int32.le_iff_toInt_le, ← Int32.toInt_inj, Int32.toInt_add, Int32.toInt_sub, Int32.toInt_mul, Int32.toInt_neg, pq_NuO, pq_NuI, pq_NuJ, pq_NuR, pq_shr6, pq_shr7, pq_shr8, lqm1, lq0, lq1, lq6, lq63] at *; (try simp (disch := omega) only [pq_bm] at *); all_goals omega)), ⟨fun _ => Classical.byContradiction (fun w => c17 (hu9.mpr w)), fun _ => rfl⟩⟩) dX10_hasBit_25

set_option maxHeartbeats 4000000 in
set_option maxRecDepth 100000 in
theorem k_X10_addBitG (l : Launch) (D : va_G) (cy : Nat → ClassId) (S : HS) (b rb : Nat) (hb : pq_R S b rb) (kb0 : 180 ≤ rb) (kb1 : rb < 200) (lo : Int32) (hlo0 : 0 ≤ lo.toInt) (bit : Int32) (hbit0 : 0 ≤ bit.toInt) (h1 : lo.toInt + bit.toInt / 64 < (hN S b : Int)) (h2 : hN S b ≤ 1000000) (st bn : Nat) (hst9 : lo.toInt = (st : Int)) (hbn : bit.toInt = (bn : Int)) (hb4 : bn < 448) : pq_C l D cy yX10_addBit cX10_addBit 3 (none) 1 0 0 S [.ref b, .int lo, .int bit] (fun v S2 => v = none ∧ ∃ f : Nat → Int64, S2 = pq_uJ S b f ∧ ((∀ q, tk_bit f st q ↔ tk_bit (hJ S b) st q ∨ q = bn) ∧ ∀ i, (i < st ∨ st + 7 ≤ i) → f i = hJ S b i)) := by
  refine pq_start (by decide) (Nat.le_of_ble_eq_true rfl) ?_
  intro p e s m args below meth c A F hr hlk hnm hA
  have lqm1 : (-1 : Int32).toInt = -1 := rfl
  have lq0 : (0 : Int32).toInt = 0 := rfl
  have lq1 : (1 : Int32).toInt = 1 := rfl
  have lq6 : (6 : Int32).toInt = 6 := rfl
  have lq63 : (63 : Int32).toInt = 63 := rfl
  refine pq_aload_n F dX10_addBit_0 rfl rfl ?_
  refine pq_iload_n F dX10_addBit_1 rfl rfl ?_
  refine pq_iload_n F dX10_addBit_2 rfl rfl ?_
  refine pq_bipush (v := 6) F dX10_addBit_3 (by decide) ?_
  refine pq_ishr F dX10_addBit_5 ?_
  refine pq_iadd F dX10_addBit_6 ?_
  refine pq_dup2 F dX10_addBit_7 rfl rfl ?_
  refine pq_lald F hb kb0 kb1 rfl (fun n1_8 n2_8 => (by focus (simp only [vp_in_iff, Int32.lt_iff_toInt_lt, Int32.le_iff_toInt_le, ← Int32.toInt_inj, Int32.toInt_add, Int32.toInt_sub, Int32.toInt_mul, Int32.toInt_neg, pq_NuO, pq_NuI, pq_NuJ, pq_NuR, pq_shr6, pq_shr7, pq_shr8, lqm1, lq0, lq1, lq6, lq63] at *; (try simp (disch := omega) only [pq_bm] at *); all_goals omega))) dX10_addBit_8 (fun x8 e8 => ?_)
  refine pq_lconst (v := 1) F dX10_addBit_9 (by decide) ?_
  refine pq_iload_n F dX10_addBit_10 rfl rfl ?_
  refine pq_bipush (v := 63) F dX10_addBit_11 (by decide) ?_
  refine pq_iand F dX10_addBit_13 ?_
  refine pq_lshl F dX10_addBit_14 ?_
  refine pq_lor F dX10_addBit_15 ?_
  refine pq_last F hb kb0 kb1 rfl (fun n1_16 n2_16 => (by focus (simp only [vp_in_iff, Int32.lt_iff_toInt_lt, Int32.le_iff_toInt_le, ← Int32.toInt_inj, Int32.toInt_add, Int32.toInt_sub, Int32.toInt_mul, Int32.toInt_neg, pq_NuO, pq_NuI, pq_NuJ, pq_NuR, pq_shr6, pq_shr7, pq_shr8, lqm1, lq0, lq1, lq6, lq63] at *; (try simp (disch := omega) only [pq_bm] at *); all_goals omega))) dX10_addBit_16 ?_
  have ix9 : (lo + bit >>> ((6 : Int32) &&& 31)).toNatClampNeg = st + bn / 64 := (by have w := pq_cl (x := lo + bit >>> ((6 : Int32) &&& 31)) (by focus (simp only [vp_in_iff, Int32.lt_iff_toInt_lt, Int32.le_iff_toInt_le, ← Int32.toInt_inj, Int32.toInt_add, Int32.toInt_sub, Int32.toInt_mul, Int32.toInt_neg, pq_NuO, pq_NuI, pq_NuJ, pq_NuR, pq_shr6, pq_shr7, pq_shr8, lqm1, lq0, lq1, lq6, lq63] at *; (try simp (disch := omega) only [pq_bm] at *); all_goals omega)); focus (simp only [vp_in_iff, Int32.lt_iff_toInt_lt, Int32.le_iff_toInt_le, ← Int32.toInt_inj, Int32.toInt_add, Int32.toInt_sub, Int32.toInt_mul, Int32.toInt_neg, pq_NuO, pq_NuI, pq_NuJ, pq_NuR, pq_shr6, pq_shr7, pq_shr8, lqm1, lq0, lq1, lq6, lq63] at *; (try simp (disch := omega) only [pq_bm] at *); all_goals omega))
  exact pq_vret F hr hlk hA (Nat.le_refl _) (Nat.le_refl _) ((by refine ⟨rfl, _, rfl, ?_, ?_⟩; (intro q; rw [ix9, e8, ix9]; exact tk_bit.ad2 hb4 (tk_b63 hbn) rfl); (intro i hi; rw [ix9]; exact pk_uLn (by omega)))) dX10_addBit_17

theorem pq_Jb2 {S : HS} {b c9 : Nat} {f : Nat → Int64} (h : c9 ≠ b) : hJ (pq_uJ S b f) c9 = hJ S c9 := va_up_ne _ _ h
set_option maxHeartbeats 4000000 in
set_option maxRecDepth 100000 in
theorem k_X10_addAllG (l : Launch) (D : va_G) (cy : Nat → ClassId) (S : HS) (b rb : Nat) (hb : pq_R S b rb) (kb0 : 180 ≤ rb) (kb1 : rb < 200) (lo : Int32) (hlo0 : 0 ≤ lo.toInt) (ot rot : Nat) (hot : pq_R S ot rot) (kot0 : 180 ≤ rot) (kot1 : rot < 200) (h1 : lo.toInt + 7 ≤ (hN S b : Int)) (h2 : hN S b ≤ 1000000) (h3 : 7 ≤ hN S ot) (st : Nat) (hst9 : lo.toInt = (st : Int)) (hne : b ≠ ot) : pq_C l D cy yX10_addAll cX10_addAll 4 (none) 1 0 0 S [.ref b, .int lo, .ref ot] (fun v S2 => v = none ∧ ∃ f : Nat → Int64, S2 = pq_uJ S b f ∧ ((∀ w, w < 7 → f (st + w) = hJ S b (st + w) ||| hJ S ot w) ∧ ∀ i, (i < st ∨ st + 7 ≤ i) → f i = hJ S b i)) := by
  refine pq_start (by decide) (Nat.le_of_ble_eq_true rfl) ?_
  intro p e s m args below meth c A F hr hlk hnm hA
  have lqm1 : (-1 : Int32).toInt = -1 := rfl
  have lq0 : (0 : Int32).toInt = 0 := rfl
  have lq1 : (1 : Int32).toInt = 1 := rfl
  have lq7 : (7 : Int32).toInt = 7 := rfl
  have L2 : ∀  (fu : Nat) (S1 : HS) (k : Int32)  (hF : ∃ f : Nat → Int64, S1 = pq_uJ S b f ∧ (∀ w : Nat, (w : Int) < k.toInt → f (st + w) = hJ S b (st + w) ||| hJ S ot w) ∧ (∀ w : Nat, k.toInt ≤ (w : Int) → f (st + w) = hJ S b (st + w)) ∧ ∀ i, i < st → f i = hJ S b i) (hk0 : 0 ≤ k.toInt) (hk1 : k.toInt ≤ 7), (7 - k.toInt).toNat < fu → pq_At p l e (pq_rm 1 0 0) s m args below meth c (pq_Z below args s D cy S 0 0 (fun v S2 => v = none ∧ ∃ f : Nat → Int64, S2 = pq_uJ S b f ∧ ((∀ w, w < 7 → f (st + w) = hJ S b (st + w) ||| hJ S ot w) ∧ ∀ i, (i < st ∨ st + 7 ≤ i) → f i = hJ S b i))) D cy A 4 0 0 2 S1 [some (.ref b), some (.int lo), some (.ref ot), some (.int k)] [] := by
    intro  fu
    induction fu with
    | zero => intro S1 k hF hk0 hk1 hm; exact absurd hm (Nat.not_lt_zero _)
    | succ fu ih =>
      intro S1 k hF hk0 hk1 hm
      obtain ⟨f0, rfl, hf1, hf2, hf3⟩ := hF
      have ck := pq_cl hk0
      have ix9 : (lo + k).toNatClampNeg = st + k.toNatClampNeg := (by have w := pq_cl (x := lo + k) (by focus ((try clear hf1); (try clear hf2); (try clear hf3); simp only [vp_in_iff, Int32.lt_iff_toInt_lt, Int32.le_iff_toInt_le, ← Int32.toInt_inj, Int32.toInt_add, Int32.toInt_sub, Int32.toInt_mul, Int32.toInt_neg, pq_NuO, pq_NuI, pq_NuJ, pq_NuR, pq_shr6, pq_shr7, pq_shr8, lqm1, lq0, lq1, lq7] at *; (try simp (disch := omega) only [pq_bm] at *); all_goals omega)); focus ((try clear hf1); (try clear hf2); (try clear hf3); simp only [vp_in_iff, Int32.lt_iff_toInt_lt, Int32.le_iff_toInt_le, ← Int32.toInt_inj, Int32.toInt_add, Int32.toInt_sub, Int32.toInt_mul, Int32.toInt_neg, pq_NuO, pq_NuI, pq_NuJ, pq_NuR, pq_shr6, pq_shr7, pq_shr8, lqm1, lq0, lq1, lq7] at *; (try simp (disch := omega) only [pq_bm] at *); all_goals omega))
      have hbL := hb
      have hotL := hot
      refine pq_iload_n F dX10_addAll_2 rfl rfl ?_
      refine pq_bipush (v := 7) F dX10_addAll_3 (by decide) ?_
      refine pq_icmp_ge (tgt := 25) F dX10_addAll_5 (by decide) (fun c5 => ?_) (fun c5 => ?_)
      · skip
        exact pq_vret F hr hlk hA (Nat.le_refl _) (Nat.le_refl _) (⟨rfl, _, rfl, (fun w hv9 => hf1 w (by focus ((try clear hf1); (try clear hf2); (try clear hf3); simp only [vp_in_iff, Int32.lt_iff_toInt_lt, Int32.le_iff_toInt_le, ← Int32.toInt_inj, Int32.toInt_add, Int32.toInt_sub, Int32.toInt_mul, Int32.toInt_neg, pq_NuO, pq_NuI, pq_NuJ, pq_NuR, pq_shr6, pq_shr7, pq_shr8, lqm1, lq0, lq1, lq7] at *; (try simp (disch := omega) only [pq_bm] at *); all_goals omega))), (fun i hi => (by rcases hi with hi | hi; exact hf3 i hi; (have w := hf2 (i - st) (by focus ((try clear hf1); (try clear hf2); (try clear hf3); simp only [vp_in_iff, Int32.lt_iff_toInt_lt, Int32.le_iff_toInt_le, ← Int32.toInt_inj, Int32.toInt_add, Int32.toInt_sub, Int32.toInt_mul, Int32.toInt_neg, pq_NuO, pq_NuI, pq_NuJ, pq_NuR, pq_shr6, pq_shr7, pq_shr8, lqm1, lq0, lq1, lq7] at *; (try simp (disch := omega) only [pq_bm] at *); all_goals omega)); rw [show st + (i - st) = i by omega] at w; exact w)))⟩) dX10_addAll_25
      · skip
        refine pq_aload_n F dX10_addAll_8 rfl rfl ?_
        refine pq_iload_n F dX10_addAll_9 rfl rfl ?_
        refine pq_iload_n F dX10_addAll_10 rfl rfl ?_
        refine pq_iadd F dX10_addAll_11 ?_
        refine pq_dup2 F dX10_addAll_12 rfl rfl ?_
        refine pq_lald F hbL kb0 kb1 rfl (fun n1_13 n2_13 => (by focus ((try clear hf1); (try clear hf2); (try clear hf3); simp only [vp_in_iff, Int32.lt_iff_toInt_lt, Int32.le_iff_toInt_le, ← Int32.toInt_inj, Int32.toInt_add, Int32.toInt_sub, Int32.toInt_mul, Int32.toInt_neg, pq_NuO, pq_NuI, pq_NuJ, pq_NuR, pq_shr6, pq_shr7, pq_shr8, lqm1, lq0, lq1, lq7] at *; (try simp (disch := omega) only [pq_bm] at *); all_goals omega))) dX10_addAll_13 (fun x13 e13 => ?_)
        refine pq_aload_n F dX10_addAll_14 rfl rfl ?_
        refine pq_iload_n F dX10_addAll_15 rfl rfl ?_
        refine pq_lald F hotL kot0 kot1 rfl (fun n1_16 n2_16 => (by focus ((try clear hf1); (try clear hf2); (try clear hf3); simp only [vp_in_iff, Int32.lt_iff_toInt_lt, Int32.le_iff_toInt_le, ← Int32.toInt_inj, Int32.toInt_add, Int32.toInt_sub, Int32.toInt_mul, Int32.toInt_neg, pq_NuO, pq_NuI, pq_NuJ, pq_NuR, pq_shr6, pq_shr7, pq_shr8, lqm1, lq0, lq1, lq7] at *; (try simp (disch := omega) only [pq_bm] at *); all_goals omega))) dX10_addAll_16 (fun x16 e16 => ?_)
        refine pq_lor F dX10_addAll_17 ?_
        refine pq_last F hbL kb0 kb1 rfl (fun n1_18 n2_18 => (by focus ((try clear hf1); (try clear hf2); (try clear hf3); simp only [vp_in_iff, Int32.lt_iff_toInt_lt, Int32.le_iff_toInt_le, ← Int32.toInt_inj, Int32.toInt_add, Int32.toInt_sub, Int32.toInt_mul, Int32.toInt_neg, pq_NuO, pq_NuI, pq_NuJ, pq_NuR, pq_shr6, pq_shr7, pq_shr8, lqm1, lq0, lq1, lq7] at *; (try simp (disch := omega) only [pq_bm] at *); all_goals omega))) dX10_addAll_18 ?_
        refine pq_iinc (v := 1) F dX10_addAll_19 rfl (by decide) (by decide) ?_
        refine pq_goto (tgt := 2) F dX10_addAll_22 (by decide) ?_
        exact pq_fgm [true, true, true, true] (ih _ _ ⟨_, pq_uJJ, (fun w hv9 => (by rw [pq_Ja, ix9]; by_cases e : w = k.toNatClampNeg; (rw [e, pk_uLs, e13, e16, ix9, pq_Ja, pq_Jb2 (Ne.symm hne), hf2 _ (by omega)]); (rw [pk_uLn (by omega)]; exact hf1 w (by focus ((try clear hf1); (try clear hf2); (try clear hf3); simp only [vp_in_iff, Int32.lt_iff_toInt_lt, Int32.le_iff_toInt_le, ← Int32.toInt_inj, Int32.toInt_add, Int32.toInt_sub, Int32.toInt_mul, Int32.toInt_neg, pq_NuO, pq_NuI, pq_NuJ, pq_NuR, pq_shr6, pq_shr7, pq_shr8, lqm1, lq0, lq1, lq7] at *; (try simp (disch := omega) only [pq_bm] at *); all_goals omega))))), (fun w hv9 => (by rw [pq_Ja, ix9, pk_uLn (by focus ((try clear hf1); (try clear hf2); (try clear hf3); simp only [vp_in_iff, Int32.lt_iff_toInt_lt, Int32.le_iff_toInt_le, ← Int32.toInt_inj, Int32.toInt_add, Int32.toInt_sub, Int32.toInt_mul, Int32.toInt_neg, pq_NuO, pq_NuI, pq_NuJ, pq_NuR, pq_shr6, pq_shr7, pq_shr8, lqm1, lq0, lq1, lq7] at *; (try simp (disch := omega) only [pq_bm] at *); all_goals omega))]; exact hf2 w (by focus ((try clear hf1); (try clear hf2); (try clear hf3); simp only [vp_in_iff, Int32.lt_iff_toInt_lt, Int32.le_iff_toInt_le, ← Int32.toInt_inj, Int32.toInt_add, Int32.toInt_sub, Int32.toInt_mul, Int32.toInt_neg, pq_NuO, pq_NuI, pq_NuJ, pq_NuR, pq_shr6, pq_shr7, pq_shr8, lqm1, lq0, lq1, lq7] at *; (try simp (disch := omega) only [pq_bm] at *); all_goals omega)))), (fun i hi => (by rw [pq_Ja, ix9, pk_uLn (by omega)]; exact hf3 i hi))⟩ (by focus ((try clear hf1); (try clear hf2); (try clear hf3); simp only [vp_in_iff, Int32.lt_iff_toInt_lt, Int32.le_iff_toInt_le, ← Int32.toInt_inj, Int32.toInt_add, Int32.toInt_sub, Int32.toInt_mul, Int32.toInt_neg, pq_NuO, pq_NuI, pq_NuJ, pq_NuR, pq_shr6, pq_shr7, pq_shr8, lqm1, lq0, lq1, lq7] at *; (try simp (disch := omega) only [pq_bm] at *); all_goals omega)) (by focus ((try clear hf1); (try clear hf2); (try clear hf3); simp only [vp_in_iff, Int32.lt_iff_toInt_lt, Int32.le_iff_toInt_le, ← Int32.toInt_inj, Int32.toInt_add, Int32.toInt_sub, Int32.toInt_mul, Int32.toInt_neg, pq_NuO, pq_NuI, pq_NuJ, pq_NuR, pq_shr6, pq_shr7, pq_shr8, lqm1, lq0, lq1, lq7] at *; (try simp (disch := omega) only [pq_bm] at *); all_goals omega)) (by focus ((try clear hf1); (try clear hf2); (try clear hf3); simp only [vp_in_iff, Int32.lt_iff_toInt_lt, Int32.le_iff_toInt_le, ← Int32.toInt_inj, Int32.toInt_add, Int32.toInt_sub, Int32.toInt_mul, Int32.toInt_neg, pq_NuO, pq_NuI, pq_NuJ, pq_NuR, pq_shr6, pq_shr7, pq_shr8, lqm1, lq0, lq1, lq7] at *; (try simp (disch := omega) only [pq_bm] at *); all_goals omega)))
  refine pq_iconst (v := 0) F dX10_addAll_0 (by decide) ?_
  refine pq_istore_n F dX10_addAll_1 rfl (by decide) ?_
  exact pq_fgm [true, true, true, true] (L2 100 _ _ ⟨_, pq_uJs, (fun w hv9 => absurd hv9 (by focus ((try clear hf1); (try clear hf2); (try clear hf3); simp only [vp_in_iff, Int32.lt_iff_toInt_lt, Int32.le_iff_toInt_le, ← Int32.toInt_inj, Int32.toInt_add, Int32.toInt_sub, Int32.toInt_mul, Int32.toInt_neg, pq_NuO, pq_NuI, pq_NuJ, pq_NuR, pq_shr6, pq_shr7, pq_shr8, lqm1, lq0, lq1, lq7] at *; (try simp (disch := omega) only [pq_bm] at *); all_goals omega))), (fun _ _ => rfl), (fun _ _ => rfl)⟩ (by focus ((try clear hf1); (try clear hf2); (try clear hf3); simp only [vp_in_iff, Int32.lt_iff_toInt_lt, Int32.le_iff_toInt_le, ← Int32.toInt_inj, Int32.toInt_add, Int32.toInt_sub, Int32.toInt_mul, Int32.toInt_neg, pq_NuO, pq_NuI, pq_NuJ, pq_NuR, pq_shr6, pq_shr7, pq_shr8, lqm1, lq0, lq1, lq7] at *; (try simp (disch := omega) only [pq_bm] at *); all_goals omega)) (by focus ((try clear hf1); (try clear hf2); (try clear hf3); simp only [vp_in_iff, Int32.lt_iff_toInt_lt, Int32.le_iff_toInt_le, ← Int32.toInt_inj, Int32.toInt_add, Int32.toInt_sub, Int32.toInt_mul, Int32.toInt_neg, pq_NuO, pq_NuI, pq_NuJ, pq_NuR, pq_shr6, pq_shr7, pq_shr8, lqm1, lq0, lq1, lq7] at *; (try simp (disch := omega) only [pq_bm] at *); all_goals omega)) (by focus ((try clear hf1); (try clear hf2); (try clear hf3); simp only [vp_in_iff, Int32.lt_iff_toInt_lt, Int32.le_iff_toInt_le, ← Int32.toInt_inj, Int32.toInt_add, Int32.toInt_sub, Int32.toInt_mul, Int32.toInt_neg, pq_NuO, pq_NuI, pq_NuJ, pq_NuR, pq_shr6, pq_shr7, pq_shr8, lqm1, lq0, lq1, lq7] at *; (try simp (disch := omega) only [pq_bm] at *); all_goals omega)))

set_option maxHeartbeats 4000000 in
set_option maxRecDepth 100000 in
theorem k_X10_sameRowG (l : Launch) (D : va_G) (cy : Nat → ClassId) (S : HS) (b rb : Nat) (hb : pq_R S b rb) (kb0 : 180 ≤ rb) (kb1 : rb < 200) (lo : Int32) (hlo0 : 0 ≤ lo.toInt) (ot rot : Nat) (hot : pq_R S ot rot) (kot0 : 180 ≤ rot) (kot1 : rot < 200) (hi : Int32) (hhi0 : 0 ≤ hi.toInt) (h1 : lo.toInt + 7 ≤ (hN S b : Int)) (h2 : hN S b ≤ 1000000) (h3 : hi.toInt + 7 ≤ (hN S ot : Int)) (h4 : hN S ot ≤ 1000000) (s1 s2 : Nat) (hs1 : lo.toInt = (s1 : Int)) (hs2 : hi.toInt = (s2 : Int)) : pq_C l D cy yX10_sameRow cX10_sameRow 5 (some .boolean) 1 0 0 S [.ref b, .int lo, .ref ot, .int hi] (fun v S2 => S2 = S ∧ ∃ x : Int32, v = some (.int x) ∧ 0 ≤ x.toInt ∧ x.toInt ≤ 1 ∧ (x = 1 ↔ ∀ w, w < 7 → hJ S b (s1 + w) = hJ S ot (s2 + w))) := by
  refine pq_start (by decide) (Nat.le_of_ble_eq_true rfl) ?_
  intro p e s m args below meth c A F hr hlk hnm hA
  have lqm1 : (-1 : Int32).toInt = -1 := rfl
  have lq0 : (0 : Int32).toInt = 0 := rfl
  have lq1 : (1 : Int32).toInt = 1 := rfl
  have lq7 : (7 : Int32).toInt = 7 := rfl
  have L3 : ∀  (fu : Nat)  (k : Int32)  (hk0 : 0 ≤ k.toInt) (hk1 : k.toInt ≤ 7) (hq : ∀ w : Nat, (w : Int) < k.toInt → hJ S b (s1 + w) = hJ S ot (s2 + w)), (7 - k.toInt).toNat < fu → pq_At p l e (pq_rm 1 0 0) s m args below meth c (pq_Z below args s D cy S 0 0 (fun v S2 => S2 = S ∧ ∃ x : Int32, v = some (.int x) ∧ 0 ≤ x.toInt ∧ x.toInt ≤ 1 ∧ (x = 1 ↔ ∀ w, w < 7 → hJ S b (s1 + w) = hJ S ot (s2 + w)))) D cy A 5 0 0 3 S [some (.ref b), some (.int lo), some (.ref ot), some (.int hi), some (.int k)] [] := by
    intro  fu
    induction fu with
    | zero => intro k hk0 hk1 hq hm; exact absurd hm (Nat.not_lt_zero _)
    | succ fu ih =>
      intro k hk0 hk1 hq hm
      have ck := pq_cl hk0
      have ix1 : (lo + k).toNatClampNeg = s1 + k.toNatClampNeg := (by have w := pq_cl (x := lo + k) (by focus ((try clear hq); simp only [vp_in_iff, Int32.lt_iff_toInt_lt, Int32.le_iff_toInt_le, ← Int32.toInt_inj, Int32.toInt_add, Int32.toInt_sub, Int32.toInt_mul, Int32.toInt_neg, pq_NuO, pq_NuI, pq_NuJ, pq_NuR, pq_shr6, pq_shr7, pq_shr8, lqm1, lq0, lq1, lq7] at *; (try simp (disch := omega) only [pq_bm] at *); all_goals omega)); focus ((try clear hq); simp only [vp_in_iff, Int32.lt_iff_toInt_lt, Int32.le_iff_toInt_le, ← Int32.toInt_inj, Int32.toInt_add, Int32.toInt_sub, Int32.toInt_mul, Int32.toInt_neg, pq_NuO, pq_NuI, pq_NuJ, pq_NuR, pq_shr6, pq_shr7, pq_shr8, lqm1, lq0, lq1, lq7] at *; (try simp (disch := omega) only [pq_bm] at *); all_goals omega))
      have ix2 : (hi + k).toNatClampNeg = s2 + k.toNatClampNeg := (by have w := pq_cl (x := hi + k) (by focus ((try clear hq); simp only [vp_in_iff, Int32.lt_iff_toInt_lt, Int32.le_iff_toInt_le, ← Int32.toInt_inj, Int32.toInt_add, Int32.toInt_sub, Int32.toInt_mul, Int32.toInt_neg, pq_NuO, pq_NuI, pq_NuJ, pq_NuR, pq_shr6, pq_shr7, pq_shr8, lqm1, lq0, lq1, lq7] at *; (try simp (disch := omega) only [pq_bm] at *); all_goals omega)); focus ((try clear hq); simp only [vp_in_iff, Int32.lt_iff_toInt_lt, Int32.le_iff_toInt_le, ← Int32.toInt_inj, Int32.toInt_add, Int32.toInt_sub, Int32.toInt_mul, Int32.toInt_neg, pq_NuO, pq_NuI, pq_NuJ, pq_NuR, pq_shr6, pq_shr7, pq_shr8, lqm1, lq0, lq1, lq7] at *; (try simp (disch := omega) only [pq_bm] at *); all_goals omega))
      refine pq_iload F dX10_sameRow_3 rfl ?_
      refine pq_bipush (v := 7) F dX10_sameRow_5 (by decide) ?_
      refine pq_icmp_ge (tgt := 34) F dX10_sameRow_7 (by decide) (fun c7 => ?_) (fun c7 => ?_)
      · skip
        refine pq_iconst (v := 1) F dX10_sameRow_34 (by decide) ?_
        exact pq_zret F hr hlk hA rfl (Nat.le_refl _) (Nat.le_refl _) (⟨rfl, 1, rfl, (by focus ((try clear hq); simp only [vp_in_iff, Int32.lt_iff_toInt_lt, Int32.le_iff_toInt_le, ← Int32.toInt_inj, Int32.toInt_add, Int32.toInt_sub, Int32.toInt_mul, Int32.toInt_neg, pq_NuO, pq_NuI, pq_NuJ, pq_NuR, pq_shr6, pq_shr7, pq_shr8, lqm1, lq0, lq1, lq7] at *; (try simp (disch := omega) only [pq_bm] at *); all_goals omega)), (by focus ((try clear hq); simp only [vp_in_iff, Int32.lt_iff_toInt_lt, Int32.le_iff_toInt_le, ← Int32.toInt_inj, Int32.toInt_add, Int32.toInt_sub, Int32.toInt_mul, Int32.toInt_neg, pq_NuO, pq_NuI, pq_NuJ, pq_NuR, pq_shr6, pq_shr7, pq_shr8, lqm1, lq0, lq1, lq7] at *; (try simp (disch := omega) only [pq_bm] at *); all_goals omega)), ⟨fun _ w hv9 => hq w (by clear hq; focus ((try clear hq); simp only [vp_in_iff, Int32.lt_iff_toInt_lt, Int32.le_iff_toInt_le, ← Int32.toInt_inj, Int32.toInt_add, Int32.toInt_sub, Int32.toInt_mul, Int32.toInt_neg, pq_NuO, pq_NuI, pq_NuJ, pq_NuR, pq_shr6, pq_shr7, pq_shr8, lqm1, lq0, lq1, lq7] at *; (try simp (disch := omega) only [pq_bm] at *); all_goals omega)), fun _ => rfl⟩⟩) dX10_sameRow_35
      · skip
        refine pq_aload_n F dX10_sameRow_10 rfl rfl ?_
        refine pq_iload_n F dX10_sameRow_11 rfl rfl ?_
        refine pq_iload F dX10_sameRow_12 rfl ?_
        refine pq_iadd F dX10_sameRow_14 ?_
        refine pq_lald F hb kb0 kb1 rfl (fun n1_15 n2_15 => (by focus ((try clear hq); simp only [vp_in_iff, Int32.lt_iff_toInt_lt, Int32.le_iff_toInt_le, ← Int32.toInt_inj, Int32.toInt_add, Int32.toInt_sub, Int32.toInt_mul, Int32.toInt_neg, pq_NuO, pq_NuI, pq_NuJ, pq_NuR, pq_shr6, pq_shr7, pq_shr8, lqm1, lq0, lq1, lq7] at *; (try simp (disch := omega) only [pq_bm] at *); all_goals omega))) dX10_sameRow_15 (fun x15 e15 => ?_)
        refine pq_aload_n F dX10_sameRow_16 rfl rfl ?_
        refine pq_iload_n F dX10_sameRow_17 rfl rfl ?_
        refine pq_iload F dX10_sameRow_18 rfl ?_
        refine pq_iadd F dX10_sameRow_20 ?_
        refine pq_lald F hot kot0 kot1 rfl (fun n1_21 n2_21 => (by focus ((try clear hq); simp only [vp_in_iff, Int32.lt_iff_toInt_lt, Int32.le_iff_toInt_le, ← Int32.toInt_inj, Int32.toInt_add, Int32.toInt_sub, Int32.toInt_mul, Int32.toInt_neg, pq_NuO, pq_NuI, pq_NuJ, pq_NuR, pq_shr6, pq_shr7, pq_shr8, lqm1, lq0, lq1, lq7] at *; (try simp (disch := omega) only [pq_bm] at *); all_goals omega))) dX10_sameRow_21 (fun x21 e21 => ?_)
        refine pq_lcmp F dX10_sameRow_22 ?_
        refine pq_if_eq (tgt := 28) F dX10_sameRow_23 (by decide) (fun c23 => ?_) (fun c23 => ?_)
        · skip
          refine pq_iinc (v := 1) F dX10_sameRow_28 rfl (by decide) (by decide) ?_
          refine pq_goto (tgt := 3) F dX10_sameRow_31 (by decide) ?_
          exact pq_fgm [true, true, true, true, true] (ih _ (by focus ((try clear hq); simp only [vp_in_iff, Int32.lt_iff_toInt_lt, Int32.le_iff_toInt_le, ← Int32.toInt_inj, Int32.toInt_add, Int32.toInt_sub, Int32.toInt_mul, Int32.toInt_neg, pq_NuO, pq_NuI, pq_NuJ, pq_NuR, pq_shr6, pq_shr7, pq_shr8, lqm1, lq0, lq1, lq7] at *; (try simp (disch := omega) only [pq_bm] at *); all_goals omega)) (by focus ((try clear hq); simp only [vp_in_iff, Int32.lt_iff_toInt_lt, Int32.le_iff_toInt_le, ← Int32.toInt_inj, Int32.toInt_add, Int32.toInt_sub, Int32.toInt_mul, Int32.toInt_neg, pq_NuO, pq_NuI, pq_NuJ, pq_NuR, pq_shr6, pq_shr7, pq_shr8, lqm1, lq0, lq1, lq7] at *; (try simp (disch := omega) only [pq_bm] at *); all_goals omega)) (fun w hv9 => (by by_cases e : w = k.toNatClampNeg; (rw [e, ← ix1, ← ix2, ← e15, ← e21]; exact tk_cmp.mp c23); exact hq w (by clear hq; focus ((try clear hq); simp only [vp_in_iff, Int32.lt_iff_toInt_lt, Int32.le_iff_toInt_le, ← Int32.toInt_inj, Int32.toInt_add, Int32.toInt_sub, Int32.toInt_mul, Int32.toInt_neg, pq_NuO, pq_NuI, pq_NuJ, pq_NuR, pq_shr6, pq_shr7, pq_shr8, lqm1, lq0, lq1, lq7] at *; (try simp (disch := omega) only [pq_bm] at *); all_goals omega)))) (by focus ((try clear hq); simp only [vp_in_iff, Int32.lt_iff_toInt_lt, Int32.le_iff_toInt_le, ← Int32.toInt_inj, Int32.toInt_add, Int32.toInt_sub, Int32.toInt_mul, Int32.toInt_neg, pq_NuO, pq_NuI, pq_NuJ, pq_NuR, pq_shr6, pq_shr7, pq_shr8, lqm1, lq0, lq1, lq7] at *; (try simp (disch := omega) only [pq_bm] at *); all_goals omega)))
        · skip
          refine pq_iconst (v := 0) F dX10_sameRow_26 (by decide) ?_
          exact pq_zret F hr hlk hA rfl (Nat.le_refl _) (Nat.le_refl _) (⟨rfl, 0, rfl, (by focus ((try clear hq); simp only [vp_in_iff, Int32.lt_iff_toInt_lt, Int32.le_iff_toInt_le, ← Int32.toInt_inj, Int32.toInt_add, Int32.toInt_sub, Int32.toInt_mul, Int32.toInt_neg, pq_NuO, pq_NuI, pq_NuJ, pq_NuR, pq_shr6, pq_shr7, pq_shr8, lqm1, lq0, lq1, lq7] at *; (try simp (disch := omega) only [pq_bm] at *); all_goals omega)), (by focus ((try clear hq); simp only [vp_in_iff, Int32.lt_iff_toInt_lt, Int32.le_iff_toInt_le, ← Int32.toInt_inj, Int32.toInt_add, Int32.toInt_sub, Int32.toInt_mul, Int32.toInt_neg, pq_NuO, pq_NuI, pq_NuJ, pq_NuR, pq_shr6, pq_shr7, pq_shr8, lqm1, lq0, lq1, lq7] at *; (try simp (disch := omega) only [pq_bm] at *); all_goals omega)), ⟨fun w => absurd w (by decide), fun w => absurd (tk_cmp.mpr (by rw [e15, e21, ix1, ix2]; exact w k.toNatClampNeg (by clear w; focus ((try clear hq); simp only [vp_in_iff, Int32.lt_iff_toInt_lt, Int32.le_iff_toInt_le, ← Int32.toInt_inj, Int32.toInt_add, Int32.toInt_sub, Int32.toInt_mul, Int32.toInt_neg, pq_NuO, pq_NuI, pq_NuJ, pq_NuR, pq_shr6, pq_shr7, pq_shr8, lqm1, lq0, lq1, lq7] at *; (try simp (disch := omega) only [pq_bm] at *); all_goals omega)))) c23⟩⟩) dX10_sameRow_27
  refine pq_iconst (v := 0) F dX10_sameRow_0 (by decide) ?_
  refine pq_istore F dX10_sameRow_1 (by decide) ?_
  exact pq_fgm [true, true, true, true, true] (L3  100000 _  (by focus ((try clear hq); simp only [vp_in_iff, Int32.lt_iff_toInt_lt, Int32.le_iff_toInt_le, ← Int32.toInt_inj, Int32.toInt_add, Int32.toInt_sub, Int32.toInt_mul, Int32.toInt_neg, pq_NuO, pq_NuI, pq_NuJ, pq_NuR, pq_shr6, pq_shr7, pq_shr8, lqm1, lq0, lq1, lq7] at *; (try simp (disch := omega) only [pq_bm] at *); all_goals omega)) (by focus ((try clear hq); simp only [vp_in_iff, Int32.lt_iff_toInt_lt, Int32.le_iff_toInt_le, ← Int32.toInt_inj, Int32.toInt_add, Int32.toInt_sub, Int32.toInt_mul, Int32.toInt_neg, pq_NuO, pq_NuI, pq_NuJ, pq_NuR, pq_shr6, pq_shr7, pq_shr8, lqm1, lq0, lq1, lq7] at *; (try simp (disch := omega) only [pq_bm] at *); all_goals omega)) (fun w hv9 => absurd hv9 (by focus ((try clear hq); simp only [vp_in_iff, Int32.lt_iff_toInt_lt, Int32.le_iff_toInt_le, ← Int32.toInt_inj, Int32.toInt_add, Int32.toInt_sub, Int32.toInt_mul, Int32.toInt_neg, pq_NuO, pq_NuI, pq_NuJ, pq_NuR, pq_shr6, pq_shr7, pq_shr8, lqm1, lq0, lq1, lq7] at *; (try simp (disch := omega) only [pq_bm] at *); all_goals omega))) (by focus ((try clear hq); simp only [vp_in_iff, Int32.lt_iff_toInt_lt, Int32.le_iff_toInt_le, ← Int32.toInt_inj, Int32.toInt_add, Int32.toInt_sub, Int32.toInt_mul, Int32.toInt_neg, pq_NuO, pq_NuI, pq_NuJ, pq_NuR, pq_shr6, pq_shr7, pq_shr8, lqm1, lq0, lq1, lq7] at *; (try simp (disch := omega) only [pq_bm] at *); all_goals omega)))

set_option maxHeartbeats 4000000 in
set_option maxRecDepth 100000 in
theorem k_J7_fillRG (l : Launch) (D : va_G) (cy : Nat → ClassId) (S : HS) (b rb : Nat) (hb : pq_R S b rb) (kb0 : 180 ≤ rb) (kb1 : rb < 200) (lo : Int32) (hlo0 : 0 ≤ lo.toInt) (hi : Int32) (vv : Int64) (h1 : lo.toInt ≤ hi.toInt) (h2 : hi.toInt ≤ (hN S b : Int)) (hb9 : hN S b ≤ 1000000) : pq_C l D cy yJ7_fill_bad5a cJ7_fill_bad5a 6 (none) 2 0 0 S [.ref b, .int lo, .int hi, .long vv] (fun v S2 => v = none ∧ ∃ f : Nat → Int64, S2 = pq_uJ S b f ∧ ((∀ i : Nat, lo.toInt ≤ (i : Int) → (i : Int) < hi.toInt → f i = vv) ∧ ∀ i : Nat, ((i : Int) < lo.toInt ∨ hi.toInt ≤ (i : Int)) → f i = hJ S b i)) := by
  refine pq_start (by decide) (Nat.le_of_ble_eq_true rfl) ?_
  intro p e s m args below meth c A F hr hlk hnm hA
  have lqm1 : (-1 : Int32).toInt = -1 := rfl
  have lq0 : (0 : Int32).toInt = 0 := rfl
  have lq1 : (1 : Int32).toInt = 1 := rfl
  have L10 : ∀  (fu : Nat) (S1 : HS) (k : Int32)  (hF : ∃ f : Nat → Int64, S1 = pq_uJ S b f ∧ (∀ i : Nat, lo.toInt ≤ (i : Int) → (i : Int) < k.toInt → f i = vv) ∧ ∀ i : Nat, ((i : Int) < lo.toInt ∨ k.toInt ≤ (i : Int)) → f i = hJ S b i) (hk0 : lo.toInt ≤ k.toInt) (hk1 : k.toInt ≤ hi.toInt), (hi.toInt - k.toInt).toNat < fu → pq_At p l e (pq_rm 2 0 0) s m args below meth c (pq_Z below args s D cy S 0 0 (fun v S2 => v = none ∧ ∃ f : Nat → Int64, S2 = pq_uJ S b f ∧ ((∀ i : Nat, lo.toInt ≤ (i : Int) → (i : Int) < hi.toInt → f i = vv) ∧ ∀ i : Nat, ((i : Int) < lo.toInt ∨ hi.toInt ≤ (i : Int)) → f i = hJ S b i))) D cy A 6 0 0 10 S1 [some (.ref b), some (.int lo), some (.int hi), some (.long vv), none, some (.int k)] [] := by
    intro  fu
    induction fu with
    | zero => intro S1 k hF hk0 hk1 hm; exact absurd hm (Nat.not_lt_zero _)
    | succ fu ih =>
      intro S1 k hF hk0 hk1 hm
      obtain ⟨f0, rfl, hf1, hf2⟩ := hF
      have ck := pq_cl (x := k) (by focus ((try clear hf1); (try clear hf2); simp only [vp_in_iff, Int32.lt_iff_toInt_lt, Int32.le_iff_toInt_le, ← Int32.toInt_inj, Int32.toInt_add, Int32.toInt_sub, Int32.toInt_mul, Int32.toInt_neg, pq_NuO, pq_NuI, pq_NuJ, pq_NuR, pq_shr6, pq_shr7, pq_shr8, lqm1, lq0, lq1] at *; (try simp (disch := omega) only [pq_bm] at *); all_goals omega))
      have hbL := hb
      refine pq_iload F dJ7_fill_bad5a_10 rfl ?_
      refine pq_iload_n F dJ7_fill_bad5a_12 rfl rfl ?_
      refine pq_icmp_ge (tgt := 27) F dJ7_fill_bad5a_13 (by decide) (fun c13 => ?_) (fun c13 => ?_)
      · skip
        exact pq_vret F hr hlk hA (Nat.le_refl _) (Nat.le_refl _) (⟨rfl, _, rfl, (fun i a1 a2 => hf1 i a1 (by focus ((try clear hf1); (try clear hf2); simp only [vp_in_iff, Int32.lt_iff_toInt_lt, Int32.le_iff_toInt_le, ← Int32.toInt_inj, Int32.toInt_add, Int32.toInt_sub, Int32.toInt_mul, Int32.toInt_neg, pq_NuO, pq_NuI, pq_NuJ, pq_NuR, pq_shr6, pq_shr7, pq_shr8, lqm1, lq0, lq1] at *; (try simp (disch := omega) only [pq_bm] at *); all_goals omega))), (fun i a1 => hf2 i (by focus ((try clear hf1); (try clear hf2); simp only [vp_in_iff, Int32.lt_iff_toInt_lt, Int32.le_iff_toInt_le, ← Int32.toInt_inj, Int32.toInt_add, Int32.toInt_sub, Int32.toInt_mul, Int32.toInt_neg, pq_NuO, pq_NuI, pq_NuJ, pq_NuR, pq_shr6, pq_shr7, pq_shr8, lqm1, lq0, lq1] at *; (try simp (disch := omega) only [pq_bm] at *); all_goals omega)))⟩) dJ7_fill_bad5a_27
      · skip
        refine pq_aload_n F dJ7_fill_bad5a_16 rfl rfl ?_
        refine pq_iload F dJ7_fill_bad5a_17 rfl ?_
        refine pq_lload_n F dJ7_fill_bad5a_19 rfl rfl ?_
        refine pq_last F hbL kb0 kb1 rfl (fun n1_20 n2_20 => (by focus ((try clear hf1); (try clear hf2); simp only [vp_in_iff, Int32.lt_iff_toInt_lt, Int32.le_iff_toInt_le, ← Int32.toInt_inj, Int32.toInt_add, Int32.toInt_sub, Int32.toInt_mul, Int32.toInt_neg, pq_NuO, pq_NuI, pq_NuJ, pq_NuR, pq_shr6, pq_shr7, pq_shr8, lqm1, lq0, lq1] at *; (try simp (disch := omega) only [pq_bm] at *); all_goals omega))) dJ7_fill_bad5a_20 ?_
        refine pq_iinc (v := 1) F dJ7_fill_bad5a_21 rfl (by decide) (by decide) ?_
        refine pq_goto (tgt := 10) F dJ7_fill_bad5a_24 (by decide) ?_
        exact pq_fgm [true, true, true, true, false, true] (ih _ _ ⟨_, pq_uJJ, (fun i a1 a2 => (by rw [pq_Ja]; by_cases e : i = k.toNatClampNeg; (rw [e, pk_uLs]); (rw [pk_uLn e]; exact hf1 i a1 (by focus ((try clear hf1); (try clear hf2); simp only [vp_in_iff, Int32.lt_iff_toInt_lt, Int32.le_iff_toInt_le, ← Int32.toInt_inj, Int32.toInt_add, Int32.toInt_sub, Int32.toInt_mul, Int32.toInt_neg, pq_NuO, pq_NuI, pq_NuJ, pq_NuR, pq_shr6, pq_shr7, pq_shr8, lqm1, lq0, lq1] at *; (try simp (disch := omega) only [pq_bm] at *); all_goals omega))))), (fun i a1 => (by rw [pq_Ja, pk_uLn (by focus ((try clear hf1); (try clear hf2); simp only [vp_in_iff, Int32.lt_iff_toInt_lt, Int32.le_iff_toInt_le, ← Int32.toInt_inj, Int32.toInt_add, Int32.toInt_sub, Int32.toInt_mul, Int32.toInt_neg, pq_NuO, pq_NuI, pq_NuJ, pq_NuR, pq_shr6, pq_shr7, pq_shr8, lqm1, lq0, lq1] at *; (try simp (disch := omega) only [pq_bm] at *); all_goals omega))]; exact hf2 i (by focus ((try clear hf1); (try clear hf2); simp only [vp_in_iff, Int32.lt_iff_toInt_lt, Int32.le_iff_toInt_le, ← Int32.toInt_inj, Int32.toInt_add, Int32.toInt_sub, Int32.toInt_mul, Int32.toInt_neg, pq_NuO, pq_NuI, pq_NuJ, pq_NuR, pq_shr6, pq_shr7, pq_shr8, lqm1, lq0, lq1] at *; (try simp (disch := omega) only [pq_bm] at *); all_goals omega))))⟩ (by focus ((try clear hf1); (try clear hf2); simp only [vp_in_iff, Int32.lt_iff_toInt_lt, Int32.le_iff_toInt_le, ← Int32.toInt_inj, Int32.toInt_add, Int32.toInt_sub, Int32.toInt_mul, Int32.toInt_neg, pq_NuO, pq_NuI, pq_NuJ, pq_NuR, pq_shr6, pq_shr7, pq_shr8, lqm1, lq0, lq1] at *; (try simp (disch := omega) only [pq_bm] at *); all_goals omega)) (by focus ((try clear hf1); (try clear hf2); simp only [vp_in_iff, Int32.lt_iff_toInt_lt, Int32.le_iff_toInt_le, ← Int32.toInt_inj, Int32.toInt_add, Int32.toInt_sub, Int32.toInt_mul, Int32.toInt_neg, pq_NuO, pq_NuI, pq_NuJ, pq_NuR, pq_shr6, pq_shr7, pq_shr8, lqm1, lq0, lq1] at *; (try simp (disch := omega) only [pq_bm] at *); all_goals omega)) (by focus ((try clear hf1); (try clear hf2); simp only [vp_in_iff, Int32.lt_iff_toInt_lt, Int32.le_iff_toInt_le, ← Int32.toInt_inj, Int32.toInt_add, Int32.toInt_sub, Int32.toInt_mul, Int32.toInt_neg, pq_NuO, pq_NuI, pq_NuJ, pq_NuR, pq_shr6, pq_shr7, pq_shr8, lqm1, lq0, lq1] at *; (try simp (disch := omega) only [pq_bm] at *); all_goals omega)))
  refine pq_aload_n F dJ7_fill_bad5a_0 rfl rfl ?_
  refine pq_alen F hb (by omega) rfl dJ7_fill_bad5a_1 (fun l1 u1 => ?_)
  skip
  refine pq_iload_n F dJ7_fill_bad5a_2 rfl rfl ?_
  refine pq_iload_n F dJ7_fill_bad5a_3 rfl rfl ?_
  have nq1 := nI_toInt (n := hN S b) (by omega)
  refine pq_callS (As := [_, _, _]) F (k_J7_rangeCheck_23922 l D cy _ _ _ ?_ _ ?_ ?_) ml_J7_13 (Nat.le_of_ble_eq_true rfl) ⟨Nat.le_of_ble_eq_true rfl, Nat.le_of_ble_eq_true rfl⟩ ⟨by decide, by decide⟩ dJ7_fill_bad5a_4 (fun v4 S4 w4 => ?_)
  · focus ((try clear hf1); (try clear hf2); simp only [vp_in_iff, Int32.lt_iff_toInt_lt, Int32.le_iff_toInt_le, ← Int32.toInt_inj, Int32.toInt_add, Int32.toInt_sub, Int32.toInt_mul, Int32.toInt_neg, pq_NuO, pq_NuI, pq_NuJ, pq_NuR, pq_shr6, pq_shr7, pq_shr8, lqm1, lq0, lq1] at *; (try simp (disch := omega) only [pq_bm] at *); all_goals omega)
  · focus ((try clear hf1); (try clear hf2); simp only [vp_in_iff, Int32.lt_iff_toInt_lt, Int32.le_iff_toInt_le, ← Int32.toInt_inj, Int32.toInt_add, Int32.toInt_sub, Int32.toInt_mul, Int32.toInt_neg, pq_NuO, pq_NuI, pq_NuJ, pq_NuR, pq_shr6, pq_shr7, pq_shr8, lqm1, lq0, lq1] at *; (try simp (disch := omega) only [pq_bm] at *); all_goals omega)
  · focus ((try clear hf1); (try clear hf2); simp only [vp_in_iff, Int32.lt_iff_toInt_lt, Int32.le_iff_toInt_le, ← Int32.toInt_inj, Int32.toInt_add, Int32.toInt_sub, Int32.toInt_mul, Int32.toInt_neg, pq_NuO, pq_NuI, pq_NuJ, pq_NuR, pq_shr6, pq_shr7, pq_shr8, lqm1, lq0, lq1] at *; (try simp (disch := omega) only [pq_bm] at *); all_goals omega)
  obtain ⟨rfl, u4⟩ := w4
  rw [u4]
  refine pq_iload_n F dJ7_fill_bad5a_7 rfl rfl ?_
  refine pq_istore F dJ7_fill_bad5a_8 (by decide) ?_
  exact pq_fgm [true, true, true, true, false, true] (L10 (hN S b + 1) _ _ ⟨_, pq_uJs, (fun i a1 a2 => absurd a1 (by focus ((try clear hf1); (try clear hf2); simp only [vp_in_iff, Int32.lt_iff_toInt_lt, Int32.le_iff_toInt_le, ← Int32.toInt_inj, Int32.toInt_add, Int32.toInt_sub, Int32.toInt_mul, Int32.toInt_neg, pq_NuO, pq_NuI, pq_NuJ, pq_NuR, pq_shr6, pq_shr7, pq_shr8, lqm1, lq0, lq1] at *; (try simp (disch := omega) only [pq_bm] at *); all_goals omega))), (fun _ _ => rfl)⟩ (by focus ((try clear hf1); (try clear hf2); simp only [vp_in_iff, Int32.lt_iff_toInt_lt, Int32.le_iff_toInt_le, ← Int32.toInt_inj, Int32.toInt_add, Int32.toInt_sub, Int32.toInt_mul, Int32.toInt_neg, pq_NuO, pq_NuI, pq_NuJ, pq_NuR, pq_shr6, pq_shr7, pq_shr8, lqm1, lq0, lq1] at *; (try simp (disch := omega) only [pq_bm] at *); all_goals omega)) (by focus ((try clear hf1); (try clear hf2); simp only [vp_in_iff, Int32.lt_iff_toInt_lt, Int32.le_iff_toInt_le, ← Int32.toInt_inj, Int32.toInt_add, Int32.toInt_sub, Int32.toInt_mul, Int32.toInt_neg, pq_NuO, pq_NuI, pq_NuJ, pq_NuR, pq_shr6, pq_shr7, pq_shr8, lqm1, lq0, lq1] at *; (try simp (disch := omega) only [pq_bm] at *); all_goals omega)) (by focus ((try clear hf1); (try clear hf2); simp only [vp_in_iff, Int32.lt_iff_toInt_lt, Int32.le_iff_toInt_le, ← Int32.toInt_inj, Int32.toInt_add, Int32.toInt_sub, Int32.toInt_mul, Int32.toInt_neg, pq_NuO, pq_NuI, pq_NuJ, pq_NuR, pq_shr6, pq_shr7, pq_shr8, lqm1, lq0, lq1] at *; (try simp (disch := omega) only [pq_bm] at *); all_goals omega)))

set_option maxHeartbeats 4000000 in
set_option maxRecDepth 100000 in
theorem k_X9_byteAtG (l : Launch) (D : va_G) (cy : Nat → ClassId) (S : HS) (a : Nat) (ha : pq_R S a 12) (i : Int32) (tb n k : Nat) (t : Int32) (f0 : hO S a 0 = .ref tb) (htb : pq_R S tb 104) (ft : hO S a 1 = .int t) (hn : t.toInt = (n : Int)) (hk : i.toInt = (k : Int)) (hn2 : n ≤ 2048) : pq_C l D cy yX9_byteAt cX9_byteAt 2 (some .int) 1 0 0 S [.ref a, .int i] (fun v S2 => S2 = S ∧ ∃ x : Int32, v = some (.int x) ∧ -1 ≤ x.toInt ∧ x.toInt ≤ 255 ∧ (x = tk_bc (hI S tb) n k ∧ (k < n → -128 ≤ (hI S tb k).toInt ∧ (hI S tb k).toInt ≤ 127))) := by
  refine pq_start (by decide) (Nat.le_of_ble_eq_true rfl) ?_
  intro p e s m args below meth c A F hr hlk hnm hA
  have lqm1 : (-1 : Int32).toInt = -1 := rfl
  have lq0 : (0 : Int32).toInt = 0 := rfl
  have lq1 : (1 : Int32).toInt = 1 := rfl
  have lq255 : (255 : Int32).toInt = 255 := rfl
  refine pq_iload_n F dX9_byteAt_0 rfl rfl ?_
  refine pq_if_lt (tgt := 25) F dX9_byteAt_1 (by decide) (fun c1 => ?_) (fun c1 => ?_)
  · skip
    refine pq_iconst (v := -1) F dX9_byteAt_25 (by decide) ?_
    exact pq_iret F hr hlk hA (Nat.le_refl _) (Nat.le_refl _) (⟨rfl, -1, rfl, (by focus (simp only [vp_in_iff, Int32.lt_iff_toInt_lt, Int32.le_iff_toInt_le, ← Int32.toInt_inj, Int32.toInt_add, Int32.toInt_sub, Int32.toInt_mul, Int32.toInt_neg, pq_NuO, pq_NuI, pq_NuJ, pq_NuR, pq_shr6, pq_shr7, pq_shr8, lqm1, lq0, lq1, lq255] at *; (try simp (disch := omega) only [pq_bm] at *); all_goals omega)), (by focus (simp only [vp_in_iff, Int32.lt_iff_toInt_lt, Int32.le_iff_toInt_le, ← Int32.toInt_inj, Int32.toInt_add, Int32.toInt_sub, Int32.toInt_mul, Int32.toInt_neg, pq_NuO, pq_NuI, pq_NuJ, pq_NuR, pq_shr6, pq_shr7, pq_shr8, lqm1, lq0, lq1, lq255] at *; (try simp (disch := omega) only [pq_bm] at *); all_goals omega)), (by exfalso; focus (simp only [vp_in_iff, Int32.lt_iff_toInt_lt, Int32.le_iff_toInt_le, ← Int32.toInt_inj, Int32.toInt_add, Int32.toInt_sub, Int32.toInt_mul, Int32.toInt_neg, pq_NuO, pq_NuI, pq_NuJ, pq_NuR, pq_shr6, pq_shr7, pq_shr8, lqm1, lq0, lq1, lq255] at *; (try simp (disch := omega) only [pq_bm] at *); all_goals omega))⟩) dX9_byteAt_26
  · skip
    refine pq_iload_n F dX9_byteAt_4 rfl rfl ?_
    refine pq_aload_n F dX9_byteAt_5 rfl rfl ?_
    refine pq_get F ha (by decide) lk_X9_15 ft dX9_byteAt_6 ?_
    refine pq_icmp_ge (tgt := 25) F dX9_byteAt_9 (by decide) (fun c9 => ?_) (fun c9 => ?_)
    · skip
      refine pq_iconst (v := -1) F dX9_byteAt_25 (by decide) ?_
      exact pq_iret F hr hlk hA (Nat.le_refl _) (Nat.le_refl _) (⟨rfl, -1, rfl, (by focus (simp only [vp_in_iff, Int32.lt_iff_toInt_lt, Int32.le_iff_toInt_le, ← Int32.toInt_inj, Int32.toInt_add, Int32.toInt_sub, Int32.toInt_mul, Int32.toInt_neg, pq_NuO, pq_NuI, pq_NuJ, pq_NuR, pq_shr6, pq_shr7, pq_shr8, lqm1, lq0, lq1, lq255] at *; (try simp (disch := omega) only [pq_bm] at *); all_goals omega)), (by focus (simp only [vp_in_iff, Int32.lt_iff_toInt_lt, Int32.le_iff_toInt_le, ← Int32.toInt_inj, Int32.toInt_add, Int32.toInt_sub, Int32.toInt_mul, Int32.toInt_neg, pq_NuO, pq_NuI, pq_NuJ, pq_NuR, pq_shr6, pq_shr7, pq_shr8, lqm1, lq0, lq1, lq255] at *; (try simp (disch := omega) only [pq_bm] at *); all_goals omega)), (if_neg (by focus (simp only [vp_in_iff, Int32.lt_iff_toInt_lt, Int32.le_iff_toInt_le, ← Int32.toInt_inj, Int32.toInt_add, Int32.toInt_sub, Int32.toInt_mul, Int32.toInt_neg, pq_NuO, pq_NuI, pq_NuJ, pq_NuR, pq_shr6, pq_shr7, pq_shr8, lqm1, lq0, lq1, lq255] at *; (try simp (disch := omega) only [pq_bm] at *); all_goals omega))).symm, fun w => absurd w (by focus (simp only [vp_in_iff, Int32.lt_iff_toInt_lt, Int32.le_iff_toInt_le, ← Int32.toInt_inj, Int32.toInt_add, Int32.toInt_sub, Int32.toInt_mul, Int32.toInt_neg, pq_NuO, pq_NuI, pq_NuJ, pq_NuR, pq_shr6, pq_shr7, pq_shr8, lqm1, lq0, lq1, lq255] at *; (try simp (disch := omega) only [pq_bm] at *); all_goals omega))⟩) dX9_byteAt_26
    · skip
      refine pq_aload_n F dX9_byteAt_12 rfl rfl ?_
      refine pq_get F ha (by decide) lk_X9_9 f0 dX9_byteAt_13 ?_
      refine pq_iload_n F dX9_byteAt_16 rfl rfl ?_
      refine pq_bald F htb (by decide) (by decide) rfl (fun n1_17 n2_17 => (by focus (simp only [vp_in_iff, Int32.lt_iff_toInt_lt, Int32.le_iff_toInt_le, ← Int32.toInt_inj, Int32.toInt_add, Int32.toInt_sub, Int32.toInt_mul, Int32.toInt_neg, pq_NuO, pq_NuI, pq_NuJ, pq_NuR, pq_shr6, pq_shr7, pq_shr8, lqm1, lq0, lq1, lq255] at *; (try simp (disch := omega) only [pq_bm] at *); all_goals omega))) dX9_byteAt_17 (fun x17 e17 l17 u17 => ?_)
      refine pq_sipush (v := 255) F dX9_byteAt_18 (by decide) ?_
      have z17 := pq_and255 x17
      refine pq_iand F dX9_byteAt_21 ?_
      refine pq_goto (tgt := 26) F dX9_byteAt_22 (by decide) ?_
      exact pq_iret F hr hlk hA (Nat.le_refl _) (Nat.le_refl _) (⟨rfl, _, rfl, (by focus (simp only [vp_in_iff, Int32.lt_iff_toInt_lt, Int32.le_iff_toInt_le, ← Int32.toInt_inj, Int32.toInt_add, Int32.toInt_sub, Int32.toInt_mul, Int32.toInt_neg, pq_NuO, pq_NuI, pq_NuJ, pq_NuR, pq_shr6, pq_shr7, pq_shr8, lqm1, lq0, lq1, lq255] at *; (try simp (disch := omega) only [pq_bm] at *); all_goals omega)), z17.2, (by unfold tk_bc; rw [if_pos (by focus (simp only [vp_in_iff, Int32.lt_iff_toInt_lt, Int32.le_iff_toInt_le, ← Int32.toInt_inj, Int32.toInt_add, Int32.toInt_sub, Int32.toInt_mul, Int32.toInt_neg, pq_NuO, pq_NuI, pq_NuJ, pq_NuR, pq_shr6, pq_shr7, pq_shr8, lqm1, lq0, lq1, lq255] at *; (try simp (disch := omega) only [pq_bm] at *); all_goals omega)), e17, tk_ix hk]), fun _ => (by rw [e17, tk_ix hk] at l17 u17; exact ⟨l17, u17⟩)⟩) dX9_byteAt_26

