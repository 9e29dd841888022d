theorem tk_ix {x : Int32} {k : Nat} (h : x.toInt = (k : Int)) : x.toNatClampNeg = k := by
  have := pq_cl (x := x) (by omega)
  omega
theorem tk_by0 {T : Nat → Int32} {n k : Nat} (h : n ≤ k) : (-1 : Int32) = tr_by T n k := (if_neg (Nat.not_lt.mpr h)).symm
theorem tk_by1 {T : Nat → Int32} {n k : Nat} {x y : Int32} (h : k < n) (hk : y.toInt = (k : Int)) (e : x = T y.toNatClampNeg) : x = tr_by T n k := by
  rw [e, tk_ix hk]
  exact (if_pos h).symm
def tk_sl (i : Nat) : List Int32 := (pq_sg i).2.2.2
theorem tk_i8 {c : Int32} (h0 : 0 ≤ c.toInt) (h1 : c.toInt < 256) : c.toInt8.toInt32.toInt = if c.toInt < 128 then c.toInt else c.toInt - 256 := by
  rw [Int8.toInt_toInt32, Int32.toInt_toInt8]
  split <;> (simp only [Int.bmod]; omega)
theorem tk_sla : ∀ i, i < 6 → ∀ x ∈ tk_sl i, 0 ≤ x.toInt ∧ x.toInt < 128 := by decide +kernel
theorem tk_mem {l : List Int32} {c : Int32} (h : ∀ j, j < l.length → l.getD j 0 ≠ c) : c ∉ l := fun z => by
  obtain ⟨j, hj, e⟩ := List.getElem_of_mem z
  exact h j hj (by rw [List.getD_eq_getElem?_getD, List.getElem?_eq_getElem hj]; exact e)
theorem tk_mem2 {l : List Int32} {j : Nat} (h : j < l.length) : l.getD j 0 ∈ l := by
  rw [List.getD_eq_getElem?_getD, List.getElem?_eq_getElem h]
  exact List.getElem_mem h

set_option maxHeartbeats 4000000 in
set_option maxRecDepth 100000 in
theorem k_J1_canEncodeG (l : Launch) (D : va_G) (cy : Nat → ClassId) (S : HS) (ch : Int32) : pq_C l D cy yJ1_canEncode_9a6ad cJ1_canEncode_9a6ad 1 (some .boolean) 1 0 0 S [.int ch] (fun v S2 => S2 = S ∧ ∃ x : Int32, v = some (.int x) ∧ 0 ≤ x.toInt ∧ x.toInt ≤ 1 ∧ (x = 1 ↔ (0 ≤ ch.toInt ∧ ch.toInt < 256))) := by
  refine pq_start (by decide) (Nat.le_of_ble_eq_true rfl) ?_
  intro p e s m args below meth c A F hr hlk hnm hA
  have lqm1 : (-1 : Int32).toInt = -1 := rfl
  have lq0 : (0 : Int32).toInt = 0 := rfl
  have lq1 : (1 : Int32).toInt = 1 := rfl
  have lq255 : (255 : Int32).toInt = 255 := rfl
  refine pq_iload_n F dJ1_canEncode_9a6ad_0 rfl rfl ?_
  refine pq_if_lt (tgt := 15) F dJ1_canEncode_9a6ad_1 (by decide) (fun c1 => ?_) (fun c1 => ?_)
  · skip
    refine pq_iconst (v := 0) F dJ1_canEncode_9a6ad_15 (by decide) ?_
    exact pq_zret F hr hlk hA rfl (Nat.le_refl _) (Nat.le_refl _) (⟨rfl, 0, rfl, (by focus (simp only [vp_in_iff, Int32.lt_iff_toInt_lt, Int32.le_iff_toInt_le, ← Int32.toInt_inj, Int32.toInt_add, Int32.toInt_sub, Int32.toInt_mul, Int32.toInt_neg, pq_NuO, pq_NuI, pq_NuJ, pq_NuR, pq_shr6, pq_shr7, pq_shr8, lqm1, lq0, lq1, lq255] at *; (try simp (disch := omega) only [pq_bm] at *); all_goals omega)), (by focus (simp only [vp_in_iff, Int32.lt_iff_toInt_lt, Int32.le_iff_toInt_le, ← Int32.toInt_inj, Int32.toInt_add, Int32.toInt_sub, Int32.toInt_mul, Int32.toInt_neg, pq_NuO, pq_NuI, pq_NuJ, pq_NuR, pq_shr6, pq_shr7, pq_shr8, lqm1, lq0, lq1, lq255] at *; (try simp (disch := omega) only [pq_bm] at *); all_goals omega)), ⟨fun z => absurd z (by decide), fun z => absurd z (fun z => (by focus (simp only [vp_in_iff, Int32.lt_iff_toInt_lt, Int32.le_iff_toInt_le, ← Int32.toInt_inj, Int32.toInt_add, Int32.toInt_sub, Int32.toInt_mul, Int32.toInt_neg, pq_NuO, pq_NuI, pq_NuJ, pq_NuR, pq_shr6, pq_shr7, pq_shr8, lqm1, lq0, lq1, lq255] at *; (try simp (disch := omega) only [pq_bm] at *); all_goals omega)))⟩⟩) dJ1_canEncode_9a6ad_16
  · skip
    refine pq_iload_n F dJ1_canEncode_9a6ad_4 rfl rfl ?_
    refine pq_sipush (v := 255) F dJ1_canEncode_9a6ad_5 (by decide) ?_
    refine pq_icmp_gt (tgt := 15) F dJ1_canEncode_9a6ad_8 (by decide) (fun c8 => ?_) (fun c8 => ?_)
    · skip
      refine pq_iconst (v := 0) F dJ1_canEncode_9a6ad_15 (by decide) ?_
      exact pq_zret F hr hlk hA rfl (Nat.le_refl _) (Nat.le_refl _) (⟨rfl, 0, rfl, (by focus (simp only [vp_in_iff, Int32.lt_iff_toInt_lt, Int32.le_iff_toInt_le, ← Int32.toInt_inj, Int32.toInt_add, Int32.toInt_sub, Int32.toInt_mul, Int32.toInt_neg, pq_NuO, pq_NuI, pq_NuJ, pq_NuR, pq_shr6, pq_shr7, pq_shr8, lqm1, lq0, lq1, lq255] at *; (try simp (disch := omega) only [pq_bm] at *); all_goals omega)), (by focus (simp only [vp_in_iff, Int32.lt_iff_toInt_lt, Int32.le_iff_toInt_le, ← Int32.toInt_inj, Int32.toInt_add, Int32.toInt_sub, Int32.toInt_mul, Int32.toInt_neg, pq_NuO, pq_NuI, pq_NuJ, pq_NuR, pq_shr6, pq_shr7, pq_shr8, lqm1, lq0, lq1, lq255] at *; (try simp (disch := omega) only [pq_bm] at *); all_goals omega)), ⟨fun z => absurd z (by decide), fun z => absurd z (fun z => (by focus (simp only [vp_in_iff, Int32.lt_iff_toInt_lt, Int32.le_iff_toInt_le, ← Int32.toInt_inj, Int32.toInt_add, Int32.toInt_sub, Int32.toInt_mul, Int32.toInt_neg, pq_NuO, pq_NuI, pq_NuJ, pq_NuR, pq_shr6, pq_shr7, pq_shr8, lqm1, lq0, lq1, lq255] at *; (try simp (disch := omega) only [pq_bm] at *); all_goals omega)))⟩⟩) dJ1_canEncode_9a6ad_16
    · skip
      refine pq_iconst (v := 1) F dJ1_canEncode_9a6ad_11 (by decide) ?_
      refine pq_goto (tgt := 16) F dJ1_canEncode_9a6ad_12 (by decide) ?_
      exact pq_zret F hr hlk hA rfl (Nat.le_refl _) (Nat.le_refl _) (⟨rfl, 1, rfl, (by focus (simp only [vp_in_iff, Int32.lt_iff_toInt_lt, Int32.le_iff_toInt_le, ← Int32.toInt_inj, Int32.toInt_add, Int32.toInt_sub, Int32.toInt_mul, Int32.toInt_neg, pq_NuO, pq_NuI, pq_NuJ, pq_NuR, pq_shr6, pq_shr7, pq_shr8, lqm1, lq0, lq1, lq255] at *; (try simp (disch := omega) only [pq_bm] at *); all_goals omega)), (by focus (simp only [vp_in_iff, Int32.lt_iff_toInt_lt, Int32.le_iff_toInt_le, ← Int32.toInt_inj, Int32.toInt_add, Int32.toInt_sub, Int32.toInt_mul, Int32.toInt_neg, pq_NuO, pq_NuI, pq_NuJ, pq_NuR, pq_shr6, pq_shr7, pq_shr8, lqm1, lq0, lq1, lq255] at *; (try simp (disch := omega) only [pq_bm] at *); all_goals omega)), ⟨fun _ => ⟨(by focus (simp only [vp_in_iff, Int32.lt_iff_toInt_lt, Int32.le_iff_toInt_le, ← Int32.toInt_inj, Int32.toInt_add, Int32.toInt_sub, Int32.toInt_mul, Int32.toInt_neg, pq_NuO, pq_NuI, pq_NuJ, pq_NuR, pq_shr6, pq_shr7, pq_shr8, lqm1, lq0, lq1, lq255] at *; (try simp (disch := omega) only [pq_bm] at *); all_goals omega)), (by focus (simp only [vp_in_iff, Int32.lt_iff_toInt_lt, Int32.le_iff_toInt_le, ← Int32.toInt_inj, Int32.toInt_add, Int32.toInt_sub, Int32.toInt_mul, Int32.toInt_neg, pq_NuO, pq_NuI, pq_NuJ, pq_NuR, pq_shr6, pq_shr7, pq_shr8, lqm1, lq0, lq1, lq255] at *; (try simp (disch := omega) only [pq_bm] at *); all_goals omega))⟩, fun _ => rfl⟩⟩) dJ1_canEncode_9a6ad_16

set_option maxHeartbeats 4000000 in
set_option maxRecDepth 100000 in
theorem k_J1_indexOfCharG (l : Launch) (D : va_G) (cy : Nat → ClassId) (S : HS) (ki : Nat) (hki : ki < 6) (ch : Int32) (lo : Int32) (hi : Int32) (hl : lo.toInt = 0) (h1 : hi.toInt = ((pq_sg ki).2.2.2.length : Int)) : pq_C l D cy yJ1_indexOfChar_4cfef cJ1_indexOfChar_4cfef 6 (some .int) 1 0 0 S [.ref (cy (20 + ki)), .int ch, .int lo, .int hi] (fun v S2 => S2 = S ∧ ∃ x : Int32, v = some (.int x) ∧ (0 ≤ x.toInt ↔ ch.toInt8.toInt32 ∈ tk_sl ki)) := by
  refine pq_start (by decide) (Nat.le_of_ble_eq_true rfl) ?_
  intro p e s m args below meth c A F hr hlk hnm hA
  have lqm1 : (-1 : Int32).toInt = -1 := rfl
  have lq0 : (0 : Int32).toInt = 0 := rfl
  have lq1 : (1 : Int32).toInt = 1 := rfl
  have hsl := pq_sgl _ hki
  have L7 : ∀  (fu : Nat)  (k : Int32)  (hk0 : 0 ≤ k.toInt) (hk1 : k.toInt ≤ hi.toInt) (hq : ∀ j : Nat, (j : Int) < k.toInt → (tk_sl ki).getD j 0 ≠ ch.toInt8.toInt32), (hi.toInt - k.toInt).toNat < fu → pq_At p l e (pq_rm 1 0 0) s m args below meth c (pq_Z below args s D cy S 0 0 (fun v S2 => S2 = S ∧ ∃ x : Int32, v = some (.int x) ∧ (0 ≤ x.toInt ↔ ch.toInt8.toInt32 ∈ tk_sl ki))) D cy A 6 0 0 7 S [some (.ref (cy (20 + ki))), some (.int ch), some (.int lo), some (.int hi), some (.int ch.toInt8.toInt32), some (.int k)] [] := by
    intro  fu
    induction fu with
    | zero => intro k hk0 hk1 hq hm; exact absurd hm (Nat.not_lt_zero _)
    | succ fu ih =>
      intro k hk0 hk1 hq hm
      refine pq_iload F dJ1_indexOfChar_4cfef_7 rfl ?_
      refine pq_iload_n F dJ1_indexOfChar_4cfef_9 rfl rfl ?_
      refine pq_icmp_ge (tgt := 31) F dJ1_indexOfChar_4cfef_10 (by decide) (fun c10 => ?_) (fun c10 => ?_)
      · skip
        refine pq_iconst (v := -1) F dJ1_indexOfChar_4cfef_31 (by decide) ?_
        exact pq_iret F hr hlk hA (Nat.le_refl _) (Nat.le_refl _) (⟨rfl, -1, rfl, ⟨fun z => absurd z (by decide), fun z => absurd z (tk_mem (fun j hj => hq j (by have hj2 : j < (pq_sg ki).2.2.2.length := hj; focus ((try clear hq); (try clear ih); simp only [vp_in_iff, Int32.lt_iff_toInt_lt, Int32.le_iff_toInt_le, ← Int32.toInt_inj, Int32.toInt_add, Int32.toInt_sub, Int32.toInt_mul, Int32.toInt_neg, pq_NuO, pq_NuI, pq_NuJ, pq_NuR, pq_shr6, pq_shr7, pq_shr8, lqm1, lq0, lq1] at *; (try simp (disch := omega) only [pq_bm] at *); all_goals omega))))⟩⟩) dJ1_indexOfChar_4cfef_32
      · skip
        refine pq_aload_n F dJ1_indexOfChar_4cfef_13 rfl rfl ?_
        refine pq_iload F dJ1_indexOfChar_4cfef_14 rfl ?_
        refine pq_kbyt (i := ki) F hki (by focus ((try clear hq); (try clear ih); simp only [vp_in_iff, Int32.lt_iff_toInt_lt, Int32.le_iff_toInt_le, ← Int32.toInt_inj, Int32.toInt_add, Int32.toInt_sub, Int32.toInt_mul, Int32.toInt_neg, pq_NuO, pq_NuI, pq_NuJ, pq_NuR, pq_shr6, pq_shr7, pq_shr8, lqm1, lq0, lq1] at *; (try simp (disch := omega) only [pq_bm] at *); all_goals omega)) dJ1_indexOfChar_4cfef_16 ?_
        have e16 := tk_ix (x := k) (k := k.toInt.toNat) (by omega)
        refine pq_iload F dJ1_indexOfChar_4cfef_17 rfl ?_
        refine pq_icmp_ne (tgt := 25) F dJ1_indexOfChar_4cfef_19 (by decide) (fun c19 => ?_) (fun c19 => ?_)
        · skip
          refine pq_iinc (v := 1) F dJ1_indexOfChar_4cfef_25 rfl (by decide) (by decide) ?_
          refine pq_goto (tgt := 7) F dJ1_indexOfChar_4cfef_28 (by decide) ?_
          exact pq_fgm [true, true, true, true, true, true] (ih _ (by focus ((try clear hq); (try clear ih); simp only [vp_in_iff, Int32.lt_iff_toInt_lt, Int32.le_iff_toInt_le, ← Int32.toInt_inj, Int32.toInt_add, Int32.toInt_sub, Int32.toInt_mul, Int32.toInt_neg, pq_NuO, pq_NuI, pq_NuJ, pq_NuR, pq_shr6, pq_shr7, pq_shr8, lqm1, lq0, lq1] at *; (try simp (disch := omega) only [pq_bm] at *); all_goals omega)) (by focus ((try clear hq); (try clear ih); simp only [vp_in_iff, Int32.lt_iff_toInt_lt, Int32.le_iff_toInt_le, ← Int32.toInt_inj, Int32.toInt_add, Int32.toInt_sub, Int32.toInt_mul, Int32.toInt_neg, pq_NuO, pq_NuI, pq_NuJ, pq_NuR, pq_shr6, pq_shr7, pq_shr8, lqm1, lq0, lq1] at *; (try simp (disch := omega) only [pq_bm] at *); all_goals omega)) (fun j hj => (by by_cases z : (j : Int) < k.toInt; exact hq j z; have zz : j = k.toNatClampNeg := (by have := pq_cl (x := k) (by focus ((try clear hq); (try clear ih); simp only [vp_in_iff, Int32.lt_iff_toInt_lt, Int32.le_iff_toInt_le, ← Int32.toInt_inj, Int32.toInt_add, Int32.toInt_sub, Int32.toInt_mul, Int32.toInt_neg, pq_NuO, pq_NuI, pq_NuJ, pq_NuR, pq_shr6, pq_shr7, pq_shr8, lqm1, lq0, lq1] at *; (try simp (disch := omega) only [pq_bm] at *); all_goals omega)); focus ((try clear hq); (try clear ih); simp only [vp_in_iff, Int32.lt_iff_toInt_lt, Int32.le_iff_toInt_le, ← Int32.toInt_inj, Int32.toInt_add, Int32.toInt_sub, Int32.toInt_mul, Int32.toInt_neg, pq_NuO, pq_NuI, pq_NuJ, pq_NuR, pq_shr6, pq_shr7, pq_shr8, lqm1, lq0, lq1] at *; (try simp (disch := omega) only [pq_bm] at *); all_goals omega)); rw [zz]; exact c19)) (by focus ((try clear hq); (try clear ih); simp only [vp_in_iff, Int32.lt_iff_toInt_lt, Int32.le_iff_toInt_le, ← Int32.toInt_inj, Int32.toInt_add, Int32.toInt_sub, Int32.toInt_mul, Int32.toInt_neg, pq_NuO, pq_NuI, pq_NuJ, pq_NuR, pq_shr6, pq_shr7, pq_shr8, lqm1, lq0, lq1] at *; (try simp (disch := omega) only [pq_bm] at *); all_goals omega)))
        · skip
          refine pq_iload F dJ1_indexOfChar_4cfef_22 rfl ?_
          exact pq_iret F hr hlk hA (Nat.le_refl _) (Nat.le_refl _) (⟨rfl, k, rfl, ⟨fun _ => (by rw [← c19]; exact tk_mem2 (by have := pq_cl (x := k) (by focus ((try clear hq); (try clear ih); simp only [vp_in_iff, Int32.lt_iff_toInt_lt, Int32.le_iff_toInt_le, ← Int32.toInt_inj, Int32.toInt_add, Int32.toInt_sub, Int32.toInt_mul, Int32.toInt_neg, pq_NuO, pq_NuI, pq_NuJ, pq_NuR, pq_shr6, pq_shr7, pq_shr8, lqm1, lq0, lq1] at *; (try simp (disch := omega) only [pq_bm] at *); all_goals omega)); show _ < (pq_sg ki).2.2.2.length; focus ((try clear hq); (try clear ih); simp only [vp_in_iff, Int32.lt_iff_toInt_lt, Int32.le_iff_toInt_le, ← Int32.toInt_inj, Int32.toInt_add, Int32.toInt_sub, Int32.toInt_mul, Int32.toInt_neg, pq_NuO, pq_NuI, pq_NuJ, pq_NuR, pq_shr6, pq_shr7, pq_shr8, lqm1, lq0, lq1] at *; (try simp (disch := omega) only [pq_bm] at *); all_goals omega))), fun _ => (by focus ((try clear hq); (try clear ih); simp only [vp_in_iff, Int32.lt_iff_toInt_lt, Int32.le_iff_toInt_le, ← Int32.toInt_inj, Int32.toInt_add, Int32.toInt_sub, Int32.toInt_mul, Int32.toInt_neg, pq_NuO, pq_NuI, pq_NuJ, pq_NuR, pq_shr6, pq_shr7, pq_shr8, lqm1, lq0, lq1] at *; (try simp (disch := omega) only [pq_bm] at *); all_goals omega))⟩⟩) dJ1_indexOfChar_4cfef_24
  refine pq_iload_n F dJ1_indexOfChar_4cfef_0 rfl rfl ?_
  refine pq_i2b F dJ1_indexOfChar_4cfef_1 ?_
  refine pq_istore F dJ1_indexOfChar_4cfef_2 (by decide) ?_
  refine pq_iload_n F dJ1_indexOfChar_4cfef_4 rfl rfl ?_
  refine pq_istore F dJ1_indexOfChar_4cfef_5 (by decide) ?_
  exact pq_fgm [true, true, true, true, true, true] (L7  100000 _  (by focus ((try clear hq); (try clear ih); simp only [vp_in_iff, Int32.lt_iff_toInt_lt, Int32.le_iff_toInt_le, ← Int32.toInt_inj, Int32.toInt_add, Int32.toInt_sub, Int32.toInt_mul, Int32.toInt_neg, pq_NuO, pq_NuI, pq_NuJ, pq_NuR, pq_shr6, pq_shr7, pq_shr8, lqm1, lq0, lq1] at *; (try simp (disch := omega) only [pq_bm] at *); all_goals omega)) (by focus ((try clear hq); (try clear ih); simp only [vp_in_iff, Int32.lt_iff_toInt_lt, Int32.le_iff_toInt_le, ← Int32.toInt_inj, Int32.toInt_add, Int32.toInt_sub, Int32.toInt_mul, Int32.toInt_neg, pq_NuO, pq_NuI, pq_NuJ, pq_NuR, pq_shr6, pq_shr7, pq_shr8, lqm1, lq0, lq1] at *; (try simp (disch := omega) only [pq_bm] at *); all_goals omega)) (fun j hj => absurd hj (by focus ((try clear hq); (try clear ih); simp only [vp_in_iff, Int32.lt_iff_toInt_lt, Int32.le_iff_toInt_le, ← Int32.toInt_inj, Int32.toInt_add, Int32.toInt_sub, Int32.toInt_mul, Int32.toInt_neg, pq_NuO, pq_NuI, pq_NuJ, pq_NuR, pq_shr6, pq_shr7, pq_shr8, lqm1, lq0, lq1] at *; (try simp (disch := omega) only [pq_bm] at *); all_goals omega))) (by focus ((try clear hq); (try clear ih); simp only [vp_in_iff, Int32.lt_iff_toInt_lt, Int32.le_iff_toInt_le, ← Int32.toInt_inj, Int32.toInt_add, Int32.toInt_sub, Int32.toInt_mul, Int32.toInt_neg, pq_NuO, pq_NuI, pq_NuJ, pq_NuR, pq_shr6, pq_shr7, pq_shr8, lqm1, lq0, lq1] at *; (try simp (disch := omega) only [pq_bm] at *); all_goals omega)))

theorem tk_i8m {i : Nat} (hi : i < 6) {c : Int32} (h0 : 0 ≤ c.toInt) (h1 : c.toInt < 256) : c.toInt8.toInt32 ∈ tk_sl i ↔ c ∈ tk_sl i := by
  have e := tk_i8 h0 h1
  by_cases z : c.toInt < 128
  · rw [if_pos z] at e
    rw [Int32.toInt_inj.mp e]
  · rw [if_neg z] at e
    exact ⟨fun y => by have := tk_sla i hi _ y; omega, fun y => by have := tk_sla i hi _ y; omega⟩
theorem tk_slm {i : Nat} (hi : i < 6) {c : Int32} (h : ¬ (0 ≤ c.toInt ∧ c.toInt < 256)) : c ∉ tk_sl i := fun z => h ⟨(tk_sla i hi c z).1, by have := (tk_sla i hi c z).2; omega⟩
theorem tk_sh0 (x y : Int32) (h : y.toInt = 0) : x >>> (y &&& 31) = x := by
  have e : y = 0 := Int32.toInt_inj.mp h
  subst e
  apply Int32.toInt_inj.mp
  rw [pk_shr x ((0 : Int32) &&& 31) 0 rfl]
  simp
theorem tk_sl1 : ∀ i, i < 6 → 1 ≤ (tk_sl i).length := by decide +kernel

set_option maxHeartbeats 4000000 in
set_option maxRecDepth 100000 in
theorem k_J1_indexOfG (l : Launch) (D : va_G) (cy : Nat → ClassId) (S : HS) (ki : Nat) (hki : ki < 6) (ch : Int32) (lo : Int32) (hi : Int32) (hl : lo.toInt = 0) (h1 : hi.toInt = ((pq_sg ki).2.2.2.length : Int)) : pq_C l D cy yJ1_indexOf_4cfef cJ1_indexOf_4cfef 4 (some .int) 2 0 0 S [.ref (cy (20 + ki)), .int ch, .int lo, .int hi] (fun v S2 => S2 = S ∧ ∃ x : Int32, v = some (.int x) ∧ (0 ≤ x.toInt ↔ ch ∈ tk_sl ki)) := by
  refine pq_start (by decide) (Nat.le_of_ble_eq_true rfl) ?_
  intro p e s m args below meth c A F hr hlk hnm hA
  have lqm1 : (-1 : Int32).toInt = -1 := rfl
  have lq0 : (0 : Int32).toInt = 0 := rfl
  have lq1 : (1 : Int32).toInt = 1 := rfl
  have hsl := pq_sgl _ hki
  have nq := nI_toInt (n := (pq_sg ki).2.2.2.length) (by omega)
  have hs1 : 1 ≤ (pq_sg ki).2.2.2.length := tk_sl1 _ hki
  refine pq_iload_n F dJ1_indexOf_4cfef_0 rfl rfl ?_
  refine pq_callS (As := [_]) F (k_J1_canEncodeG l D cy _ _) ml_J1_88 (Nat.le_of_ble_eq_true rfl) ⟨Nat.le_of_ble_eq_true rfl, Nat.le_of_ble_eq_true rfl⟩ ⟨by decide, by decide⟩ dJ1_indexOf_4cfef_1 (fun v1 S1 w1 => ?_)
  obtain ⟨u1, y1, rfl, yl1_0, yl1_1, p1⟩ := w1
  rw [u1]
  try rw [u1] at p1
  refine pq_if_ne (tgt := 9) F dJ1_indexOf_4cfef_4 (by decide) (fun c4 => ?_) (fun c4 => ?_)
  · skip
    refine pq_iload_n F dJ1_indexOf_4cfef_9 rfl rfl ?_
    refine pq_iconst (v := 0) F dJ1_indexOf_4cfef_10 (by decide) ?_
    refine pq_mmax F mx_J1_92 ⟨Nat.le_of_ble_eq_true rfl, Nat.le_of_ble_eq_true rfl⟩ (by decide) (by decide) dJ1_indexOf_4cfef_11 (fun y11 yl11_0 yl11_1 yl11_2 => ?_)
    refine pq_istore_n F dJ1_indexOf_4cfef_14 rfl (by decide) ?_
    refine pq_iload_n F dJ1_indexOf_4cfef_15 rfl rfl ?_
    refine pq_aload_n F dJ1_indexOf_4cfef_16 rfl rfl ?_
    refine pq_klen (i := ki) F hki dJ1_indexOf_4cfef_17 ?_
    refine pq_mmin2 F mn_J1_38 ⟨Nat.le_of_ble_eq_true rfl, Nat.le_of_ble_eq_true rfl⟩ (by decide) (by decide) dJ1_indexOf_4cfef_18 (fun y18 yl18_0 yl18_1 yl18_2 => ?_)
    refine pq_istore_n F dJ1_indexOf_4cfef_21 rfl (by decide) ?_
    refine pq_iload_n F dJ1_indexOf_4cfef_22 rfl rfl ?_
    refine pq_iload_n F dJ1_indexOf_4cfef_23 rfl rfl ?_
    refine pq_icmp_lt (tgt := 29) F dJ1_indexOf_4cfef_24 (by decide) (fun c24 => ?_) (fun c24 => ?_)
    · skip
      have e11 : y11.toInt = 0 := (by rcases yl11_2 with z | z <;> rw [z] <;> focus ((try clear p1); (try clear p33); simp only [vp_in_iff, Int32.lt_iff_toInt_lt, Int32.le_iff_toInt_le, ← Int32.toInt_inj, Int32.toInt_add, Int32.toInt_sub, Int32.toInt_mul, Int32.toInt_neg, pq_NuO, pq_NuI, pq_NuJ, pq_NuR, pq_shr6, pq_shr7, pq_shr8, lqm1, lq0, lq1] at *; (try simp (disch := omega) only [pq_bm] at *); all_goals omega))
      have e18 : y18.toInt = ((pq_sg ki).2.2.2.length : Int) := (by rcases yl18_2 with z | z <;> rw [z] <;> focus ((try clear p1); (try clear p33); simp only [vp_in_iff, Int32.lt_iff_toInt_lt, Int32.le_iff_toInt_le, ← Int32.toInt_inj, Int32.toInt_add, Int32.toInt_sub, Int32.toInt_mul, Int32.toInt_neg, pq_NuO, pq_NuI, pq_NuJ, pq_NuR, pq_shr6, pq_shr7, pq_shr8, lqm1, lq0, lq1] at *; (try simp (disch := omega) only [pq_bm] at *); all_goals omega))
      refine pq_aload_n F dJ1_indexOf_4cfef_29 rfl rfl ?_
      refine pq_iload_n F dJ1_indexOf_4cfef_30 rfl rfl ?_
      refine pq_iload_n F dJ1_indexOf_4cfef_31 rfl rfl ?_
      refine pq_iload_n F dJ1_indexOf_4cfef_32 rfl rfl ?_
      refine pq_callS (As := [_, _, _, _]) F (k_J1_indexOfCharG l D cy _ ki ?_ _ _ _ ?_ ?_) ml_J1_95 (Nat.le_of_ble_eq_true rfl) ⟨Nat.le_of_ble_eq_true rfl, Nat.le_of_ble_eq_true rfl⟩ ⟨by decide, by decide⟩ dJ1_indexOf_4cfef_33 (fun v33 S33 w33 => ?_)
      · exact hki
      · focus ((try clear p1); (try clear p33); simp only [vp_in_iff, Int32.lt_iff_toInt_lt, Int32.le_iff_toInt_le, ← Int32.toInt_inj, Int32.toInt_add, Int32.toInt_sub, Int32.toInt_mul, Int32.toInt_neg, pq_NuO, pq_NuI, pq_NuJ, pq_NuR, pq_shr6, pq_shr7, pq_shr8, lqm1, lq0, lq1] at *; (try simp (disch := omega) only [pq_bm] at *); all_goals omega)
      · focus ((try clear p1); (try clear p33); simp only [vp_in_iff, Int32.lt_iff_toInt_lt, Int32.le_iff_toInt_le, ← Int32.toInt_inj, Int32.toInt_add, Int32.toInt_sub, Int32.toInt_mul, Int32.toInt_neg, pq_NuO, pq_NuI, pq_NuJ, pq_NuR, pq_shr6, pq_shr7, pq_shr8, lqm1, lq0, lq1] at *; (try simp (disch := omega) only [pq_bm] at *); all_goals omega)
      obtain ⟨u33, y33, rfl, p33⟩ := w33
      rw [u33]
      try rw [u33] at p33
      exact pq_iret F hr hlk hA (Nat.le_refl _) (Nat.le_refl _) (⟨rfl, y33, rfl, p33.trans (tk_i8m hki (p1.mp (Int32.toInt_inj.mp (by focus ((try clear p1); (try clear p33); simp only [vp_in_iff, Int32.lt_iff_toInt_lt, Int32.le_iff_toInt_le, ← Int32.toInt_inj, Int32.toInt_add, Int32.toInt_sub, Int32.toInt_mul, Int32.toInt_neg, pq_NuO, pq_NuI, pq_NuJ, pq_NuR, pq_shr6, pq_shr7, pq_shr8, lqm1, lq0, lq1] at *; (try simp (disch := omega) only [pq_bm] at *); all_goals omega)))).1 (p1.mp (Int32.toInt_inj.mp (by focus ((try clear p1); (try clear p33); simp only [vp_in_iff, Int32.lt_iff_toInt_lt, Int32.le_iff_toInt_le, ← Int32.toInt_inj, Int32.toInt_add, Int32.toInt_sub, Int32.toInt_mul, Int32.toInt_neg, pq_NuO, pq_NuI, pq_NuJ, pq_NuR, pq_shr6, pq_shr7, pq_shr8, lqm1, lq0, lq1] at *; (try simp (disch := omega) only [pq_bm] at *); all_goals omega)))).2)⟩) dJ1_indexOf_4cfef_36
    · exact absurd c24 (fun z => (by have e11 : y11.toInt = 0 := (by rcases yl11_2 with z | z <;> rw [z] <;> focus ((try clear p1); (try clear p33); simp only [vp_in_iff, Int32.lt_iff_toInt_lt, Int32.le_iff_toInt_le, ← Int32.toInt_inj, Int32.toInt_add, Int32.toInt_sub, Int32.toInt_mul, Int32.toInt_neg, pq_NuO, pq_NuI, pq_NuJ, pq_NuR, pq_shr6, pq_shr7, pq_shr8, lqm1, lq0, lq1] at *; (try simp (disch := omega) only [pq_bm] at *); all_goals omega)); have e18 : y18.toInt = ((pq_sg ki).2.2.2.length : Int) := (by rcases yl18_2 with z | z <;> rw [z] <;> focus ((try clear p1); (try clear p33); simp only [vp_in_iff, Int32.lt_iff_toInt_lt, Int32.le_iff_toInt_le, ← Int32.toInt_inj, Int32.toInt_add, Int32.toInt_sub, Int32.toInt_mul, Int32.toInt_neg, pq_NuO, pq_NuI, pq_NuJ, pq_NuR, pq_shr6, pq_shr7, pq_shr8, lqm1, lq0, lq1] at *; (try simp (disch := omega) only [pq_bm] at *); all_goals omega)); focus ((try clear p1); (try clear p33); simp only [vp_in_iff, Int32.lt_iff_toInt_lt, Int32.le_iff_toInt_le, ← Int32.toInt_inj, Int32.toInt_add, Int32.toInt_sub, Int32.toInt_mul, Int32.toInt_neg, pq_NuO, pq_NuI, pq_NuJ, pq_NuR, pq_shr6, pq_shr7, pq_shr8, lqm1, lq0, lq1] at *; (try simp (disch := omega) only [pq_bm] at *); all_goals omega)))
  · skip
    refine pq_iconst (v := -1) F dJ1_indexOf_4cfef_7 (by decide) ?_
    exact pq_iret F hr hlk hA (Nat.le_refl _) (Nat.le_refl _) (⟨rfl, -1, rfl, ⟨fun z => absurd z (by decide), fun z => absurd z (tk_slm hki (fun w => (by have v := p1.mpr w; rw [v] at c4; exact absurd c4 (by decide))))⟩⟩) dJ1_indexOf_4cfef_8

set_option maxHeartbeats 4000000 in
set_option maxRecDepth 100000 in
theorem k_J0_lengthG (l : Launch) (D : va_G) (cy : Nat → ClassId) (S : HS) (ki : Nat) (hki : ki < 6) : pq_C l D cy yJ0_length_8abf5 cJ0_length_8abf5 1 (some .int) 2 0 0 S [.ref (cy (10 + ki))] (fun v S2 => S2 = S ∧ ∃ x : Int32, v = some (.int x) ∧ (x.toInt = ((pq_sg ki).2.2.2.length : Int))) := by
  refine pq_start (by decide) (Nat.le_of_ble_eq_true rfl) ?_
  intro p e s m args below meth c A F hr hlk hnm hA
  have lqm1 : (-1 : Int32).toInt = -1 := rfl
  have lq0 : (0 : Int32).toInt = 0 := rfl
  have lq1 : (1 : Int32).toInt = 1 := rfl
  have hsl := pq_sgl _ hki
  have nq := nI_toInt (n := (pq_sg ki).2.2.2.length) (by omega)
  refine pq_aload_n F dJ0_length_8abf5_0 rfl rfl ?_
  refine pq_kval (i := ki) F hki fl_J0_9 dJ0_length_8abf5_1 ?_
  refine pq_klen (i := ki) F hki dJ0_length_8abf5_4 ?_
  refine pq_aload_n F dJ0_length_8abf5_5 rfl rfl ?_
  refine pq_kcallV (As := []) F hki (k_J0_coder_7d493 l D cy _ _ ?_) ml_J0_335 rfl (Nat.le_of_ble_eq_true rfl) ⟨Nat.le_of_ble_eq_true rfl, Nat.le_of_ble_eq_true rfl⟩ ⟨by decide, by decide⟩ dJ0_length_8abf5_6 (fun v6 S6 w6 => ?_)
  · exact hki
  obtain ⟨u6, y6, rfl, yl6_0, yl6_1⟩ := w6
  rw [u6]
  refine pq_ishr F dJ0_length_8abf5_9 ?_
  exact pq_iret F hr hlk hA (Nat.le_refl _) (Nat.le_refl _) (⟨rfl, _, rfl, (by rw [tk_sh0 _ _ (by focus (simp only [vp_in_iff, Int32.lt_iff_toInt_lt, Int32.le_iff_toInt_le, ← Int32.toInt_inj, Int32.toInt_add, Int32.toInt_sub, Int32.toInt_mul, Int32.toInt_neg, pq_NuO, pq_NuI, pq_NuJ, pq_NuR, pq_shr6, pq_shr7, pq_shr8, lqm1, lq0, lq1] at *; (try simp (disch := omega) only [pq_bm] at *); all_goals omega))]; exact nq)⟩) dJ0_length_8abf5_10

set_option maxHeartbeats 4000000 in
set_option maxRecDepth 100000 in
theorem k_J0_indexOf2G (l : Launch) (D : va_G) (cy : Nat → ClassId) (S : HS) (ki : Nat) (hki : ki < 6) (ch : Int32) (lo : Int32) (hl : lo.toInt = 0) : pq_C l D cy yJ0_indexOf_7cf53 cJ0_indexOf_7cf53 3 (some .int) 3 0 0 S [.ref (cy (10 + ki)), .int ch, .int lo] (fun v S2 => S2 = S ∧ ∃ x : Int32, v = some (.int x) ∧ (0 ≤ x.toInt ↔ ch ∈ tk_sl ki)) := by
  refine pq_start (by decide) (Nat.le_of_ble_eq_true rfl) ?_
  intro p e s m args below meth c A F hr hlk hnm hA
  have lqm1 : (-1 : Int32).toInt = -1 := rfl
  have lq0 : (0 : Int32).toInt = 0 := rfl
  have lq1 : (1 : Int32).toInt = 1 := rfl
  refine pq_aload_n F dJ0_indexOf_7cf53_0 rfl rfl ?_
  refine pq_kcallV (As := []) F hki (k_J0_isLatin1_aae02 l D cy _ _ ?_) ml_J0_492 rfl (Nat.le_of_ble_eq_true rfl) ⟨Nat.le_of_ble_eq_true rfl, Nat.le_of_ble_eq_true rfl⟩ ⟨by decide, by decide⟩ dJ0_indexOf_7cf53_1 (fun v1 S1 w1 => ?_)
  · exact hki
  obtain ⟨u1, y1, rfl, yl1_0, yl1_1, p1⟩ := w1
  rw [u1]
  try rw [u1] at p1
  refine pq_if_eq (tgt := 23) F dJ0_indexOf_7cf53_4 (by decide) (fun c4 => ?_) (fun c4 => ?_)
  · exact absurd c4 (by rw [p1]; decide)
  · skip
    refine pq_aload_n F dJ0_indexOf_7cf53_7 rfl rfl ?_
    refine pq_kval (i := ki) F hki fl_J0_9 dJ0_indexOf_7cf53_8 ?_
    refine pq_iload_n F dJ0_indexOf_7cf53_11 rfl rfl ?_
    refine pq_iload_n F dJ0_indexOf_7cf53_12 rfl rfl ?_
    refine pq_aload_n F dJ0_indexOf_7cf53_13 rfl rfl ?_
    refine pq_kcallV (As := []) F hki (k_J0_lengthG l D cy _ _ ?_) ml_J0_505 rfl (Nat.le_of_ble_eq_true rfl) ⟨Nat.le_of_ble_eq_true rfl, Nat.le_of_ble_eq_true rfl⟩ ⟨by decide, by decide⟩ dJ0_indexOf_7cf53_14 (fun v14 S14 w14 => ?_)
    · exact hki
    obtain ⟨u14, y14, rfl, p14⟩ := w14
    rw [u14]
    try rw [u14] at p14
    refine pq_callS (As := [_, _, _, _]) F (k_J1_indexOfG l D cy _ ki ?_ _ _ _ ?_ ?_) ml_J0_637 (Nat.le_of_ble_eq_true rfl) ⟨Nat.le_of_ble_eq_true rfl, Nat.le_of_ble_eq_true rfl⟩ ⟨by decide, by decide⟩ dJ0_indexOf_7cf53_17 (fun v17 S17 w17 => ?_)
    · exact hki
    · focus ((try clear p17); simp only [vp_in_iff, Int32.lt_iff_toInt_lt, Int32.le_iff_toInt_le, ← Int32.toInt_inj, Int32.toInt_add, Int32.toInt_sub, Int32.toInt_mul, Int32.toInt_neg, pq_NuO, pq_NuI, pq_NuJ, pq_NuR, pq_shr6, pq_shr7, pq_shr8, lqm1, lq0, lq1] at *; (try simp (disch := omega) only [pq_bm] at *); all_goals omega)
    · focus ((try clear p17); simp only [vp_in_iff, Int32.lt_iff_toInt_lt, Int32.le_iff_toInt_le, ← Int32.toInt_inj, Int32.toInt_add, Int32.toInt_sub, Int32.toInt_mul, Int32.toInt_neg, pq_NuO, pq_NuI, pq_NuJ, pq_NuR, pq_shr6, pq_shr7, pq_shr8, lqm1, lq0, lq1] at *; (try simp (disch := omega) only [pq_bm] at *); all_goals omega)
    obtain ⟨u17, y17, rfl, p17⟩ := w17
    rw [u17]
    try rw [u17] at p17
    refine pq_goto (tgt := 36) F dJ0_indexOf_7cf53_20 (by decide) ?_
    exact pq_iret F hr hlk hA (Nat.le_refl _) (Nat.le_refl _) (⟨rfl, _, rfl, p17⟩) dJ0_indexOf_7cf53_36

set_option maxHeartbeats 4000000 in
set_option maxRecDepth 100000 in
theorem k_J0_indexOf1G (l : Launch) (D : va_G) (cy : Nat → ClassId) (S : HS) (ki : Nat) (hki : ki < 6) (ch : Int32) : pq_C l D cy yJ0_indexOf_0f7a4 cJ0_indexOf_0f7a4 2 (some .int) 4 0 0 S [.ref (cy (10 + ki)), .int ch] (fun v S2 => S2 = S ∧ ∃ x : Int32, v = some (.int x) ∧ (0 ≤ x.toInt ↔ ch ∈ tk_sl ki)) := by
  refine pq_start (by decide) (Nat.le_of_ble_eq_true rfl) ?_
  intro p e s m args below meth c A F hr hlk hnm hA
  have lqm1 : (-1 : Int32).toInt = -1 := rfl
  have lq0 : (0 : Int32).toInt = 0 := rfl
  have lq1 : (1 : Int32).toInt = 1 := rfl
  refine pq_aload_n F dJ0_indexOf_0f7a4_0 rfl rfl ?_
  refine pq_iload_n F dJ0_indexOf_0f7a4_1 rfl rfl ?_
  refine pq_iconst (v := 0) F dJ0_indexOf_0f7a4_2 (by decide) ?_
  refine pq_kcallV (As := [_, _]) F hki (k_J0_indexOf2G l D cy _ _ ?_ _ _ ?_) ml_J0_633 rfl (Nat.le_of_ble_eq_true rfl) ⟨Nat.le_of_ble_eq_true rfl, Nat.le_of_ble_eq_true rfl⟩ ⟨by decide, by decide⟩ dJ0_indexOf_0f7a4_3 (fun v3 S3 w3 => ?_)
  · exact hki
  · focus ((try clear p3); simp only [vp_in_iff, Int32.lt_iff_toInt_lt, Int32.le_iff_toInt_le, ← Int32.toInt_inj, Int32.toInt_add, Int32.toInt_sub, Int32.toInt_mul, Int32.toInt_neg, pq_NuO, pq_NuI, pq_NuJ, pq_NuR, pq_shr6, pq_shr7, pq_shr8, lqm1, lq0, lq1] at *; (try simp (disch := omega) only [pq_bm] at *); all_goals omega)
  obtain ⟨u3, y3, rfl, p3⟩ := w3
  rw [u3]
  try rw [u3] at p3
  exact pq_iret F hr hlk hA (Nat.le_refl _) (Nat.le_refl _) (⟨rfl, _, rfl, p3⟩) dJ0_indexOf_0f7a4_6

set_option maxHeartbeats 4000000 in
set_option maxRecDepth 100000 in
theorem k_X11_byteAtG (l : Launch) (D : va_G) (cy : Nat → ClassId) (S : HS) (a : Nat) (ha : pq_R S a 14) (nn : Int32) (hnn0 : nn.toInt ≤ 2048) (tp n k : Nat) (f0 : hO S a 0 = .ref tp) (htp : pq_R S tp 100) (hn : nn.toInt = (n : Int)) (at1 : Int32) (fat : hO S a 10 = .int at1) (hk : at1.toInt = (k : Int)) : pq_C l D cy yX11_byteAt cX11_byteAt 2 (some .int) 1 0 0 S [.ref a, .int nn] (fun v S2 => S2 = S ∧ ∃ x : Int32, v = some (.int x) ∧ -128 ≤ x.toInt ∧ x.toInt ≤ 127 ∧ (x = tr_by (hI S tp) n k)) := by
  refine pq_start (by decide) (Nat.le_of_ble_eq_true rfl) ?_
  intro p e s m args below meth c A F hr hlk hnm hA
  have lqm1 : (-1 : Int32).toInt = -1 := rfl
  have lq0 : (0 : Int32).toInt = 0 := rfl
  have lq1 : (1 : Int32).toInt = 1 := rfl
  refine pq_aload_n F dX11_byteAt_0 rfl rfl ?_
  refine pq_get F ha (by decide) lk_X11_27 fat dX11_byteAt_1 ?_
  refine pq_iload_n F dX11_byteAt_4 rfl rfl ?_
  refine pq_icmp_ge (tgt := 20) F dX11_byteAt_5 (by decide) (fun c5 => ?_) (fun c5 => ?_)
  · skip
    refine pq_iconst (v := -1) F dX11_byteAt_20 (by decide) ?_
    exact pq_iret F hr hlk hA (Nat.le_refl _) (Nat.le_refl _) (⟨rfl, -1, rfl, (by focus (simp only [vp_in_iff, Int32.lt_iff_toInt_lt, Int32.le_iff_toInt_le, ← Int32.toInt_inj, Int32.toInt_add, Int32.toInt_sub, Int32.toInt_mul, Int32.toInt_neg, pq_NuO, pq_NuI, pq_NuJ, pq_NuR, pq_shr6, pq_shr7, pq_shr8, lqm1, lq0, lq1] at *; (try simp (disch := omega) only [pq_bm] at *); all_goals omega)), (by focus (simp only [vp_in_iff, Int32.lt_iff_toInt_lt, Int32.le_iff_toInt_le, ← Int32.toInt_inj, Int32.toInt_add, Int32.toInt_sub, Int32.toInt_mul, Int32.toInt_neg, pq_NuO, pq_NuI, pq_NuJ, pq_NuR, pq_shr6, pq_shr7, pq_shr8, lqm1, lq0, lq1] at *; (try simp (disch := omega) only [pq_bm] at *); all_goals omega)), tk_by0 (by focus (simp only [vp_in_iff, Int32.lt_iff_toInt_lt, Int32.le_iff_toInt_le, ← Int32.toInt_inj, Int32.toInt_add, Int32.toInt_sub, Int32.toInt_mul, Int32.toInt_neg, pq_NuO, pq_NuI, pq_NuJ, pq_NuR, pq_shr6, pq_shr7, pq_shr8, lqm1, lq0, lq1] at *; (try simp (disch := omega) only [pq_bm] at *); all_goals omega))⟩) dX11_byteAt_21
  · skip
    refine pq_aload_n F dX11_byteAt_8 rfl rfl ?_
    refine pq_get F ha (by decide) lk_X11_30 f0 dX11_byteAt_9 ?_
    refine pq_aload_n F dX11_byteAt_12 rfl rfl ?_
    refine pq_get F ha (by decide) lk_X11_27 fat dX11_byteAt_13 ?_
    refine pq_bald F htp (by decide) (by decide) rfl (fun n1_16 n2_16 => (by focus (simp only [vp_in_iff, Int32.lt_iff_toInt_lt, Int32.le_iff_toInt_le, ← Int32.toInt_inj, Int32.toInt_add, Int32.toInt_sub, Int32.toInt_mul, Int32.toInt_neg, pq_NuO, pq_NuI, pq_NuJ, pq_NuR, pq_shr6, pq_shr7, pq_shr8, lqm1, lq0, lq1] at *; (try simp (disch := omega) only [pq_bm] at *); all_goals omega))) dX11_byteAt_16 (fun x16 e16 l16 u16 => ?_)
    refine pq_goto (tgt := 21) F dX11_byteAt_17 (by decide) ?_
    exact pq_iret F hr hlk hA (Nat.le_refl _) (Nat.le_refl _) (⟨rfl, _, rfl, (by focus (simp only [vp_in_iff, Int32.lt_iff_toInt_lt, Int32.le_iff_toInt_le, ← Int32.toInt_inj, Int32.toInt_add, Int32.toInt_sub, Int32.toInt_mul, Int32.toInt_neg, pq_NuO, pq_NuI, pq_NuJ, pq_NuR, pq_shr6, pq_shr7, pq_shr8, lqm1, lq0, lq1] at *; (try simp (disch := omega) only [pq_bm] at *); all_goals omega)), (by focus (simp only [vp_in_iff, Int32.lt_iff_toInt_lt, Int32.le_iff_toInt_le, ← Int32.toInt_inj, Int32.toInt_add, Int32.toInt_sub, Int32.toInt_mul, Int32.toInt_neg, pq_NuO, pq_NuI, pq_NuJ, pq_NuR, pq_shr6, pq_shr7, pq_shr8, lqm1, lq0, lq1] at *; (try simp (disch := omega) only [pq_bm] at *); all_goals omega)), tk_by1 (by focus (simp only [vp_in_iff, Int32.lt_iff_toInt_lt, Int32.le_iff_toInt_le, ← Int32.toInt_inj, Int32.toInt_add, Int32.toInt_sub, Int32.toInt_mul, Int32.toInt_neg, pq_NuO, pq_NuI, pq_NuJ, pq_NuR, pq_shr6, pq_shr7, pq_shr8, lqm1, lq0, lq1] at *; (try simp (disch := omega) only [pq_bm] at *); all_goals omega)) hk e16⟩) dX11_byteAt_21

set_option maxHeartbeats 4000000 in
set_option maxRecDepth 100000 in
theorem k_X11_isInG (l : Launch) (D : va_G) (cy : Nat → ClassId) (S : HS) (cv : Int32) (ks : Nat) (hks : ks < 6) : pq_C l D cy yX11_isIn cX11_isIn 2 (some .boolean) 5 0 0 S [.int cv, .ref (cy (10 + ks))] (fun v S2 => S2 = S ∧ ∃ x : Int32, v = some (.int x) ∧ 0 ≤ x.toInt ∧ x.toInt ≤ 1 ∧ (x = 1 ↔ cv ∈ tk_sl ks)) := by
  refine pq_start (by decide) (Nat.le_of_ble_eq_true rfl) ?_
  intro p e s m args below meth c A F hr hlk hnm hA
  have lqm1 : (-1 : Int32).toInt = -1 := rfl
  have lq0 : (0 : Int32).toInt = 0 := rfl
  have lq1 : (1 : Int32).toInt = 1 := rfl
  refine pq_iload_n F dX11_isIn_0 rfl rfl ?_
  refine pq_if_lt (tgt := 16) F dX11_isIn_1 (by decide) (fun c1 => ?_) (fun c1 => ?_)
  · skip
    refine pq_iconst (v := 0) F dX11_isIn_16 (by decide) ?_
    exact pq_zret F hr hlk hA rfl (Nat.le_refl _) (Nat.le_refl _) (⟨rfl, 0, rfl, (by focus ((try clear p6); simp only [vp_in_iff, Int32.lt_iff_toInt_lt, Int32.le_iff_toInt_le, ← Int32.toInt_inj, Int32.toInt_add, Int32.toInt_sub, Int32.toInt_mul, Int32.toInt_neg, pq_NuO, pq_NuI, pq_NuJ, pq_NuR, pq_shr6, pq_shr7, pq_shr8, lqm1, lq0, lq1] at *; (try simp (disch := omega) only [pq_bm] at *); all_goals omega)), (by focus ((try clear p6); simp only [vp_in_iff, Int32.lt_iff_toInt_lt, Int32.le_iff_toInt_le, ← Int32.toInt_inj, Int32.toInt_add, Int32.toInt_sub, Int32.toInt_mul, Int32.toInt_neg, pq_NuO, pq_NuI, pq_NuJ, pq_NuR, pq_shr6, pq_shr7, pq_shr8, lqm1, lq0, lq1] at *; (try simp (disch := omega) only [pq_bm] at *); all_goals omega)), ⟨fun z => absurd z (by decide), fun z => absurd (tk_sla _ hks _ z).1 (by focus ((try clear p6); simp only [vp_in_iff, Int32.lt_iff_toInt_lt, Int32.le_iff_toInt_le, ← Int32.toInt_inj, Int32.toInt_add, Int32.toInt_sub, Int32.toInt_mul, Int32.toInt_neg, pq_NuO, pq_NuI, pq_NuJ, pq_NuR, pq_shr6, pq_shr7, pq_shr8, lqm1, lq0, lq1] at *; (try simp (disch := omega) only [pq_bm] at *); all_goals omega))⟩⟩) dX11_isIn_17
  · skip
    refine pq_aload_n F dX11_isIn_4 rfl rfl ?_
    refine pq_iload_n F dX11_isIn_5 rfl rfl ?_
    refine pq_kcallV (As := [_]) F hks (k_J0_indexOf1G l D cy _ _ ?_ _) ml_X11_34 rfl (Nat.le_of_ble_eq_true rfl) ⟨Nat.le_of_ble_eq_true rfl, Nat.le_of_ble_eq_true rfl⟩ ⟨by decide, by decide⟩ dX11_isIn_6 (fun v6 S6 w6 => ?_)
    · exact hks
    obtain ⟨u6, y6, rfl, p6⟩ := w6
    rw [u6]
    try rw [u6] at p6
    refine pq_if_lt (tgt := 16) F dX11_isIn_9 (by decide) (fun c9 => ?_) (fun c9 => ?_)
    · skip
      refine pq_iconst (v := 0) F dX11_isIn_16 (by decide) ?_
      exact pq_zret F hr hlk hA rfl (Nat.le_refl _) (Nat.le_refl _) (⟨rfl, 0, rfl, (by focus ((try clear p6); simp only [vp_in_iff, Int32.lt_iff_toInt_lt, Int32.le_iff_toInt_le, ← Int32.toInt_inj, Int32.toInt_add, Int32.toInt_sub, Int32.toInt_mul, Int32.toInt_neg, pq_NuO, pq_NuI, pq_NuJ, pq_NuR, pq_shr6, pq_shr7, pq_shr8, lqm1, lq0, lq1] at *; (try simp (disch := omega) only [pq_bm] at *); all_goals omega)), (by focus ((try clear p6); simp only [vp_in_iff, Int32.lt_iff_toInt_lt, Int32.le_iff_toInt_le, ← Int32.toInt_inj, Int32.toInt_add, Int32.toInt_sub, Int32.toInt_mul, Int32.toInt_neg, pq_NuO, pq_NuI, pq_NuJ, pq_NuR, pq_shr6, pq_shr7, pq_shr8, lqm1, lq0, lq1] at *; (try simp (disch := omega) only [pq_bm] at *); all_goals omega)), ⟨fun z => absurd z (by decide), fun z => absurd (p6.mpr z) (by focus ((try clear p6); simp only [vp_in_iff, Int32.lt_iff_toInt_lt, Int32.le_iff_toInt_le, ← Int32.toInt_inj, Int32.toInt_add, Int32.toInt_sub, Int32.toInt_mul, Int32.toInt_neg, pq_NuO, pq_NuI, pq_NuJ, pq_NuR, pq_shr6, pq_shr7, pq_shr8, lqm1, lq0, lq1] at *; (try simp (disch := omega) only [pq_bm] at *); all_goals omega))⟩⟩) dX11_isIn_17
    · skip
      refine pq_iconst (v := 1) F dX11_isIn_12 (by decide) ?_
      refine pq_goto (tgt := 17) F dX11_isIn_13 (by decide) ?_
      exact pq_zret F hr hlk hA rfl (Nat.le_refl _) (Nat.le_refl _) (⟨rfl, 1, rfl, (by focus ((try clear p6); simp only [vp_in_iff, Int32.lt_iff_toInt_lt, Int32.le_iff_toInt_le, ← Int32.toInt_inj, Int32.toInt_add, Int32.toInt_sub, Int32.toInt_mul, Int32.toInt_neg, pq_NuO, pq_NuI, pq_NuJ, pq_NuR, pq_shr6, pq_shr7, pq_shr8, lqm1, lq0, lq1] at *; (try simp (disch := omega) only [pq_bm] at *); all_goals omega)), (by focus ((try clear p6); simp only [vp_in_iff, Int32.lt_iff_toInt_lt, Int32.le_iff_toInt_le, ← Int32.toInt_inj, Int32.toInt_add, Int32.toInt_sub, Int32.toInt_mul, Int32.toInt_neg, pq_NuO, pq_NuI, pq_NuJ, pq_NuR, pq_shr6, pq_shr7, pq_shr8, lqm1, lq0, lq1] at *; (try simp (disch := omega) only [pq_bm] at *); all_goals omega)), ⟨fun _ => p6.mp (by focus ((try clear p6); simp only [vp_in_iff, Int32.lt_iff_toInt_lt, Int32.le_iff_toInt_le, ← Int32.toInt_inj, Int32.toInt_add, Int32.toInt_sub, Int32.toInt_mul, Int32.toInt_neg, pq_NuO, pq_NuI, pq_NuJ, pq_NuR, pq_shr6, pq_shr7, pq_shr8, lqm1, lq0, lq1] at *; (try simp (disch := omega) only [pq_bm] at *); all_goals omega)), fun _ => rfl⟩⟩) dX11_isIn_17

theorem tk_s3 (c : Int32) : c ∈ tk_sl 3 ↔ c.toInt ∈ tr_e13 := by
  have e : tr_e13 = (tk_sl 3).map Int32.toInt := by decide +kernel
  rw [e, List.mem_map]
  exact ⟨fun h => ⟨c, h, rfl⟩, fun ⟨d, h, z⟩ => by rw [← Int32.toInt_inj.mp z]; exact h⟩
theorem tk_s4 (c : Int32) : c ∈ tk_sl 4 ↔ c.toInt ∈ tr_e3 := by
  have e : tr_e3 = (tk_sl 4).map Int32.toInt := by decide +kernel
  rw [e, List.mem_map]
  exact ⟨fun h => ⟨c, h, rfl⟩, fun ⟨d, h, z⟩ => by rw [← Int32.toInt_inj.mp z]; exact h⟩
theorem tk_s5 (c : Int32) (h1 : c ≠ 91) (h2 : c ≠ 46) : c ∈ tk_sl 5 ↔ c.toInt ∈ tr_e9 := by
  have e : (tk_sl 5).map Int32.toInt = [47, 124, 42, 43, 63, 40, 41] := by decide +kernel
  have e1 : c.toInt ≠ 91 := fun z => h1 (Int32.toInt_inj.mp z)
  have e2 : c.toInt ≠ 46 := fun z => h2 (Int32.toInt_inj.mp z)
  have m : c ∈ tk_sl 5 ↔ c.toInt ∈ (tk_sl 5).map Int32.toInt := by
    rw [List.mem_map]
    exact ⟨fun h => ⟨c, h, rfl⟩, fun ⟨d, h, z⟩ => by rw [← Int32.toInt_inj.mp z]; exact h⟩
  rw [m, e]
  simp only [tr_e9, List.mem_cons, List.not_mem_nil, or_false]
  omega
theorem tk_es {c x : Int32} (h : (c = 110 ∧ x = 10) ∨ (c ≠ 110 ∧ c = 116 ∧ x = 9) ∨ (c ≠ 110 ∧ c ≠ 116 ∧ c = 114 ∧ x = 13) ∨ (c ≠ 110 ∧ c ≠ 116 ∧ c ≠ 114 ∧ ((c.toInt ∈ tr_e13 ∧ x = c) ∨ (c.toInt ∉ tr_e13 ∧ x = -1)))) : x = tr_esc c := by
  unfold tr_esc
  rcases h with ⟨h, e⟩ | ⟨h1, h, e⟩ | ⟨h1, h2, h, e⟩ | ⟨h1, h2, h3, ⟨h, e⟩ | ⟨h, e⟩⟩
  · rw [if_pos h, e]
  · rw [if_neg h1, if_pos h, e]
  · rw [if_neg h1, if_neg h2, if_pos h, e]
  · rw [if_neg h1, if_neg h2, if_neg h3, if_pos h, e]
  · rw [if_neg h1, if_neg h2, if_neg h3, if_neg h, e]

set_option maxHeartbeats 4000000 in
set_option maxRecDepth 100000 in
theorem k_X11_escapedG (l : Launch) (D : va_G) (cy : Nat → ClassId) (S : HS) (a : Nat) (ha : pq_R S a 14) (nn : Int32) (hnn0 : nn.toInt ≤ 2048) (tp n k : Nat) (f0 : hO S a 0 = .ref tp) (htp : pq_R S tp 100) (hn : nn.toInt = (n : Int)) (at1 : Int32) (fat : hO S a 10 = .int at1) (hk : at1.toInt = (k : Int)) : pq_C l D cy yX11_escaped cX11_escaped 3 (some .int) 6 0 0 S [.ref a, .int nn] (fun v S2 => S2 = S ∧ ∃ x : Int32, v = some (.int x) ∧ -1 ≤ x.toInt ∧ x.toInt ≤ 127 ∧ (x = tr_esc (tr_by (hI S tp) n k))) := by
  refine pq_start (by decide) (Nat.le_of_ble_eq_true rfl) ?_
  intro p e s m args below meth c A F hr hlk hnm hA
  have lqm1 : (-1 : Int32).toInt = -1 := rfl
  have lq0 : (0 : Int32).toInt = 0 := rfl
  have lq1 : (1 : Int32).toInt = 1 := rfl
  have lq9 : (9 : Int32).toInt = 9 := rfl
  have lq10 : (10 : Int32).toInt = 10 := rfl
  have lq13 : (13 : Int32).toInt = 13 := rfl
  have lq110 : (110 : Int32).toInt = 110 := rfl
  have lq114 : (114 : Int32).toInt = 114 := rfl
  have lq116 : (116 : Int32).toInt = 116 := rfl
  refine pq_aload_n F dX11_escaped_0 rfl rfl ?_
  refine pq_iload_n F dX11_escaped_1 rfl rfl ?_
  refine pq_callV (As := [_]) F (k_X11_byteAtG l D cy _ _ ?_ _ ?_ tp n k f0 htp hn at1 fat ?_) ml_X11_40 ha (by decide) rfl (Nat.le_of_ble_eq_true rfl) ⟨Nat.le_of_ble_eq_true rfl, Nat.le_of_ble_eq_true rfl⟩ ⟨by decide, by decide⟩ dX11_escaped_2 (fun v2 S2 w2 => ?_)
  · exact ha
  · focus ((try clear p2); (try clear p36); simp only [vp_in_iff, Int32.lt_iff_toInt_lt, Int32.le_iff_toInt_le, ← Int32.toInt_inj, Int32.toInt_add, Int32.toInt_sub, Int32.toInt_mul, Int32.toInt_neg, pq_NuO, pq_NuI, pq_NuJ, pq_NuR, pq_shr6, pq_shr7, pq_shr8, lqm1, lq0, lq1, lq9, lq10, lq13, lq110, lq114, lq116] at *; (try simp (disch := omega) only [pq_bm] at *); all_goals omega)
  · focus ((try clear p2); (try clear p36); simp only [vp_in_iff, Int32.lt_iff_toInt_lt, Int32.le_iff_toInt_le, ← Int32.toInt_inj, Int32.toInt_add, Int32.toInt_sub, Int32.toInt_mul, Int32.toInt_neg, pq_NuO, pq_NuI, pq_NuJ, pq_NuR, pq_shr6, pq_shr7, pq_shr8, lqm1, lq0, lq1, lq9, lq10, lq13, lq110, lq114, lq116] at *; (try simp (disch := omega) only [pq_bm] at *); all_goals omega)
  obtain ⟨u2, y2, rfl, yl2_0, yl2_1, p2⟩ := w2
  rw [u2]
  try rw [u2] at p2
  refine pq_istore_n F dX11_escaped_5 rfl (by decide) ?_
  refine pq_iload_n F dX11_escaped_6 rfl rfl ?_
  refine pq_bipush (v := 110) F dX11_escaped_7 (by decide) ?_
  refine pq_icmp_ne (tgt := 15) F dX11_escaped_9 (by decide) (fun c9 => ?_) (fun c9 => ?_)
  · skip
    refine pq_iload_n F dX11_escaped_15 rfl rfl ?_
    refine pq_bipush (v := 116) F dX11_escaped_16 (by decide) ?_
    refine pq_icmp_ne (tgt := 24) F dX11_escaped_18 (by decide) (fun c18 => ?_) (fun c18 => ?_)
    · skip
      refine pq_iload_n F dX11_escaped_24 rfl rfl ?_
      refine pq_bipush (v := 114) F dX11_escaped_25 (by decide) ?_
      refine pq_icmp_ne (tgt := 33) F dX11_escaped_27 (by decide) (fun c27 => ?_) (fun c27 => ?_)
      · skip
        refine pq_iload_n F dX11_escaped_33 rfl rfl ?_
        refine pq_ldcS (i := 3) F (by decide) rfl rfl dX11_escaped_34 ?_
        refine pq_callS (As := [_, _]) F (k_X11_isInG l D cy _ _ 3 ?_) ml_X11_45 (Nat.le_of_ble_eq_true rfl) ⟨Nat.le_of_ble_eq_true rfl, Nat.le_of_ble_eq_true rfl⟩ ⟨by decide, by decide⟩ dX11_escaped_36 (fun v36 S36 w36 => ?_)
        · decide
        obtain ⟨u36, y36, rfl, yl36_0, yl36_1, p36⟩ := w36
        rw [u36]
        try rw [u36] at p36
        refine pq_if_eq (tgt := 46) F dX11_escaped_39 (by decide) (fun c39 => ?_) (fun c39 => ?_)
        · skip
          refine pq_iconst (v := -1) F dX11_escaped_46 (by decide) ?_
          exact pq_iret F hr hlk hA (Nat.le_refl _) (Nat.le_refl _) (⟨rfl, -1, rfl, (by focus ((try clear p2); (try clear p36); simp only [vp_in_iff, Int32.lt_iff_toInt_lt, Int32.le_iff_toInt_le, ← Int32.toInt_inj, Int32.toInt_add, Int32.toInt_sub, Int32.toInt_mul, Int32.toInt_neg, pq_NuO, pq_NuI, pq_NuJ, pq_NuR, pq_shr6, pq_shr7, pq_shr8, lqm1, lq0, lq1, lq9, lq10, lq13, lq110, lq114, lq116] at *; (try simp (disch := omega) only [pq_bm] at *); all_goals omega)), (by focus ((try clear p2); (try clear p36); simp only [vp_in_iff, Int32.lt_iff_toInt_lt, Int32.le_iff_toInt_le, ← Int32.toInt_inj, Int32.toInt_add, Int32.toInt_sub, Int32.toInt_mul, Int32.toInt_neg, pq_NuO, pq_NuI, pq_NuJ, pq_NuR, pq_shr6, pq_shr7, pq_shr8, lqm1, lq0, lq1, lq9, lq10, lq13, lq110, lq114, lq116] at *; (try simp (disch := omega) only [pq_bm] at *); all_goals omega)), (by rw [← p2]; exact tk_es (Or.inr (Or.inr (Or.inr ⟨c9, c18, c27, Or.inr ⟨fun z => (by have w := p36.mpr ((tk_s3 _).mpr z); focus ((try clear p2); (try clear p36); simp only [vp_in_iff, Int32.lt_iff_toInt_lt, Int32.le_iff_toInt_le, ← Int32.toInt_inj, Int32.toInt_add, Int32.toInt_sub, Int32.toInt_mul, Int32.toInt_neg, pq_NuO, pq_NuI, pq_NuJ, pq_NuR, pq_shr6, pq_shr7, pq_shr8, lqm1, lq0, lq1, lq9, lq10, lq13, lq110, lq114, lq116] at *; (try simp (disch := omega) only [pq_bm] at *); all_goals omega)), rfl⟩⟩))))⟩) dX11_escaped_47
        · skip
          refine pq_iload_n F dX11_escaped_42 rfl rfl ?_
          refine pq_goto (tgt := 47) F dX11_escaped_43 (by decide) ?_
          exact pq_iret F hr hlk hA (Nat.le_refl _) (Nat.le_refl _) (⟨rfl, y2, rfl, (by have w := tk_sla 3 (by decide) _ (p36.mp (Int32.toInt_inj.mp (by focus ((try clear p2); (try clear p36); simp only [vp_in_iff, Int32.lt_iff_toInt_lt, Int32.le_iff_toInt_le, ← Int32.toInt_inj, Int32.toInt_add, Int32.toInt_sub, Int32.toInt_mul, Int32.toInt_neg, pq_NuO, pq_NuI, pq_NuJ, pq_NuR, pq_shr6, pq_shr7, pq_shr8, lqm1, lq0, lq1, lq9, lq10, lq13, lq110, lq114, lq116] at *; (try simp (disch := omega) only [pq_bm] at *); all_goals omega)))); focus ((try clear p2); (try clear p36); simp only [vp_in_iff, Int32.lt_iff_toInt_lt, Int32.le_iff_toInt_le, ← Int32.toInt_inj, Int32.toInt_add, Int32.toInt_sub, Int32.toInt_mul, Int32.toInt_neg, pq_NuO, pq_NuI, pq_NuJ, pq_NuR, pq_shr6, pq_shr7, pq_shr8, lqm1, lq0, lq1, lq9, lq10, lq13, lq110, lq114, lq116] at *; (try simp (disch := omega) only [pq_bm] at *); all_goals omega)), (by focus ((try clear p2); (try clear p36); simp only [vp_in_iff, Int32.lt_iff_toInt_lt, Int32.le_iff_toInt_le, ← Int32.toInt_inj, Int32.toInt_add, Int32.toInt_sub, Int32.toInt_mul, Int32.toInt_neg, pq_NuO, pq_NuI, pq_NuJ, pq_NuR, pq_shr6, pq_shr7, pq_shr8, lqm1, lq0, lq1, lq9, lq10, lq13, lq110, lq114, lq116] at *; (try simp (disch := omega) only [pq_bm] at *); all_goals omega)), (by rw [← p2]; exact tk_es (Or.inr (Or.inr (Or.inr ⟨c9, c18, c27, Or.inl ⟨(tk_s3 _).mp (p36.mp (Int32.toInt_inj.mp (by focus ((try clear p2); (try clear p36); simp only [vp_in_iff, Int32.lt_iff_toInt_lt, Int32.le_iff_toInt_le, ← Int32.toInt_inj, Int32.toInt_add, Int32.toInt_sub, Int32.toInt_mul, Int32.toInt_neg, pq_NuO, pq_NuI, pq_NuJ, pq_NuR, pq_shr6, pq_shr7, pq_shr8, lqm1, lq0, lq1, lq9, lq10, lq13, lq110, lq114, lq116] at *; (try simp (disch := omega) only [pq_bm] at *); all_goals omega)))), rfl⟩⟩))))⟩) dX11_escaped_47
      · skip
        refine pq_bipush (v := 13) F dX11_escaped_30 (by decide) ?_
        exact pq_iret F hr hlk hA (Nat.le_refl _) (Nat.le_refl _) (⟨rfl, 13, rfl, (by focus ((try clear p2); (try clear p36); simp only [vp_in_iff, Int32.lt_iff_toInt_lt, Int32.le_iff_toInt_le, ← Int32.toInt_inj, Int32.toInt_add, Int32.toInt_sub, Int32.toInt_mul, Int32.toInt_neg, pq_NuO, pq_NuI, pq_NuJ, pq_NuR, pq_shr6, pq_shr7, pq_shr8, lqm1, lq0, lq1, lq9, lq10, lq13, lq110, lq114, lq116] at *; (try simp (disch := omega) only [pq_bm] at *); all_goals omega)), (by focus ((try clear p2); (try clear p36); simp only [vp_in_iff, Int32.lt_iff_toInt_lt, Int32.le_iff_toInt_le, ← Int32.toInt_inj, Int32.toInt_add, Int32.toInt_sub, Int32.toInt_mul, Int32.toInt_neg, pq_NuO, pq_NuI, pq_NuJ, pq_NuR, pq_shr6, pq_shr7, pq_shr8, lqm1, lq0, lq1, lq9, lq10, lq13, lq110, lq114, lq116] at *; (try simp (disch := omega) only [pq_bm] at *); all_goals omega)), (by rw [← p2]; exact tk_es (Or.inr (Or.inr (Or.inl ⟨c9, c18, c27, rfl⟩))))⟩) dX11_escaped_32
    · skip
      refine pq_bipush (v := 9) F dX11_escaped_21 (by decide) ?_
      exact pq_iret F hr hlk hA (Nat.le_refl _) (Nat.le_refl _) (⟨rfl, 9, rfl, (by focus ((try clear p2); (try clear p36); simp only [vp_in_iff, Int32.lt_iff_toInt_lt, Int32.le_iff_toInt_le, ← Int32.toInt_inj, Int32.toInt_add, Int32.toInt_sub, Int32.toInt_mul, Int32.toInt_neg, pq_NuO, pq_NuI, pq_NuJ, pq_NuR, pq_shr6, pq_shr7, pq_shr8, lqm1, lq0, lq1, lq9, lq10, lq13, lq110, lq114, lq116] at *; (try simp (disch := omega) only [pq_bm] at *); all_goals omega)), (by focus ((try clear p2); (try clear p36); simp only [vp_in_iff, Int32.lt_iff_toInt_lt, Int32.le_iff_toInt_le, ← Int32.toInt_inj, Int32.toInt_add, Int32.toInt_sub, Int32.toInt_mul, Int32.toInt_neg, pq_NuO, pq_NuI, pq_NuJ, pq_NuR, pq_shr6, pq_shr7, pq_shr8, lqm1, lq0, lq1, lq9, lq10, lq13, lq110, lq114, lq116] at *; (try simp (disch := omega) only [pq_bm] at *); all_goals omega)), (by rw [← p2]; exact tk_es (Or.inr (Or.inl ⟨c9, c18, rfl⟩)))⟩) dX11_escaped_23
  · skip
    refine pq_bipush (v := 10) F dX11_escaped_12 (by decide) ?_
    exact pq_iret F hr hlk hA (Nat.le_refl _) (Nat.le_refl _) (⟨rfl, 10, rfl, (by focus ((try clear p2); (try clear p36); simp only [vp_in_iff, Int32.lt_iff_toInt_lt, Int32.le_iff_toInt_le, ← Int32.toInt_inj, Int32.toInt_add, Int32.toInt_sub, Int32.toInt_mul, Int32.toInt_neg, pq_NuO, pq_NuI, pq_NuJ, pq_NuR, pq_shr6, pq_shr7, pq_shr8, lqm1, lq0, lq1, lq9, lq10, lq13, lq110, lq114, lq116] at *; (try simp (disch := omega) only [pq_bm] at *); all_goals omega)), (by focus ((try clear p2); (try clear p36); simp only [vp_in_iff, Int32.lt_iff_toInt_lt, Int32.le_iff_toInt_le, ← Int32.toInt_inj, Int32.toInt_add, Int32.toInt_sub, Int32.toInt_mul, Int32.toInt_neg, pq_NuO, pq_NuI, pq_NuJ, pq_NuR, pq_shr6, pq_shr7, pq_shr8, lqm1, lq0, lq1, lq9, lq10, lq13, lq110, lq114, lq116] at *; (try simp (disch := omega) only [pq_bm] at *); all_goals omega)), (by rw [← p2]; exact tk_es (Or.inl ⟨c9, rfl⟩))⟩) dX11_escaped_14

