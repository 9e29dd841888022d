set_option maxHeartbeats 4000000 in
set_option maxRecDepth 100000 in
theorem k_J1_canEncode_9a6ad (l : Launch) (D : va_G) (cy : Nat → ClassId) (S : HS) (ch : Int32) : pq_C l D cy yJ1_canEncode_9a6ad cJ1_canEncode_9a6ad 1 (some .boolean) 1 0 0 S [.int ch] (fun v S2 => S2 = S ∧ ∃ x : Int32, v = some (.int x) ∧ 0 ≤ x.toInt ∧ x.toInt ≤ 1) := by
  refine pq_start (by decide) (Nat.le_of_ble_eq_true rfl) ?_
  intro p e s m args below meth c A F hr hlk hnm hA
  have lqm1 : (-1 : Int32).toInt = -1 := rfl
  have lq0 : (0 : Int32).toInt = 0 := rfl
  have lq1 : (1 : Int32).toInt = 1 := rfl
  have lq255 : (255 : Int32).toInt = 255 := rfl
  refine pq_iload_n F dJ1_canEncode_9a6ad_0 rfl rfl ?_
  refine pq_if_lt (tgt := 15) F dJ1_canEncode_9a6ad_1 (by decide) (fun c1 => ?_) (fun c1 => ?_)
  · skip
    refine pq_iconst (v := 0) F dJ1_canEncode_9a6ad_15 (by decide) ?_
    exact pq_zret F hr hlk hA rfl (Nat.le_refl _) (Nat.le_refl _) (⟨rfl, _, rfl, (by focus (simp only [vp_in_iff, Int32.lt_iff_toInt_lt, Int32.le_iff_toInt_le, ← Int32.toInt_inj, Int32.toInt_add, Int32.toInt_sub, Int32.toInt_mul, Int32.toInt_neg, pq_NuO, pq_NuI, pq_NuJ, pq_NuR, pq_shr6, pq_shr7, pq_shr8, lqm1, lq0, lq1, lq255] at *; (try simp (disch := omega) only [pq_bm] at *); all_goals omega)), (by focus (simp only [vp_in_iff, Int32.lt_iff_toInt_lt, Int32.le_iff_toInt_le, ← Int32.toInt_inj, Int32.toInt_add, Int32.toInt_sub, Int32.toInt_mul, Int32.toInt_neg, pq_NuO, pq_NuI, pq_NuJ, pq_NuR, pq_shr6, pq_shr7, pq_shr8, lqm1, lq0, lq1, lq255] at *; (try simp (disch := omega) only [pq_bm] at *); all_goals omega))⟩) dJ1_canEncode_9a6ad_16
  · skip
    refine pq_iload_n F dJ1_canEncode_9a6ad_4 rfl rfl ?_
    refine pq_sipush (v := 255) F dJ1_canEncode_9a6ad_5 (by decide) ?_
    refine pq_icmp_gt (tgt := 15) F dJ1_canEncode_9a6ad_8 (by decide) (fun c8 => ?_) (fun c8 => ?_)
    · skip
      refine pq_iconst (v := 0) F dJ1_canEncode_9a6ad_15 (by decide) ?_
      exact pq_zret F hr hlk hA rfl (Nat.le_refl _) (Nat.le_refl _) (⟨rfl, _, rfl, (by focus (simp only [vp_in_iff, Int32.lt_iff_toInt_lt, Int32.le_iff_toInt_le, ← Int32.toInt_inj, Int32.toInt_add, Int32.toInt_sub, Int32.toInt_mul, Int32.toInt_neg, pq_NuO, pq_NuI, pq_NuJ, pq_NuR, pq_shr6, pq_shr7, pq_shr8, lqm1, lq0, lq1, lq255] at *; (try simp (disch := omega) only [pq_bm] at *); all_goals omega)), (by focus (simp only [vp_in_iff, Int32.lt_iff_toInt_lt, Int32.le_iff_toInt_le, ← Int32.toInt_inj, Int32.toInt_add, Int32.toInt_sub, Int32.toInt_mul, Int32.toInt_neg, pq_NuO, pq_NuI, pq_NuJ, pq_NuR, pq_shr6, pq_shr7, pq_shr8, lqm1, lq0, lq1, lq255] at *; (try simp (disch := omega) only [pq_bm] at *); all_goals omega))⟩) dJ1_canEncode_9a6ad_16
    · skip
      refine pq_iconst (v := 1) F dJ1_canEncode_9a6ad_11 (by decide) ?_
      refine pq_goto (tgt := 16) F dJ1_canEncode_9a6ad_12 (by decide) ?_
      exact pq_zret F hr hlk hA rfl (Nat.le_refl _) (Nat.le_refl _) (⟨rfl, _, rfl, (by focus (simp only [vp_in_iff, Int32.lt_iff_toInt_lt, Int32.le_iff_toInt_le, ← Int32.toInt_inj, Int32.toInt_add, Int32.toInt_sub, Int32.toInt_mul, Int32.toInt_neg, pq_NuO, pq_NuI, pq_NuJ, pq_NuR, pq_shr6, pq_shr7, pq_shr8, lqm1, lq0, lq1, lq255] at *; (try simp (disch := omega) only [pq_bm] at *); all_goals omega)), (by focus (simp only [vp_in_iff, Int32.lt_iff_toInt_lt, Int32.le_iff_toInt_le, ← Int32.toInt_inj, Int32.toInt_add, Int32.toInt_sub, Int32.toInt_mul, Int32.toInt_neg, pq_NuO, pq_NuI, pq_NuJ, pq_NuR, pq_shr6, pq_shr7, pq_shr8, lqm1, lq0, lq1, lq255] at *; (try simp (disch := omega) only [pq_bm] at *); all_goals omega))⟩) dJ1_canEncode_9a6ad_16

set_option maxHeartbeats 4000000 in
set_option maxRecDepth 100000 in
theorem k_J1_indexOfChar_4cfef (l : Launch) (D : va_G) (cy : Nat → ClassId) (S : HS) (ki : Nat) (hki : ki < 6) (ch : Int32) (lo : Int32) (hlo0 : 0 ≤ lo.toInt) (hi : Int32) (h1 : hi.toInt ≤ ((pq_sg ki).2.2.2.length : Int)) : pq_C l D cy yJ1_indexOfChar_4cfef cJ1_indexOfChar_4cfef 6 (some .int) 1 0 0 S [.ref (cy (20 + ki)), .int ch, .int lo, .int hi] (fun v S2 => S2 = S ∧ ∃ x : Int32, v = some (.int x)) := by
  refine pq_start (by decide) (Nat.le_of_ble_eq_true rfl) ?_
  intro p e s m args below meth c A F hr hlk hnm hA
  have lqm1 : (-1 : Int32).toInt = -1 := rfl
  have lq0 : (0 : Int32).toInt = 0 := rfl
  have lq1 : (1 : Int32).toInt = 1 := rfl
  have hsl := pq_sgl _ hki
  have L7 : ∀  (fu : Nat)  (bb : Int32) (k : Int32)  (hk0 : 0 ≤ k.toInt), (hi.toInt - k.toInt).toNat < fu → pq_At p l e (pq_rm 1 0 0) s m args below meth c (pq_Z below args s D cy S 0 0 (fun v S2 => S2 = S ∧ ∃ x : Int32, v = some (.int x))) D cy A 6 0 0 7 S [some (.ref (cy (20 + ki))), some (.int ch), some (.int lo), some (.int hi), some (.int bb), some (.int k)] [] := by
    intro  fu
    induction fu with
    | zero => intro bb k hk0 hm; exact absurd hm (Nat.not_lt_zero _)
    | succ fu ih =>
      intro bb k hk0 hm
      refine pq_iload F dJ1_indexOfChar_4cfef_7 rfl ?_
      refine pq_iload_n F dJ1_indexOfChar_4cfef_9 rfl rfl ?_
      refine pq_icmp_ge (tgt := 31) F dJ1_indexOfChar_4cfef_10 (by decide) (fun c10 => ?_) (fun c10 => ?_)
      · skip
        refine pq_iconst (v := -1) F dJ1_indexOfChar_4cfef_31 (by decide) ?_
        exact pq_iret F hr hlk hA (Nat.le_refl _) (Nat.le_refl _) (⟨rfl, _, rfl⟩) dJ1_indexOfChar_4cfef_32
      · skip
        refine pq_aload_n F dJ1_indexOfChar_4cfef_13 rfl rfl ?_
        refine pq_iload F dJ1_indexOfChar_4cfef_14 rfl ?_
        refine pq_kbyt (i := ki) F hki (by focus (simp only [vp_in_iff, Int32.lt_iff_toInt_lt, Int32.le_iff_toInt_le, ← Int32.toInt_inj, Int32.toInt_add, Int32.toInt_sub, Int32.toInt_mul, Int32.toInt_neg, pq_NuO, pq_NuI, pq_NuJ, pq_NuR, pq_shr6, pq_shr7, pq_shr8, lqm1, lq0, lq1] at *; (try simp (disch := omega) only [pq_bm] at *); all_goals omega)) dJ1_indexOfChar_4cfef_16 ?_
        refine pq_iload F dJ1_indexOfChar_4cfef_17 rfl ?_
        refine pq_icmp_ne (tgt := 25) F dJ1_indexOfChar_4cfef_19 (by decide) (fun c19 => ?_) (fun c19 => ?_)
        · skip
          refine pq_iinc (v := 1) F dJ1_indexOfChar_4cfef_25 rfl (by decide) (by decide) ?_
          refine pq_goto (tgt := 7) F dJ1_indexOfChar_4cfef_28 (by decide) ?_
          exact pq_fgm [true, true, true, true, true, true] (ih _ _ (by focus (simp only [vp_in_iff, Int32.lt_iff_toInt_lt, Int32.le_iff_toInt_le, ← Int32.toInt_inj, Int32.toInt_add, Int32.toInt_sub, Int32.toInt_mul, Int32.toInt_neg, pq_NuO, pq_NuI, pq_NuJ, pq_NuR, pq_shr6, pq_shr7, pq_shr8, lqm1, lq0, lq1] at *; (try simp (disch := omega) only [pq_bm] at *); all_goals omega)) (by focus (simp only [vp_in_iff, Int32.lt_iff_toInt_lt, Int32.le_iff_toInt_le, ← Int32.toInt_inj, Int32.toInt_add, Int32.toInt_sub, Int32.toInt_mul, Int32.toInt_neg, pq_NuO, pq_NuI, pq_NuJ, pq_NuR, pq_shr6, pq_shr7, pq_shr8, lqm1, lq0, lq1] at *; (try simp (disch := omega) only [pq_bm] at *); all_goals omega)))
        · skip
          refine pq_iload F dJ1_indexOfChar_4cfef_22 rfl ?_
          exact pq_iret F hr hlk hA (Nat.le_refl _) (Nat.le_refl _) (⟨rfl, _, rfl⟩) dJ1_indexOfChar_4cfef_24
  refine pq_iload_n F dJ1_indexOfChar_4cfef_0 rfl rfl ?_
  refine pq_i2b F dJ1_indexOfChar_4cfef_1 ?_
  refine pq_istore F dJ1_indexOfChar_4cfef_2 (by decide) ?_
  refine pq_iload_n F dJ1_indexOfChar_4cfef_4 rfl rfl ?_
  refine pq_istore F dJ1_indexOfChar_4cfef_5 (by decide) ?_
  exact pq_fgm [true, true, true, true, true, true] (L7  100000 _ _  (by focus (simp only [vp_in_iff, Int32.lt_iff_toInt_lt, Int32.le_iff_toInt_le, ← Int32.toInt_inj, Int32.toInt_add, Int32.toInt_sub, Int32.toInt_mul, Int32.toInt_neg, pq_NuO, pq_NuI, pq_NuJ, pq_NuR, pq_shr6, pq_shr7, pq_shr8, lqm1, lq0, lq1] at *; (try simp (disch := omega) only [pq_bm] at *); all_goals omega)) (by focus (simp only [vp_in_iff, Int32.lt_iff_toInt_lt, Int32.le_iff_toInt_le, ← Int32.toInt_inj, Int32.toInt_add, Int32.toInt_sub, Int32.toInt_mul, Int32.toInt_neg, pq_NuO, pq_NuI, pq_NuJ, pq_NuR, pq_shr6, pq_shr7, pq_shr8, lqm1, lq0, lq1] at *; (try simp (disch := omega) only [pq_bm] at *); all_goals omega)))

set_option maxHeartbeats 4000000 in
set_option maxRecDepth 100000 in
theorem k_J1_indexOf_4cfef (l : Launch) (D : va_G) (cy : Nat → ClassId) (S : HS) (ki : Nat) (hki : ki < 6) (ch : Int32) (lo : Int32) (hi : Int32) : pq_C l D cy yJ1_indexOf_4cfef cJ1_indexOf_4cfef 4 (some .int) 2 0 0 S [.ref (cy (20 + ki)), .int ch, .int lo, .int hi] (fun v S2 => S2 = S ∧ ∃ x : Int32, v = some (.int x)) := by
  refine pq_start (by decide) (Nat.le_of_ble_eq_true rfl) ?_
  intro p e s m args below meth c A F hr hlk hnm hA
  have lqm1 : (-1 : Int32).toInt = -1 := rfl
  have lq0 : (0 : Int32).toInt = 0 := rfl
  have lq1 : (1 : Int32).toInt = 1 := rfl
  have hsl := pq_sgl _ hki
  have nq := nI_toInt (n := (pq_sg ki).2.2.2.length) (by omega)
  refine pq_iload_n F dJ1_indexOf_4cfef_0 rfl rfl ?_
  refine pq_callS (As := [_]) F (k_J1_canEncode_9a6ad l D cy _ _) ml_J1_88 (Nat.le_of_ble_eq_true rfl) ⟨Nat.le_of_ble_eq_true rfl, Nat.le_of_ble_eq_true rfl⟩ ⟨by decide, by decide⟩ dJ1_indexOf_4cfef_1 (fun v1 S1 w1 => ?_)
  obtain ⟨u1, y1, rfl, yl1_0, yl1_1⟩ := w1
  rw [u1]
  refine pq_if_ne (tgt := 9) F dJ1_indexOf_4cfef_4 (by decide) (fun c4 => ?_) (fun c4 => ?_)
  · skip
    refine pq_iload_n F dJ1_indexOf_4cfef_9 rfl rfl ?_
    refine pq_iconst (v := 0) F dJ1_indexOf_4cfef_10 (by decide) ?_
    refine pq_mmax F mx_J1_92 ⟨Nat.le_of_ble_eq_true rfl, Nat.le_of_ble_eq_true rfl⟩ (by decide) (by decide) dJ1_indexOf_4cfef_11 (fun y11 yl11_0 yl11_1 yl11_2 => ?_)
    refine pq_istore_n F dJ1_indexOf_4cfef_14 rfl (by decide) ?_
    refine pq_iload_n F dJ1_indexOf_4cfef_15 rfl rfl ?_
    refine pq_aload_n F dJ1_indexOf_4cfef_16 rfl rfl ?_
    refine pq_klen (i := ki) F hki dJ1_indexOf_4cfef_17 ?_
    refine pq_mmin2 F mn_J1_38 ⟨Nat.le_of_ble_eq_true rfl, Nat.le_of_ble_eq_true rfl⟩ (by decide) (by decide) dJ1_indexOf_4cfef_18 (fun y18 yl18_0 yl18_1 yl18_2 => ?_)
    refine pq_istore_n F dJ1_indexOf_4cfef_21 rfl (by decide) ?_
    refine pq_iload_n F dJ1_indexOf_4cfef_22 rfl rfl ?_
    refine pq_iload_n F dJ1_indexOf_4cfef_23 rfl rfl ?_
    refine pq_icmp_lt (tgt := 29) F dJ1_indexOf_4cfef_24 (by decide) (fun c24 => ?_) (fun c24 => ?_)
    · skip
      refine pq_aload_n F dJ1_indexOf_4cfef_29 rfl rfl ?_
      refine pq_iload_n F dJ1_indexOf_4cfef_30 rfl rfl ?_
      refine pq_iload_n F dJ1_indexOf_4cfef_31 rfl rfl ?_
      refine pq_iload_n F dJ1_indexOf_4cfef_32 rfl rfl ?_
      refine pq_callS (As := [_, _, _, _]) F (k_J1_indexOfChar_4cfef l D cy _ ki ?_ _ _ ?_ _ ?_) ml_J1_95 (Nat.le_of_ble_eq_true rfl) ⟨Nat.le_of_ble_eq_true rfl, Nat.le_of_ble_eq_true rfl⟩ ⟨by decide, by decide⟩ dJ1_indexOf_4cfef_33 (fun v33 S33 w33 => ?_)
      · exact hki
      · focus (simp only [vp_in_iff, Int32.lt_iff_toInt_lt, Int32.le_iff_toInt_le, ← Int32.toInt_inj, Int32.toInt_add, Int32.toInt_sub, Int32.toInt_mul, Int32.toInt_neg, pq_NuO, pq_NuI, pq_NuJ, pq_NuR, pq_shr6, pq_shr7, pq_shr8, lqm1, lq0, lq1] at *; (try simp (disch := omega) only [pq_bm] at *); all_goals omega)
      · focus (simp only [vp_in_iff, Int32.lt_iff_toInt_lt, Int32.le_iff_toInt_le, ← Int32.toInt_inj, Int32.toInt_add, Int32.toInt_sub, Int32.toInt_mul, Int32.toInt_neg, pq_NuO, pq_NuI, pq_NuJ, pq_NuR, pq_shr6, pq_shr7, pq_shr8, lqm1, lq0, lq1] at *; (try simp (disch := omega) only [pq_bm] at *); all_goals omega)
      obtain ⟨u33, y33, rfl⟩ := w33
      rw [u33]
      exact pq_iret F hr hlk hA (Nat.le_refl _) (Nat.le_refl _) (⟨rfl, _, rfl⟩) dJ1_indexOf_4cfef_36
    · skip
      refine pq_iconst (v := -1) F dJ1_indexOf_4cfef_27 (by decide) ?_
      exact pq_iret F hr hlk hA (Nat.le_refl _) (Nat.le_refl _) (⟨rfl, _, rfl⟩) dJ1_indexOf_4cfef_28
  · skip
    refine pq_iconst (v := -1) F dJ1_indexOf_4cfef_7 (by decide) ?_
    exact pq_iret F hr hlk hA (Nat.le_refl _) (Nat.le_refl _) (⟨rfl, _, rfl⟩) dJ1_indexOf_4cfef_8

set_option maxHeartbeats 4000000 in
set_option maxRecDepth 100000 in
theorem k_J0_isLatin1_aae02 (l : Launch) (D : va_G) (cy : Nat → ClassId) (S : HS) (ki : Nat) (hki : ki < 6) : pq_C l D cy yJ0_isLatin1_aae02 cJ0_isLatin1_aae02 1 (some .boolean) 1 0 0 S [.ref (cy (10 + ki))] (fun v S2 => S2 = S ∧ ∃ x : Int32, v = some (.int x) ∧ 0 ≤ x.toInt ∧ x.toInt ≤ 1 ∧ (x = 1)) := by
  refine pq_start (by decide) (Nat.le_of_ble_eq_true rfl) ?_
  intro p e s m args below meth c A F hr hlk hnm hA
  have lqm1 : (-1 : Int32).toInt = -1 := rfl
  have lq0 : (0 : Int32).toInt = 0 := rfl
  have lq1 : (1 : Int32).toInt = 1 := rfl
  refine pq_kcs F fl_J0_38 dJ0_isLatin1_aae02_0 ?_
  refine pq_if_eq (tgt := 17) F dJ0_isLatin1_aae02_3 (by decide) (fun c3 => ?_) (fun c3 => ?_)
  · exact absurd c3 (by decide)
  · skip
    refine pq_aload_n F dJ0_isLatin1_aae02_6 rfl rfl ?_
    refine pq_kcod (i := ki) F hki fl_J0_15 dJ0_isLatin1_aae02_7 ?_
    refine pq_if_ne (tgt := 17) F dJ0_isLatin1_aae02_10 (by decide) (fun c10 => ?_) (fun c10 => ?_)
    · exact absurd rfl c10
    · skip
      refine pq_iconst (v := 1) F dJ0_isLatin1_aae02_13 (by decide) ?_
      refine pq_goto (tgt := 18) F dJ0_isLatin1_aae02_14 (by decide) ?_
      exact pq_zret F hr hlk hA rfl (Nat.le_refl _) (Nat.le_refl _) (⟨rfl, 1, rfl, (by focus (simp only [vp_in_iff, Int32.lt_iff_toInt_lt, Int32.le_iff_toInt_le, ← Int32.toInt_inj, Int32.toInt_add, Int32.toInt_sub, Int32.toInt_mul, Int32.toInt_neg, pq_NuO, pq_NuI, pq_NuJ, pq_NuR, pq_shr6, pq_shr7, pq_shr8, lqm1, lq0, lq1] at *; (try simp (disch := omega) only [pq_bm] at *); all_goals omega)), (by focus (simp only [vp_in_iff, Int32.lt_iff_toInt_lt, Int32.le_iff_toInt_le, ← Int32.toInt_inj, Int32.toInt_add, Int32.toInt_sub, Int32.toInt_mul, Int32.toInt_neg, pq_NuO, pq_NuI, pq_NuJ, pq_NuR, pq_shr6, pq_shr7, pq_shr8, lqm1, lq0, lq1] at *; (try simp (disch := omega) only [pq_bm] at *); all_goals omega)), rfl⟩) dJ0_isLatin1_aae02_18

set_option maxHeartbeats 4000000 in
set_option maxRecDepth 100000 in
theorem k_J0_coder_7d493 (l : Launch) (D : va_G) (cy : Nat → ClassId) (S : HS) (ki : Nat) (hki : ki < 6) : pq_C l D cy yJ0_coder_7d493 cJ0_coder_7d493 1 (some .byte) 1 0 0 S [.ref (cy (10 + ki))] (fun v S2 => S2 = S ∧ ∃ x : Int32, v = some (.int x) ∧ 0 ≤ x.toInt ∧ x.toInt ≤ 0) := by
  refine pq_start (by decide) (Nat.le_of_ble_eq_true rfl) ?_
  intro p e s m args below meth c A F hr hlk hnm hA
  have lqm1 : (-1 : Int32).toInt = -1 := rfl
  have lq0 : (0 : Int32).toInt = 0 := rfl
  have lq1 : (1 : Int32).toInt = 1 := rfl
  refine pq_kcs F fl_J0_38 dJ0_coder_7d493_0 ?_
  refine pq_if_eq (tgt := 13) F dJ0_coder_7d493_3 (by decide) (fun c3 => ?_) (fun c3 => ?_)
  · exact absurd c3 (by decide)
  · skip
    refine pq_aload_n F dJ0_coder_7d493_6 rfl rfl ?_
    refine pq_kcod (i := ki) F hki fl_J0_15 dJ0_coder_7d493_7 ?_
    refine pq_goto (tgt := 14) F dJ0_coder_7d493_10 (by decide) ?_
    exact pq_bret F hr hlk hA rfl (Nat.le_refl _) (Nat.le_refl _) (⟨rfl, _, rfl, (by focus (simp only [vp_in_iff, Int32.lt_iff_toInt_lt, Int32.le_iff_toInt_le, ← Int32.toInt_inj, Int32.toInt_add, Int32.toInt_sub, Int32.toInt_mul, Int32.toInt_neg, pq_NuO, pq_NuI, pq_NuJ, pq_NuR, pq_shr6, pq_shr7, pq_shr8, lqm1, lq0, lq1] at *; (try simp (disch := omega) only [pq_bm] at *); all_goals omega)), (by focus (simp only [vp_in_iff, Int32.lt_iff_toInt_lt, Int32.le_iff_toInt_le, ← Int32.toInt_inj, Int32.toInt_add, Int32.toInt_sub, Int32.toInt_mul, Int32.toInt_neg, pq_NuO, pq_NuI, pq_NuJ, pq_NuR, pq_shr6, pq_shr7, pq_shr8, lqm1, lq0, lq1] at *; (try simp (disch := omega) only [pq_bm] at *); all_goals omega))⟩) dJ0_coder_7d493_14

set_option maxHeartbeats 4000000 in
set_option maxRecDepth 100000 in
theorem k_J0_length_8abf5 (l : Launch) (D : va_G) (cy : Nat → ClassId) (S : HS) (ki : Nat) (hki : ki < 6) : pq_C l D cy yJ0_length_8abf5 cJ0_length_8abf5 1 (some .int) 2 0 0 S [.ref (cy (10 + ki))] (fun v S2 => S2 = S ∧ ∃ x : Int32, v = some (.int x)) := by
  refine pq_start (by decide) (Nat.le_of_ble_eq_true rfl) ?_
  intro p e s m args below meth c A F hr hlk hnm hA
  have lqm1 : (-1 : Int32).toInt = -1 := rfl
  have lq0 : (0 : Int32).toInt = 0 := rfl
  have lq1 : (1 : Int32).toInt = 1 := rfl
  refine pq_aload_n F dJ0_length_8abf5_0 rfl rfl ?_
  refine pq_kval (i := ki) F hki fl_J0_9 dJ0_length_8abf5_1 ?_
  refine pq_klen (i := ki) F hki dJ0_length_8abf5_4 ?_
  refine pq_aload_n F dJ0_length_8abf5_5 rfl rfl ?_
  refine pq_kcallV (As := []) F hki (k_J0_coder_7d493 l D cy _ _ ?_) ml_J0_335 rfl (Nat.le_of_ble_eq_true rfl) ⟨Nat.le_of_ble_eq_true rfl, Nat.le_of_ble_eq_true rfl⟩ ⟨by decide, by decide⟩ dJ0_length_8abf5_6 (fun v6 S6 w6 => ?_)
  · exact hki
  obtain ⟨u6, y6, rfl, yl6_0, yl6_1⟩ := w6
  rw [u6]
  refine pq_ishr F dJ0_length_8abf5_9 ?_
  exact pq_iret F hr hlk hA (Nat.le_refl _) (Nat.le_refl _) (⟨rfl, _, rfl⟩) dJ0_length_8abf5_10

set_option maxHeartbeats 4000000 in
set_option maxRecDepth 100000 in
theorem k_J0_indexOf_7cf53 (l : Launch) (D : va_G) (cy : Nat → ClassId) (S : HS) (ki : Nat) (hki : ki < 6) (ch : Int32) (lo : Int32) : pq_C l D cy yJ0_indexOf_7cf53 cJ0_indexOf_7cf53 3 (some .int) 3 0 0 S [.ref (cy (10 + ki)), .int ch, .int lo] (fun v S2 => S2 = S ∧ ∃ x : Int32, v = some (.int x)) := by
  refine pq_start (by decide) (Nat.le_of_ble_eq_true rfl) ?_
  intro p e s m args below meth c A F hr hlk hnm hA
  have lqm1 : (-1 : Int32).toInt = -1 := rfl
  have lq0 : (0 : Int32).toInt = 0 := rfl
  have lq1 : (1 : Int32).toInt = 1 := rfl
  refine pq_aload_n F dJ0_indexOf_7cf53_0 rfl rfl ?_
  refine pq_kcallV (As := []) F hki (k_J0_isLatin1_aae02 l D cy _ _ ?_) ml_J0_492 rfl (Nat.le_of_ble_eq_true rfl) ⟨Nat.le_of_ble_eq_true rfl, Nat.le_of_ble_eq_true rfl⟩ ⟨by decide, by decide⟩ dJ0_indexOf_7cf53_1 (fun v1 S1 w1 => ?_)
  · exact hki
  obtain ⟨u1, y1, rfl, yl1_0, yl1_1, p1⟩ := w1
  rw [u1]
  try rw [u1] at p1
  refine pq_if_eq (tgt := 23) F dJ0_indexOf_7cf53_4 (by decide) (fun c4 => ?_) (fun c4 => ?_)
  · exact absurd c4 (by rw [p1]; decide)
  · skip
    refine pq_aload_n F dJ0_indexOf_7cf53_7 rfl rfl ?_
    refine pq_kval (i := ki) F hki fl_J0_9 dJ0_indexOf_7cf53_8 ?_
    refine pq_iload_n F dJ0_indexOf_7cf53_11 rfl rfl ?_
    refine pq_iload_n F dJ0_indexOf_7cf53_12 rfl rfl ?_
    refine pq_aload_n F dJ0_indexOf_7cf53_13 rfl rfl ?_
    refine pq_kcallV (As := []) F hki (k_J0_length_8abf5 l D cy _ _ ?_) ml_J0_505 rfl (Nat.le_of_ble_eq_true rfl) ⟨Nat.le_of_ble_eq_true rfl, Nat.le_of_ble_eq_true rfl⟩ ⟨by decide, by decide⟩ dJ0_indexOf_7cf53_14 (fun v14 S14 w14 => ?_)
    · exact hki
    obtain ⟨u14, y14, rfl⟩ := w14
    rw [u14]
    refine pq_callS (As := [_, _, _, _]) F (k_J1_indexOf_4cfef l D cy _ ki ?_ _ _ _) ml_J0_637 (Nat.le_of_ble_eq_true rfl) ⟨Nat.le_of_ble_eq_true rfl, Nat.le_of_ble_eq_true rfl⟩ ⟨by decide, by decide⟩ dJ0_indexOf_7cf53_17 (fun v17 S17 w17 => ?_)
    · exact hki
    obtain ⟨u17, y17, rfl⟩ := w17
    rw [u17]
    refine pq_goto (tgt := 36) F dJ0_indexOf_7cf53_20 (by decide) ?_
    exact pq_iret F hr hlk hA (Nat.le_refl _) (Nat.le_refl _) (⟨rfl, _, rfl⟩) dJ0_indexOf_7cf53_36

set_option maxHeartbeats 4000000 in
set_option maxRecDepth 100000 in
theorem k_J0_indexOf_0f7a4 (l : Launch) (D : va_G) (cy : Nat → ClassId) (S : HS) (ki : Nat) (hki : ki < 6) (ch : Int32) : pq_C l D cy yJ0_indexOf_0f7a4 cJ0_indexOf_0f7a4 2 (some .int) 4 0 0 S [.ref (cy (10 + ki)), .int ch] (fun v S2 => S2 = S ∧ ∃ x : Int32, v = some (.int x)) := by
  refine pq_start (by decide) (Nat.le_of_ble_eq_true rfl) ?_
  intro p e s m args below meth c A F hr hlk hnm hA
  have lqm1 : (-1 : Int32).toInt = -1 := rfl
  have lq0 : (0 : Int32).toInt = 0 := rfl
  have lq1 : (1 : Int32).toInt = 1 := rfl
  refine pq_aload_n F dJ0_indexOf_0f7a4_0 rfl rfl ?_
  refine pq_iload_n F dJ0_indexOf_0f7a4_1 rfl rfl ?_
  refine pq_iconst (v := 0) F dJ0_indexOf_0f7a4_2 (by decide) ?_
  refine pq_kcallV (As := [_, _]) F hki (k_J0_indexOf_7cf53 l D cy _ _ ?_ _ _) ml_J0_633 rfl (Nat.le_of_ble_eq_true rfl) ⟨Nat.le_of_ble_eq_true rfl, Nat.le_of_ble_eq_true rfl⟩ ⟨by decide, by decide⟩ dJ0_indexOf_0f7a4_3 (fun v3 S3 w3 => ?_)
  · exact hki
  obtain ⟨u3, y3, rfl⟩ := w3
  rw [u3]
  exact pq_iret F hr hlk hA (Nat.le_refl _) (Nat.le_refl _) (⟨rfl, _, rfl⟩) dJ0_indexOf_0f7a4_6

