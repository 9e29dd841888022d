set_option maxHeartbeats 4000000 in
set_option maxRecDepth 100000 in
theorem k_X11_kindOf (l : Launch) (D : va_G) (cy : Nat → ClassId) (S : HS) (a : Nat) (ha : pq_R S a 14) (x : Int32) (h0 : 0 ≤ x.toInt) (h1 : x.toInt ≤ 400) : pq_C l D cy yX11_kindOf cX11_kindOf 2 (some .int) 1 0 0 S [.ref a, .int x] (fun v S2 => S2 = S ∧ ∃ x : Int32, v = some (.int x)) := by
  refine pq_start (by decide) (Nat.le_of_ble_eq_true rfl) ?_
  intro p e s m args below meth c A F hr hlk hnm hA
  have qm1 : (-1 : Int32).toInt = -1 := rfl
  have q0 : (0 : Int32).toInt = 0 := rfl
  have q1 : (1 : Int32).toInt = 1 := rfl
  refine pq_aload_n F dX11_kindOf_0 rfl rfl ?_
  refine pq_getR F ha (by decide) lk_X11_184 rfl dX11_kindOf_1 (fun r1 e1 h1 => ?_)
  refine pq_iload_n F dX11_kindOf_4 rfl rfl ?_
  refine pq_zald F h1 (by decide) (by decide) rfl (fun n1_5 n2_5 => (by simp only [vp_in_iff, Int32.lt_iff_toInt_lt, Int32.le_iff_toInt_le, ← Int32.toInt_inj, Int32.toInt_add, Int32.toInt_sub, Int32.toInt_mul, Int32.toInt_neg, pq_NuO, pq_NuI, pq_NuJ, qm1, q0, q1] at *; (try simp (disch := omega) only [pq_bm] at *); all_goals omega)) dX11_kindOf_5 (fun x5 e5 l5 u5 => ?_)
  refine pq_if_eq (tgt := 18) F dX11_kindOf_6 (by decide) (fun c6 => ?_) (fun c6 => ?_)
  · skip
    refine pq_iconst (v := -1) F dX11_kindOf_18 (by decide) ?_
    exact pq_iret F hr hlk hA (Nat.le_refl _) (Nat.le_refl _) (⟨rfl, _, rfl⟩) dX11_kindOf_19
  · skip
    refine pq_aload_n F dX11_kindOf_9 rfl rfl ?_
    refine pq_getR F ha (by decide) lk_X11_187 rfl dX11_kindOf_10 (fun r10 e10 h10 => ?_)
    refine pq_iload_n F dX11_kindOf_13 rfl rfl ?_
    refine pq_iald F h10 (by decide) (by decide) rfl (fun n1_14 n2_14 => (by simp only [vp_in_iff, Int32.lt_iff_toInt_lt, Int32.le_iff_toInt_le, ← Int32.toInt_inj, Int32.toInt_add, Int32.toInt_sub, Int32.toInt_mul, Int32.toInt_neg, pq_NuO, pq_NuI, pq_NuJ, qm1, q0, q1] at *; (try simp (disch := omega) only [pq_bm] at *); all_goals omega)) dX11_kindOf_14 (fun x14 e14 l14 u14 => ?_)
    refine pq_goto (tgt := 19) F dX11_kindOf_15 (by decide) ?_
    exact pq_iret F hr hlk hA (Nat.le_refl _) (Nat.le_refl _) (⟨rfl, _, rfl⟩) dX11_kindOf_19

set_option maxHeartbeats 4000000 in
set_option maxRecDepth 100000 in
theorem k_X11_isSet (l : Launch) (D : va_G) (cy : Nat → ClassId) (S : HS) (a : Nat) (ha : pq_R S a 14) (x : Int32) (h0 : 0 ≤ x.toInt) (h1 : x.toInt ≤ 400) : pq_C l D cy yX11_isSet cX11_isSet 3 (some .boolean) 1 0 0 S [.ref a, .int x] (fun v S2 => S2 = S ∧ ∃ x : Int32, v = some (.int x) ∧ 0 ≤ x.toInt ∧ x.toInt ≤ 1) := by
  refine pq_start (by decide) (Nat.le_of_ble_eq_true rfl) ?_
  intro p e s m args below meth c A F hr hlk hnm hA
  have qm1 : (-1 : Int32).toInt = -1 := rfl
  have q0 : (0 : Int32).toInt = 0 := rfl
  have q1 : (1 : Int32).toInt = 1 := rfl
  have q7 : (7 : Int32).toInt = 7 := rfl
  have L2 : ∀  (fu : Nat) (k : Int32) (hk0 : 0 ≤ k.toInt) (hk1 : k.toInt ≤ 7), (7 - k.toInt).toNat < fu → pq_At p l e (pq_rm 1 0 0) s m args below meth c (pq_Z below args s D cy S 0 0 (fun v S2 => S2 = S ∧ ∃ x : Int32, v = some (.int x) ∧ 0 ≤ x.toInt ∧ x.toInt ≤ 1)) D cy A 3 0 0 2 S [some (.ref a), some (.int x), some (.int k)] [] := by
    intro  fu
    induction fu with
    | zero => intro k hk0 hk1 hm; exact absurd hm (Nat.not_lt_zero _)
    | succ fu ih =>
      intro k hk0 hk1 hm
      refine pq_iload_n F dX11_isSet_2 rfl rfl ?_
      refine pq_bipush (v := 7) F dX11_isSet_3 (by decide) ?_
      refine pq_icmp_ge (tgt := 37) F dX11_isSet_5 (by decide) (fun c5 => ?_) (fun c5 => ?_)
      · skip
        refine pq_iconst (v := 1) F dX11_isSet_37 (by decide) ?_
        exact pq_zret F hr hlk hA rfl (Nat.le_refl _) (Nat.le_refl _) (⟨rfl, _, rfl, by decide, by decide⟩) dX11_isSet_38
      · skip
        refine pq_aload_n F dX11_isSet_8 rfl rfl ?_
        refine pq_getR F ha (by decide) lk_X11_136 rfl dX11_isSet_9 (fun r9 e9 h9 => ?_)
        refine pq_bipush (v := 7) F dX11_isSet_12 (by decide) ?_
        refine pq_iload_n F dX11_isSet_14 rfl rfl ?_
        refine pq_imul F dX11_isSet_15 ?_
        refine pq_iload_n F dX11_isSet_16 rfl rfl ?_
        refine pq_iadd F dX11_isSet_17 ?_
        refine pq_lald F h9 (by decide) (by decide) rfl (fun n1_18 n2_18 => (by simp only [vp_in_iff, Int32.lt_iff_toInt_lt, Int32.le_iff_toInt_le, ← Int32.toInt_inj, Int32.toInt_add, Int32.toInt_sub, Int32.toInt_mul, Int32.toInt_neg, pq_NuO, pq_NuI, pq_NuJ, qm1, q0, q1, q7] at *; (try simp (disch := omega) only [pq_bm] at *); all_goals omega)) dX11_isSet_18 (fun x18 e18 => ?_)
        refine pq_aload_n F dX11_isSet_19 rfl rfl ?_
        refine pq_getR F ha (by decide) lk_X11_139 rfl dX11_isSet_20 (fun r20 e20 h20 => ?_)
        refine pq_iload_n F dX11_isSet_23 rfl rfl ?_
        refine pq_lald F h20 (by decide) (by decide) rfl (fun n1_24 n2_24 => (by simp only [vp_in_iff, Int32.lt_iff_toInt_lt, Int32.le_iff_toInt_le, ← Int32.toInt_inj, Int32.toInt_add, Int32.toInt_sub, Int32.toInt_mul, Int32.toInt_neg, pq_NuO, pq_NuI, pq_NuJ, qm1, q0, q1, q7] at *; (try simp (disch := omega) only [pq_bm] at *); all_goals omega)) dX11_isSet_24 (fun x24 e24 => ?_)
        refine pq_lcmp F dX11_isSet_25 ?_
        refine pq_if_eq (tgt := 31) F dX11_isSet_26 (by decide) (fun c26 => ?_) (fun c26 => ?_)
        · skip
          refine pq_iinc (v := 1) F dX11_isSet_31 rfl (by decide) (by decide) ?_
          refine pq_goto (tgt := 2) F dX11_isSet_34 (by decide) ?_
          exact ih _ (by simp only [vp_in_iff, Int32.lt_iff_toInt_lt, Int32.le_iff_toInt_le, ← Int32.toInt_inj, Int32.toInt_add, Int32.toInt_sub, Int32.toInt_mul, Int32.toInt_neg, pq_NuO, pq_NuI, pq_NuJ, qm1, q0, q1, q7] at *; (try simp (disch := omega) only [pq_bm] at *); all_goals omega) (by simp only [vp_in_iff, Int32.lt_iff_toInt_lt, Int32.le_iff_toInt_le, ← Int32.toInt_inj, Int32.toInt_add, Int32.toInt_sub, Int32.toInt_mul, Int32.toInt_neg, pq_NuO, pq_NuI, pq_NuJ, qm1, q0, q1, q7] at *; (try simp (disch := omega) only [pq_bm] at *); all_goals omega) (by simp only [vp_in_iff, Int32.lt_iff_toInt_lt, Int32.le_iff_toInt_le, ← Int32.toInt_inj, Int32.toInt_add, Int32.toInt_sub, Int32.toInt_mul, Int32.toInt_neg, pq_NuO, pq_NuI, pq_NuJ, qm1, q0, q1, q7] at *; (try simp (disch := omega) only [pq_bm] at *); all_goals omega)
        · skip
          refine pq_iconst (v := 0) F dX11_isSet_29 (by decide) ?_
          exact pq_zret F hr hlk hA rfl (Nat.le_refl _) (Nat.le_refl _) (⟨rfl, _, rfl, by decide, by decide⟩) dX11_isSet_30
  refine pq_iconst (v := 0) F dX11_isSet_0 (by decide) ?_
  refine pq_istore_n F dX11_isSet_1 rfl (by decide) ?_
  exact L2 100 _ (by simp only [vp_in_iff, Int32.lt_iff_toInt_lt, Int32.le_iff_toInt_le, ← Int32.toInt_inj, Int32.toInt_add, Int32.toInt_sub, Int32.toInt_mul, Int32.toInt_neg, pq_NuO, pq_NuI, pq_NuJ, qm1, q0, q1, q7] at *; (try simp (disch := omega) only [pq_bm] at *); all_goals omega) (by simp only [vp_in_iff, Int32.lt_iff_toInt_lt, Int32.le_iff_toInt_le, ← Int32.toInt_inj, Int32.toInt_add, Int32.toInt_sub, Int32.toInt_mul, Int32.toInt_neg, pq_NuO, pq_NuI, pq_NuJ, qm1, q0, q1, q7] at *; (try simp (disch := omega) only [pq_bm] at *); all_goals omega) (by simp only [vp_in_iff, Int32.lt_iff_toInt_lt, Int32.le_iff_toInt_le, ← Int32.toInt_inj, Int32.toInt_add, Int32.toInt_sub, Int32.toInt_mul, Int32.toInt_neg, pq_NuO, pq_NuI, pq_NuJ, qm1, q0, q1, q7] at *; (try simp (disch := omega) only [pq_bm] at *); all_goals omega)

set_option maxHeartbeats 4000000 in
set_option maxRecDepth 100000 in
theorem k_X11_mixtureOf (l : Launch) (D : va_G) (cy : Nat → ClassId) (S : HS) (a : Nat) (ha : pq_R S a 14) (x : Int32) (h0 : 0 ≤ x.toInt) (h1 : x.toInt ≤ 400) : pq_C l D cy yX11_mixtureOf cX11_mixtureOf 4 (some .int) 2 0 0 S [.ref a, .int x] (fun v S2 => S2 = S ∧ ∃ y : Int32, v = some (.int y) ∧ 0 ≤ y.toInt ∧ y.toInt ≤ 1023) := by
  refine pq_start (by decide) (Nat.le_of_ble_eq_true rfl) ?_
  intro p e s m args below meth c A F hr hlk hnm hA
  have qm1 : (-1 : Int32).toInt = -1 := rfl
  have q0 : (0 : Int32).toInt = 0 := rfl
  have q1 : (1 : Int32).toInt = 1 := rfl
  have q15 : (15 : Int32).toInt = 15 := rfl
  have q31 : (31 : Int32).toInt = 31 := rfl
  have q128 : (128 : Int32).toInt = 128 := rfl
  have q1023 : (1023 : Int32).toInt = 1023 := rfl
  have L9 : ∀  (fu : Nat) (h k : Int32) (hk0 : 0 ≤ k.toInt) (hk1 : k.toInt ≤ 128), (128 - k.toInt).toNat < fu → pq_At p l e (pq_rm 2 0 0) s m args below meth c (pq_Z below args s D cy S 0 0 (fun v S2 => S2 = S ∧ ∃ y : Int32, v = some (.int y) ∧ 0 ≤ y.toInt ∧ y.toInt ≤ 1023)) D cy A 4 0 0 9 S [some (.ref a), some (.int x), some (.int h), some (.int k)] [] := by
    intro  fu
    induction fu with
    | zero => intro h k hk0 hk1 hm; exact absurd hm (Nat.not_lt_zero _)
    | succ fu ih =>
      intro h k hk0 hk1 hm
      refine pq_iload_n F dX11_mixtureOf_9 rfl rfl ?_
      refine pq_sipush (v := 128) F dX11_mixtureOf_10 (by decide) ?_
      refine pq_icmp_ge (tgt := 44) F dX11_mixtureOf_13 (by decide) (fun c13 => ?_) (fun c13 => ?_)
      · skip
        refine pq_iload_n F dX11_mixtureOf_44 rfl rfl ?_
        refine pq_iload_n F dX11_mixtureOf_45 rfl rfl ?_
        refine pq_bipush (v := 15) F dX11_mixtureOf_46 (by decide) ?_
        refine pq_iushr F dX11_mixtureOf_48 ?_
        refine pq_ixor F dX11_mixtureOf_49 ?_
        refine pq_sipush (v := 1023) F dX11_mixtureOf_50 (by decide) ?_
        refine pq_iand F dX11_mixtureOf_53 ?_
        exact pq_iret F hr hlk hA (Nat.le_refl _) (Nat.le_refl _) (⟨rfl, _, rfl, (pq_and1023 _).1, (pq_and1023 _).2⟩) dX11_mixtureOf_54
      · skip
        refine pq_bipush (v := 31) F dX11_mixtureOf_16 (by decide) ?_
        refine pq_iload_n F dX11_mixtureOf_18 rfl rfl ?_
        refine pq_imul F dX11_mixtureOf_19 ?_
        refine pq_aload_n F dX11_mixtureOf_20 rfl rfl ?_
        refine pq_aload_n F dX11_mixtureOf_21 rfl rfl ?_
        refine pq_getR F ha (by decide) lk_X11_181 rfl dX11_mixtureOf_22 (fun r22 e22 h22 => ?_)
        refine pq_sipush (v := 128) F dX11_mixtureOf_25 (by decide) ?_
        refine pq_iload_n F dX11_mixtureOf_28 rfl rfl ?_
        refine pq_imul F dX11_mixtureOf_29 ?_
        refine pq_iload_n F dX11_mixtureOf_30 rfl rfl ?_
        refine pq_iadd F dX11_mixtureOf_31 ?_
        refine pq_iald F h22 (by decide) (by decide) rfl (fun n1_32 n2_32 => (by simp only [vp_in_iff, Int32.lt_iff_toInt_lt, Int32.le_iff_toInt_le, ← Int32.toInt_inj, Int32.toInt_add, Int32.toInt_sub, Int32.toInt_mul, Int32.toInt_neg, pq_NuO, pq_NuI, pq_NuJ, qm1, q0, q1, q15, q31, q128, q1023] at *; (try simp (disch := omega) only [pq_bm] at *); all_goals omega)) dX11_mixtureOf_32 (fun x32 e32 l32 u32 => ?_)
        refine pq_callV (As := [_]) F (k_X11_kindOf l D cy _ _ ?_ _ ?_ ?_) ml_X11_190 ha (by decide) rfl (Nat.le_of_ble_eq_true rfl) ⟨Nat.le_of_ble_eq_true rfl, Nat.le_of_ble_eq_true rfl⟩ ⟨by decide, by decide⟩ dX11_mixtureOf_33 (fun v33 S33 w33 => ?_)
        · exact ha
        · simp only [vp_in_iff, Int32.lt_iff_toInt_lt, Int32.le_iff_toInt_le, ← Int32.toInt_inj, Int32.toInt_add, Int32.toInt_sub, Int32.toInt_mul, Int32.toInt_neg, pq_NuO, pq_NuI, pq_NuJ, qm1, q0, q1, q15, q31, q128, q1023] at *; (try simp (disch := omega) only [pq_bm] at *); all_goals omega
        · simp only [vp_in_iff, Int32.lt_iff_toInt_lt, Int32.le_iff_toInt_le, ← Int32.toInt_inj, Int32.toInt_add, Int32.toInt_sub, Int32.toInt_mul, Int32.toInt_neg, pq_NuO, pq_NuI, pq_NuJ, qm1, q0, q1, q15, q31, q128, q1023] at *; (try simp (disch := omega) only [pq_bm] at *); all_goals omega
        obtain ⟨rfl, z33, rfl⟩ := w33
        refine pq_iadd F dX11_mixtureOf_36 ?_
        refine pq_istore_n F dX11_mixtureOf_37 rfl (by decide) ?_
        refine pq_iinc (v := 1) F dX11_mixtureOf_38 rfl (by decide) (by decide) ?_
        refine pq_goto (tgt := 9) F dX11_mixtureOf_41 (by decide) ?_
        exact ih _ _ (by simp only [vp_in_iff, Int32.lt_iff_toInt_lt, Int32.le_iff_toInt_le, ← Int32.toInt_inj, Int32.toInt_add, Int32.toInt_sub, Int32.toInt_mul, Int32.toInt_neg, pq_NuO, pq_NuI, pq_NuJ, qm1, q0, q1, q15, q31, q128, q1023] at *; (try simp (disch := omega) only [pq_bm] at *); all_goals omega) (by simp only [vp_in_iff, Int32.lt_iff_toInt_lt, Int32.le_iff_toInt_le, ← Int32.toInt_inj, Int32.toInt_add, Int32.toInt_sub, Int32.toInt_mul, Int32.toInt_neg, pq_NuO, pq_NuI, pq_NuJ, qm1, q0, q1, q15, q31, q128, q1023] at *; (try simp (disch := omega) only [pq_bm] at *); all_goals omega) (by simp only [vp_in_iff, Int32.lt_iff_toInt_lt, Int32.le_iff_toInt_le, ← Int32.toInt_inj, Int32.toInt_add, Int32.toInt_sub, Int32.toInt_mul, Int32.toInt_neg, pq_NuO, pq_NuI, pq_NuJ, qm1, q0, q1, q15, q31, q128, q1023] at *; (try simp (disch := omega) only [pq_bm] at *); all_goals omega)
  refine pq_aload_n F dX11_mixtureOf_0 rfl rfl ?_
  refine pq_getR F ha (by decide) lk_X11_187 rfl dX11_mixtureOf_1 (fun r1 e1 h1 => ?_)
  refine pq_iload_n F dX11_mixtureOf_4 rfl rfl ?_
  refine pq_iald F h1 (by decide) (by decide) rfl (fun n1_5 n2_5 => (by simp only [vp_in_iff, Int32.lt_iff_toInt_lt, Int32.le_iff_toInt_le, ← Int32.toInt_inj, Int32.toInt_add, Int32.toInt_sub, Int32.toInt_mul, Int32.toInt_neg, pq_NuO, pq_NuI, pq_NuJ, qm1, q0, q1, q15, q31, q128, q1023] at *; (try simp (disch := omega) only [pq_bm] at *); all_goals omega)) dX11_mixtureOf_5 (fun x5 e5 l5 u5 => ?_)
  refine pq_istore_n F dX11_mixtureOf_6 rfl (by decide) ?_
  refine pq_iconst (v := 0) F dX11_mixtureOf_7 (by decide) ?_
  refine pq_istore_n F dX11_mixtureOf_8 rfl (by decide) ?_
  exact L9 1000 _ _ (by simp only [vp_in_iff, Int32.lt_iff_toInt_lt, Int32.le_iff_toInt_le, ← Int32.toInt_inj, Int32.toInt_add, Int32.toInt_sub, Int32.toInt_mul, Int32.toInt_neg, pq_NuO, pq_NuI, pq_NuJ, qm1, q0, q1, q15, q31, q128, q1023] at *; (try simp (disch := omega) only [pq_bm] at *); all_goals omega) (by simp only [vp_in_iff, Int32.lt_iff_toInt_lt, Int32.le_iff_toInt_le, ← Int32.toInt_inj, Int32.toInt_add, Int32.toInt_sub, Int32.toInt_mul, Int32.toInt_neg, pq_NuO, pq_NuI, pq_NuJ, qm1, q0, q1, q15, q31, q128, q1023] at *; (try simp (disch := omega) only [pq_bm] at *); all_goals omega) (by simp only [vp_in_iff, Int32.lt_iff_toInt_lt, Int32.le_iff_toInt_le, ← Int32.toInt_inj, Int32.toInt_add, Int32.toInt_sub, Int32.toInt_mul, Int32.toInt_neg, pq_NuO, pq_NuI, pq_NuJ, qm1, q0, q1, q15, q31, q128, q1023] at *; (try simp (disch := omega) only [pq_bm] at *); all_goals omega)

set_option maxHeartbeats 4000000 in
set_option maxRecDepth 100000 in
theorem k_X11_isAlike (l : Launch) (D : va_G) (cy : Nat → ClassId) (S : HS) (a : Nat) (ha : pq_R S a 14) (x y : Int32) (h0 : 0 ≤ x.toInt) (h1 : x.toInt ≤ 400) (h2 : 0 ≤ y.toInt) (h3 : y.toInt ≤ 400) : pq_C l D cy yX11_isAlike cX11_isAlike 4 (some .boolean) 2 0 0 S [.ref a, .int x, .int y] (fun v S2 => S2 = S ∧ ∃ x : Int32, v = some (.int x) ∧ 0 ≤ x.toInt ∧ x.toInt ≤ 1) := by
  refine pq_start (by decide) (Nat.le_of_ble_eq_true rfl) ?_
  intro p e s m args below meth c A F hr hlk hnm hA
  have qm1 : (-1 : Int32).toInt = -1 := rfl
  have q0 : (0 : Int32).toInt = 0 := rfl
  have q1 : (1 : Int32).toInt = 1 := rfl
  have q128 : (128 : Int32).toInt = 128 := rfl
  have L19 : ∀  (fu : Nat) (k : Int32) (hk0 : 0 ≤ k.toInt) (hk1 : k.toInt ≤ 128), (128 - k.toInt).toNat < fu → pq_At p l e (pq_rm 2 0 0) s m args below meth c (pq_Z below args s D cy S 0 0 (fun v S2 => S2 = S ∧ ∃ x : Int32, v = some (.int x) ∧ 0 ≤ x.toInt ∧ x.toInt ≤ 1)) D cy A 4 0 0 19 S [some (.ref a), some (.int x), some (.int y), some (.int k)] [] := by
    intro  fu
    induction fu with
    | zero => intro k hk0 hk1 hm; exact absurd hm (Nat.not_lt_zero _)
    | succ fu ih =>
      intro k hk0 hk1 hm
      refine pq_iload_n F dX11_isAlike_19 rfl rfl ?_
      refine pq_sipush (v := 128) F dX11_isAlike_20 (by decide) ?_
      refine pq_icmp_ge (tgt := 69) F dX11_isAlike_23 (by decide) (fun c23 => ?_) (fun c23 => ?_)
      · skip
        refine pq_iconst (v := 1) F dX11_isAlike_69 (by decide) ?_
        exact pq_zret F hr hlk hA rfl (Nat.le_refl _) (Nat.le_refl _) (⟨rfl, _, rfl, by decide, by decide⟩) dX11_isAlike_70
      · skip
        refine pq_aload_n F dX11_isAlike_26 rfl rfl ?_
        refine pq_aload_n F dX11_isAlike_27 rfl rfl ?_
        refine pq_getR F ha (by decide) lk_X11_181 rfl dX11_isAlike_28 (fun r28 e28 h28 => ?_)
        refine pq_sipush (v := 128) F dX11_isAlike_31 (by decide) ?_
        refine pq_iload_n F dX11_isAlike_34 rfl rfl ?_
        refine pq_imul F dX11_isAlike_35 ?_
        refine pq_iload_n F dX11_isAlike_36 rfl rfl ?_
        refine pq_iadd F dX11_isAlike_37 ?_
        refine pq_iald F h28 (by decide) (by decide) rfl (fun n1_38 n2_38 => (by simp only [vp_in_iff, Int32.lt_iff_toInt_lt, Int32.le_iff_toInt_le, ← Int32.toInt_inj, Int32.toInt_add, Int32.toInt_sub, Int32.toInt_mul, Int32.toInt_neg, pq_NuO, pq_NuI, pq_NuJ, qm1, q0, q1, q128] at *; (try simp (disch := omega) only [pq_bm] at *); all_goals omega)) dX11_isAlike_38 (fun x38 e38 l38 u38 => ?_)
        refine pq_callV (As := [_]) F (k_X11_kindOf l D cy _ _ ?_ _ ?_ ?_) ml_X11_190 ha (by decide) rfl (Nat.le_of_ble_eq_true rfl) ⟨Nat.le_of_ble_eq_true rfl, Nat.le_of_ble_eq_true rfl⟩ ⟨by decide, by decide⟩ dX11_isAlike_39 (fun v39 S39 w39 => ?_)
        · exact ha
        · simp only [vp_in_iff, Int32.lt_iff_toInt_lt, Int32.le_iff_toInt_le, ← Int32.toInt_inj, Int32.toInt_add, Int32.toInt_sub, Int32.toInt_mul, Int32.toInt_neg, pq_NuO, pq_NuI, pq_NuJ, qm1, q0, q1, q128] at *; (try simp (disch := omega) only [pq_bm] at *); all_goals omega
        · simp only [vp_in_iff, Int32.lt_iff_toInt_lt, Int32.le_iff_toInt_le, ← Int32.toInt_inj, Int32.toInt_add, Int32.toInt_sub, Int32.toInt_mul, Int32.toInt_neg, pq_NuO, pq_NuI, pq_NuJ, qm1, q0, q1, q128] at *; (try simp (disch := omega) only [pq_bm] at *); all_goals omega
        obtain ⟨rfl, z39, rfl⟩ := w39
        refine pq_aload_n F dX11_isAlike_42 rfl rfl ?_
        refine pq_aload_n F dX11_isAlike_43 rfl rfl ?_
        refine pq_get F ha (by decide) lk_X11_181 e28 dX11_isAlike_44 ?_
        refine pq_sipush (v := 128) F dX11_isAlike_47 (by decide) ?_
        refine pq_iload_n F dX11_isAlike_50 rfl rfl ?_
        refine pq_imul F dX11_isAlike_51 ?_
        refine pq_iload_n F dX11_isAlike_52 rfl rfl ?_
        refine pq_iadd F dX11_isAlike_53 ?_
        refine pq_iald F h28 (by decide) (by decide) rfl (fun n1_54 n2_54 => (by simp only [vp_in_iff, Int32.lt_iff_toInt_lt, Int32.le_iff_toInt_le, ← Int32.toInt_inj, Int32.toInt_add, Int32.toInt_sub, Int32.toInt_mul, Int32.toInt_neg, pq_NuO, pq_NuI, pq_NuJ, qm1, q0, q1, q128] at *; (try simp (disch := omega) only [pq_bm] at *); all_goals omega)) dX11_isAlike_54 (fun x54 e54 l54 u54 => ?_)
        refine pq_callV (As := [_]) F (k_X11_kindOf l D cy _ _ ?_ _ ?_ ?_) ml_X11_190 ha (by decide) rfl (Nat.le_of_ble_eq_true rfl) ⟨Nat.le_of_ble_eq_true rfl, Nat.le_of_ble_eq_true rfl⟩ ⟨by decide, by decide⟩ dX11_isAlike_55 (fun v55 S55 w55 => ?_)
        · exact ha
        · simp only [vp_in_iff, Int32.lt_iff_toInt_lt, Int32.le_iff_toInt_le, ← Int32.toInt_inj, Int32.toInt_add, Int32.toInt_sub, Int32.toInt_mul, Int32.toInt_neg, pq_NuO, pq_NuI, pq_NuJ, qm1, q0, q1, q128] at *; (try simp (disch := omega) only [pq_bm] at *); all_goals omega
        · simp only [vp_in_iff, Int32.lt_iff_toInt_lt, Int32.le_iff_toInt_le, ← Int32.toInt_inj, Int32.toInt_add, Int32.toInt_sub, Int32.toInt_mul, Int32.toInt_neg, pq_NuO, pq_NuI, pq_NuJ, qm1, q0, q1, q128] at *; (try simp (disch := omega) only [pq_bm] at *); all_goals omega
        obtain ⟨rfl, z55, rfl⟩ := w55
        refine pq_icmp_eq (tgt := 63) F dX11_isAlike_58 (by decide) (fun c58 => ?_) (fun c58 => ?_)
        · skip
          refine pq_iinc (v := 1) F dX11_isAlike_63 rfl (by decide) (by decide) ?_
          refine pq_goto (tgt := 19) F dX11_isAlike_66 (by decide) ?_
          exact ih _ (by simp only [vp_in_iff, Int32.lt_iff_toInt_lt, Int32.le_iff_toInt_le, ← Int32.toInt_inj, Int32.toInt_add, Int32.toInt_sub, Int32.toInt_mul, Int32.toInt_neg, pq_NuO, pq_NuI, pq_NuJ, qm1, q0, q1, q128] at *; (try simp (disch := omega) only [pq_bm] at *); all_goals omega) (by simp only [vp_in_iff, Int32.lt_iff_toInt_lt, Int32.le_iff_toInt_le, ← Int32.toInt_inj, Int32.toInt_add, Int32.toInt_sub, Int32.toInt_mul, Int32.toInt_neg, pq_NuO, pq_NuI, pq_NuJ, qm1, q0, q1, q128] at *; (try simp (disch := omega) only [pq_bm] at *); all_goals omega) (by simp only [vp_in_iff, Int32.lt_iff_toInt_lt, Int32.le_iff_toInt_le, ← Int32.toInt_inj, Int32.toInt_add, Int32.toInt_sub, Int32.toInt_mul, Int32.toInt_neg, pq_NuO, pq_NuI, pq_NuJ, qm1, q0, q1, q128] at *; (try simp (disch := omega) only [pq_bm] at *); all_goals omega)
        · skip
          refine pq_iconst (v := 0) F dX11_isAlike_61 (by decide) ?_
          exact pq_zret F hr hlk hA rfl (Nat.le_refl _) (Nat.le_refl _) (⟨rfl, _, rfl, by decide, by decide⟩) dX11_isAlike_62
  refine pq_aload_n F dX11_isAlike_0 rfl rfl ?_
  refine pq_getR F ha (by decide) lk_X11_187 rfl dX11_isAlike_1 (fun r1 e1 h1 => ?_)
  refine pq_iload_n F dX11_isAlike_4 rfl rfl ?_
  refine pq_iald F h1 (by decide) (by decide) rfl (fun n1_5 n2_5 => (by simp only [vp_in_iff, Int32.lt_iff_toInt_lt, Int32.le_iff_toInt_le, ← Int32.toInt_inj, Int32.toInt_add, Int32.toInt_sub, Int32.toInt_mul, Int32.toInt_neg, pq_NuO, pq_NuI, pq_NuJ, qm1, q0, q1, q128] at *; (try simp (disch := omega) only [pq_bm] at *); all_goals omega)) dX11_isAlike_5 (fun x5 e5 l5 u5 => ?_)
  refine pq_aload_n F dX11_isAlike_6 rfl rfl ?_
  refine pq_get F ha (by decide) lk_X11_187 e1 dX11_isAlike_7 ?_
  refine pq_iload_n F dX11_isAlike_10 rfl rfl ?_
  refine pq_iald F h1 (by decide) (by decide) rfl (fun n1_11 n2_11 => (by simp only [vp_in_iff, Int32.lt_iff_toInt_lt, Int32.le_iff_toInt_le, ← Int32.toInt_inj, Int32.toInt_add, Int32.toInt_sub, Int32.toInt_mul, Int32.toInt_neg, pq_NuO, pq_NuI, pq_NuJ, qm1, q0, q1, q128] at *; (try simp (disch := omega) only [pq_bm] at *); all_goals omega)) dX11_isAlike_11 (fun x11 e11 l11 u11 => ?_)
  refine pq_icmp_eq (tgt := 17) F dX11_isAlike_12 (by decide) (fun c12 => ?_) (fun c12 => ?_)
  · skip
    refine pq_iconst (v := 0) F dX11_isAlike_17 (by decide) ?_
    refine pq_istore_n F dX11_isAlike_18 rfl (by decide) ?_
    exact L19 1000 _ (by simp only [vp_in_iff, Int32.lt_iff_toInt_lt, Int32.le_iff_toInt_le, ← Int32.toInt_inj, Int32.toInt_add, Int32.toInt_sub, Int32.toInt_mul, Int32.toInt_neg, pq_NuO, pq_NuI, pq_NuJ, qm1, q0, q1, q128] at *; (try simp (disch := omega) only [pq_bm] at *); all_goals omega) (by simp only [vp_in_iff, Int32.lt_iff_toInt_lt, Int32.le_iff_toInt_le, ← Int32.toInt_inj, Int32.toInt_add, Int32.toInt_sub, Int32.toInt_mul, Int32.toInt_neg, pq_NuO, pq_NuI, pq_NuJ, qm1, q0, q1, q128] at *; (try simp (disch := omega) only [pq_bm] at *); all_goals omega) (by simp only [vp_in_iff, Int32.lt_iff_toInt_lt, Int32.le_iff_toInt_le, ← Int32.toInt_inj, Int32.toInt_add, Int32.toInt_sub, Int32.toInt_mul, Int32.toInt_neg, pq_NuO, pq_NuI, pq_NuJ, qm1, q0, q1, q128] at *; (try simp (disch := omega) only [pq_bm] at *); all_goals omega)
  · skip
    refine pq_iconst (v := 0) F dX11_isAlike_15 (by decide) ?_
    exact pq_zret F hr hlk hA rfl (Nat.le_refl _) (Nat.le_refl _) (⟨rfl, _, rfl, by decide, by decide⟩) dX11_isAlike_16

set_option maxHeartbeats 4000000 in
set_option maxRecDepth 100000 in
theorem k_X11_octet (l : Launch) (D : va_G) (cy : Nat → ClassId) (S : HS) (a : Nat) (ha : pq_R S a 14) (i : Int32) : pq_C l D cy yX11_octet cX11_octet 2 (some .int) 2 0 0 S [.ref a, .int i] (fun v S2 => pq_Fr [(14, 3)] S S2 ∧ ∃ x : Int32, v = some (.int x)) := by
  refine pq_start (by decide) (Nat.le_of_ble_eq_true rfl) ?_
  intro p e s m args below meth c A F hr hlk hnm hA
  have qm1 : (-1 : Int32).toInt = -1 := rfl
  have q0 : (0 : Int32).toInt = 0 := rfl
  have q1 : (1 : Int32).toInt = 1 := rfl
  refine pq_aload_n F dX11_octet_0 rfl rfl ?_
  refine pq_iconst (v := 0) F dX11_octet_1 (by decide) ?_
  refine pq_putI F ha (by decide) lp_X11_3 rfl (pq_any1 _) (pq_any2 _) dX11_octet_2 ?_
  refine pq_iload_n F dX11_octet_5 rfl rfl ?_
  refine pq_if_lt (tgt := 17) F dX11_octet_6 (by decide) (fun c6 => ?_) (fun c6 => ?_)
  · skip
    refine pq_aload_n F dX11_octet_17 rfl rfl ?_
    refine pq_iconst (v := 1) F dX11_octet_18 (by decide) ?_
    refine pq_callV (As := [_]) F (k_X11_refuse l D cy _ _ ?_ _) ml_X11_267 ha (by decide) rfl (Nat.le_of_ble_eq_true rfl) ⟨Nat.le_of_ble_eq_true rfl, Nat.le_of_ble_eq_true rfl⟩ ⟨by decide, by decide⟩ dX11_octet_19 (fun v19 S19 w19 => ?_)
    · exact ha
    obtain ⟨rfl, rfl⟩ := w19
    exact pq_iret F hr hlk hA (Nat.le_refl _) (Nat.le_refl _) (⟨((pq_Fr.rf.uO ha (by decide)).uO ha (by decide)), _, rfl⟩) dX11_octet_22
  · skip
    refine pq_iload_n F dX11_octet_9 rfl rfl ?_
    refine pq_aload_n F dX11_octet_10 rfl rfl ?_
    refine pq_getI F ha (by decide) lk_X11_276 rfl dX11_octet_11 (fun x11 e11 l11 u11 => ?_)
    refine pq_icmp_lt (tgt := 23) F dX11_octet_14 (by decide) (fun c14 => ?_) (fun c14 => ?_)
    · skip
      refine pq_aload_n F dX11_octet_23 rfl rfl ?_
      refine pq_getR F ha (by decide) lk_X11_229 rfl dX11_octet_24 (fun r24 e24 h24 => ?_)
      refine pq_iload_n F dX11_octet_27 rfl rfl ?_
      refine pq_bald F h24 (by decide) (by decide) rfl (fun n1_28 n2_28 => (by simp only [vp_in_iff, Int32.lt_iff_toInt_lt, Int32.le_iff_toInt_le, ← Int32.toInt_inj, Int32.toInt_add, Int32.toInt_sub, Int32.toInt_mul, Int32.toInt_neg, pq_NuO, pq_NuI, pq_NuJ, qm1, q0, q1] at *; (try simp (disch := omega) only [pq_bm] at *); all_goals omega)) dX11_octet_28 (fun x28 e28 l28 u28 => ?_)
      exact pq_iret F hr hlk hA (Nat.le_refl _) (Nat.le_refl _) (⟨(pq_Fr.rf.uO ha (by decide)), _, rfl⟩) dX11_octet_29
    · skip
      refine pq_aload_n F dX11_octet_17 rfl rfl ?_
      refine pq_iconst (v := 1) F dX11_octet_18 (by decide) ?_
      refine pq_callV (As := [_]) F (k_X11_refuse l D cy _ _ ?_ _) ml_X11_267 ha (by decide) rfl (Nat.le_of_ble_eq_true rfl) ⟨Nat.le_of_ble_eq_true rfl, Nat.le_of_ble_eq_true rfl⟩ ⟨by decide, by decide⟩ dX11_octet_19 (fun v19 S19 w19 => ?_)
      · exact ha
      obtain ⟨rfl, rfl⟩ := w19
      exact pq_iret F hr hlk hA (Nat.le_refl _) (Nat.le_refl _) (⟨((pq_Fr.rf.uO ha (by decide)).uO ha (by decide)), _, rfl⟩) dX11_octet_22

