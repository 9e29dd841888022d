set_option maxHeartbeats 4000000 in
set_option maxRecDepth 100000 in
theorem k_X11_thrown (l : Launch) (D : va_G) (cy : Nat → ClassId) (S : HS) (a : Nat) (ha : pq_R S a 14) : pq_C l D cy yX11_thrown cX11_thrown 1 (some .int) 1 0 0 S [.ref a] (fun v S2 => S2 = S ∧ v = some (hO S a 3)) := by
  refine pq_start (by decide) (Nat.le_of_ble_eq_true rfl) ?_
  intro p e s m args below meth c A F hr hlk hnm hA
  have qm1 : (-1 : Int32).toInt = -1 := rfl
  have q0 : (0 : Int32).toInt = 0 := rfl
  have q1 : (1 : Int32).toInt = 1 := rfl
  refine pq_aload_n F dX11_thrown_0 rfl rfl ?_
  refine pq_getI F ha (by decide) lk_X11_3 rfl dX11_thrown_1 (fun x1 e1 l1 u1 => ?_)
  exact pq_iret F hr hlk hA (Nat.le_refl _) (Nat.le_refl _) (⟨rfl, by rw [e1]⟩) dX11_thrown_4

set_option maxHeartbeats 4000000 in
set_option maxRecDepth 100000 in
theorem k_X11_refuse (l : Launch) (D : va_G) (cy : Nat → ClassId) (S : HS) (a : Nat) (ha : pq_R S a 14) (x : Int32) : pq_C l D cy yX11_refuse cX11_refuse 2 (some .int) 1 0 0 S [.ref a, .int x] (fun v S2 => S2 = pq_uO S a 3 (.int x) ∧ v = some (.int 0)) := by
  refine pq_start (by decide) (Nat.le_of_ble_eq_true rfl) ?_
  intro p e s m args below meth c A F hr hlk hnm hA
  have qm1 : (-1 : Int32).toInt = -1 := rfl
  have q0 : (0 : Int32).toInt = 0 := rfl
  have q1 : (1 : Int32).toInt = 1 := rfl
  refine pq_aload_n F dX11_refuse_0 rfl rfl ?_
  refine pq_iload_n F dX11_refuse_1 rfl rfl ?_
  refine pq_putI F ha (by decide) lp_X11_3 rfl (pq_any1 _) (pq_any2 _) dX11_refuse_2 ?_
  refine pq_iconst (v := 0) F dX11_refuse_5 (by decide) ?_
  exact pq_iret F hr hlk hA (Nat.le_refl _) (Nat.le_refl _) (⟨rfl, rfl⟩) dX11_refuse_6

set_option maxHeartbeats 4000000 in
set_option maxRecDepth 100000 in
theorem k_X11_take (l : Launch) (D : va_G) (cy : Nat → ClassId) (S : HS) (a : Nat) (ha : pq_R S a 14) : pq_C l D cy yX11_take cX11_take 2 (some .int) 1 0 0 S [.ref a] (fun v S2 => S2 = pq_uO (pq_uO S a 3 (.int 0)) a 1 (.int 0) ∧ v = some (hO S a 1)) := by
  refine pq_start (by decide) (Nat.le_of_ble_eq_true rfl) ?_
  intro p e s m args below meth c A F hr hlk hnm hA
  have qm1 : (-1 : Int32).toInt = -1 := rfl
  have q0 : (0 : Int32).toInt = 0 := rfl
  have q1 : (1 : Int32).toInt = 1 := rfl
  refine pq_aload_n F dX11_take_0 rfl rfl ?_
  refine pq_iconst (v := 0) F dX11_take_1 (by decide) ?_
  refine pq_putI F ha (by decide) lp_X11_3 rfl (pq_any1 _) (pq_any2 _) dX11_take_2 ?_
  refine pq_aload_n F dX11_take_5 rfl rfl ?_
  refine pq_getI F ha (by decide) lk_X11_264 rfl dX11_take_6 (fun x6 e6 l6 u6 => ?_)
  refine pq_istore_n F dX11_take_9 rfl (by decide) ?_
  refine pq_aload_n F dX11_take_10 rfl rfl ?_
  refine pq_iconst (v := 0) F dX11_take_11 (by decide) ?_
  refine pq_putI F ha (by decide) lp_X11_264 rfl (by simp only [vp_in_iff, Int32.lt_iff_toInt_lt, Int32.le_iff_toInt_le, ← Int32.toInt_inj, Int32.toInt_add, Int32.toInt_sub, Int32.toInt_mul, Int32.toInt_neg, pq_NuO, pq_NuI, pq_NuJ, qm1, q0, q1] at *; (try simp (disch := omega) only [pq_bm] at *); all_goals omega) (by simp only [vp_in_iff, Int32.lt_iff_toInt_lt, Int32.le_iff_toInt_le, ← Int32.toInt_inj, Int32.toInt_add, Int32.toInt_sub, Int32.toInt_mul, Int32.toInt_neg, pq_NuO, pq_NuI, pq_NuJ, qm1, q0, q1] at *; (try simp (disch := omega) only [pq_bm] at *); all_goals omega) dX11_take_12 ?_
  refine pq_iload_n F dX11_take_15 rfl rfl ?_
  exact pq_iret F hr hlk hA (Nat.le_refl _) (Nat.le_refl _) (⟨rfl, congrArg some (pq_rd e6 (by decide)).symm⟩) dX11_take_16

set_option maxHeartbeats 4000000 in
set_option maxRecDepth 100000 in
theorem k_X11_place (l : Launch) (D : va_G) (cy : Nat → ClassId) (S : HS) (a : Nat) (ha : pq_R S a 14) : pq_C l D cy yX11_place cX11_place 1 (some .int) 1 0 0 S [.ref a] (fun v S2 => S2 = pq_uO S a 3 (.int 0) ∧ v = some (hO S a 2)) := by
  refine pq_start (by decide) (Nat.le_of_ble_eq_true rfl) ?_
  intro p e s m args below meth c A F hr hlk hnm hA
  have qm1 : (-1 : Int32).toInt = -1 := rfl
  have q0 : (0 : Int32).toInt = 0 := rfl
  have q1 : (1 : Int32).toInt = 1 := rfl
  refine pq_aload_n F dX11_place_0 rfl rfl ?_
  refine pq_iconst (v := 0) F dX11_place_1 (by decide) ?_
  refine pq_putI F ha (by decide) lp_X11_3 rfl (pq_any1 _) (pq_any2 _) dX11_place_2 ?_
  refine pq_aload_n F dX11_place_5 rfl rfl ?_
  refine pq_getI F ha (by decide) lk_X11_214 rfl dX11_place_6 (fun x6 e6 l6 u6 => ?_)
  exact pq_iret F hr hlk hA (Nat.le_refl _) (Nat.le_refl _) (⟨rfl, congrArg some (pq_rd e6 (by decide)).symm⟩) dX11_place_9

set_option maxHeartbeats 4000000 in
set_option maxRecDepth 100000 in
theorem k_X11_byteAt (l : Launch) (D : va_G) (cy : Nat → ClassId) (S : HS) (a : Nat) (ha : pq_R S a 14) (n : Int32) (hn : n.toInt ≤ 2048) : pq_C l D cy yX11_byteAt cX11_byteAt 2 (some .int) 1 0 0 S [.ref a, .int n] (fun v S2 => S2 = S ∧ ∃ x : Int32, v = some (.int x) ∧ -128 ≤ x.toInt ∧ x.toInt ≤ 127 ∧ ∀ y : Int32, hO S a 10 = .int y → ¬ y < n → x = -1) := by
  refine pq_start (by decide) (Nat.le_of_ble_eq_true rfl) ?_
  intro p e s m args below meth c A F hr hlk hnm hA
  have qm1 : (-1 : Int32).toInt = -1 := rfl
  have q0 : (0 : Int32).toInt = 0 := rfl
  have q1 : (1 : Int32).toInt = 1 := rfl
  refine pq_aload_n F dX11_byteAt_0 rfl rfl ?_
  refine pq_getI F ha (by decide) lk_X11_27 rfl dX11_byteAt_1 (fun x1 e1 l1 u1 => ?_)
  refine pq_iload_n F dX11_byteAt_4 rfl rfl ?_
  refine pq_icmp_ge (tgt := 20) F dX11_byteAt_5 (by decide) (fun c5 => ?_) (fun c5 => ?_)
  · skip
    refine pq_iconst (v := -1) F dX11_byteAt_20 (by decide) ?_
    exact pq_iret F hr hlk hA (Nat.le_refl _) (Nat.le_refl _) (⟨rfl, -1, rfl, by decide, by decide, fun _ _ _ => rfl⟩) dX11_byteAt_21
  · skip
    refine pq_aload_n F dX11_byteAt_8 rfl rfl ?_
    refine pq_getR F ha (by decide) lk_X11_30 rfl dX11_byteAt_9 (fun r9 e9 h9 => ?_)
    refine pq_aload_n F dX11_byteAt_12 rfl rfl ?_
    refine pq_get F ha (by decide) lk_X11_27 e1 dX11_byteAt_13 ?_
    refine pq_bald F h9 (by decide) (by decide) rfl (fun n1_16 n2_16 => (by simp only [vp_in_iff, Int32.lt_iff_toInt_lt, Int32.le_iff_toInt_le, ← Int32.toInt_inj, Int32.toInt_add, Int32.toInt_sub, Int32.toInt_mul, Int32.toInt_neg, pq_NuO, pq_NuI, pq_NuJ, qm1, q0, q1] at *; (try simp (disch := omega) only [pq_bm] at *); all_goals omega)) dX11_byteAt_16 (fun x16 e16 l16 u16 => ?_)
    refine pq_goto (tgt := 21) F dX11_byteAt_17 (by decide) ?_
    exact pq_iret F hr hlk hA (Nat.le_refl _) (Nat.le_refl _) (⟨rfl, x16, rfl, l16, u16, fun y hy hc => by rw [e1] at hy; cases hy; exact absurd (Int32.not_le.mp (fun h => by first | exact c5 h | omega)) hc⟩) dX11_byteAt_21

set_option maxHeartbeats 4000000 in
set_option maxRecDepth 100000 in
theorem k_X11_put (l : Launch) (D : va_G) (cy : Nat → ClassId) (S : HS) (a : Nat) (ha : pq_R S a 14) (x : Int32) : pq_C l D cy yX11_put cX11_put 2 (none) 1 0 0 S [.ref a, .int x] (fun v S2 => (∃ w : Int64, S2 = pq_uO S a 11 (.long w)) ∨ ∃ w : Int64, S2 = pq_uO S a 12 (.long w)) := by
  refine pq_start (by decide) (Nat.le_of_ble_eq_true rfl) ?_
  intro p e s m args below meth c A F hr hlk hnm hA
  have qm1 : (-1 : Int32).toInt = -1 := rfl
  have q0 : (0 : Int32).toInt = 0 := rfl
  have q1 : (1 : Int32).toInt = 1 := rfl
  have q64 : (64 : Int32).toInt = 64 := rfl
  refine pq_iload_n F dX11_put_0 rfl rfl ?_
  refine pq_bipush (v := 64) F dX11_put_1 (by decide) ?_
  refine pq_icmp_ge (tgt := 21) F dX11_put_3 (by decide) (fun c3 => ?_) (fun c3 => ?_)
  · skip
    refine pq_aload_n F dX11_put_21 rfl rfl ?_
    refine pq_dup F dX11_put_22 rfl ?_
    refine pq_getJ F ha (by decide) lk_X11_53 rfl dX11_put_23 (fun x23 e23 => ?_)
    refine pq_lconst (v := 1) F dX11_put_26 (by decide) ?_
    refine pq_iload_n F dX11_put_27 rfl rfl ?_
    refine pq_bipush (v := 64) F dX11_put_28 (by decide) ?_
    refine pq_isub F dX11_put_30 ?_
    refine pq_lshl F dX11_put_31 ?_
    refine pq_lor F dX11_put_32 ?_
    refine pq_put F ha (by decide) lp_X11_53 rfl rfl (⟨_, rfl⟩) dX11_put_33 ?_
    exact pq_vret F hr hlk hA (Nat.le_refl _) (Nat.le_refl _) (Or.inr ⟨_, rfl⟩) dX11_put_36
  · skip
    refine pq_aload_n F dX11_put_6 rfl rfl ?_
    refine pq_dup F dX11_put_7 rfl ?_
    refine pq_getJ F ha (by decide) lk_X11_49 rfl dX11_put_8 (fun x8 e8 => ?_)
    refine pq_lconst (v := 1) F dX11_put_11 (by decide) ?_
    refine pq_iload_n F dX11_put_12 rfl rfl ?_
    refine pq_lshl F dX11_put_13 ?_
    refine pq_lor F dX11_put_14 ?_
    refine pq_put F ha (by decide) lp_X11_49 rfl rfl (⟨_, rfl⟩) dX11_put_15 ?_
    refine pq_goto (tgt := 36) F dX11_put_18 (by decide) ?_
    exact pq_vret F hr hlk hA (Nat.le_refl _) (Nat.le_refl _) (Or.inl ⟨_, rfl⟩) dX11_put_36

set_option maxHeartbeats 4000000 in
set_option maxRecDepth 100000 in
theorem k_X11_four (l : Launch) (D : va_G) (cy : Nat → ClassId) (S : HS) (a : Nat) (ha : pq_R S a 14) (x t : Int32) (ht : hO S a 1 = .int t) (hb : t.toInt ≤ 2044) (hb0 : 0 ≤ t.toInt) : pq_C l D cy yX11_four cX11_four 3 (none) 1 0 0 S [.ref a, .int x] (fun v S2 => v = none ∧ pq_Fr [(14, 1), (100, 0)] S S2 ∧ ∃ t2 : Int32, hO S2 a 1 = .int t2 ∧ t2.toInt = t.toInt + 4) := by
  refine pq_start (by decide) (Nat.le_of_ble_eq_true rfl) ?_
  intro p e s m args below meth c A F hr hlk hnm hA
  have qm8 : (-8 : Int32).toInt = -8 := rfl
  have qm1 : (-1 : Int32).toInt = -1 := rfl
  have q0 : (0 : Int32).toInt = 0 := rfl
  have q1 : (1 : Int32).toInt = 1 := rfl
  have q8 : (8 : Int32).toInt = 8 := rfl
  have q24 : (24 : Int32).toInt = 24 := rfl
  have L3 : ∀  (fu : Nat) (S1 : HS) (k u : Int32) (hF : pq_Fr [(14, 1), (100, 0)] S S1) (hu : hO S1 a 1 = .int u) (hk : 8 * u.toInt = 8 * t.toInt + 24 - k.toInt) (hk1 : -8 ≤ k.toInt) (hk2 : k.toInt ≤ 24) (hk3 : k.toInt % 8 = 0), (k.toInt + 8).toNat < fu → pq_At p l e (pq_rm 1 0 0) s m args below meth c (pq_Z below args s D cy S 0 0 (fun v S2 => v = none ∧ pq_Fr [(14, 1), (100, 0)] S S2 ∧ ∃ t2 : Int32, hO S2 a 1 = .int t2 ∧ t2.toInt = t.toInt + 4)) D cy A 3 0 0 3 S1 [some (.ref a), some (.int x), some (.int k)] [] := by
    intro  fu
    induction fu with
    | zero => intro S1 k u hF hu hk hk1 hk2 hk3 hm; exact absurd hm (Nat.not_lt_zero _)
    | succ fu ih =>
      intro S1 k u hF hu hk hk1 hk2 hk3 hm
      have ha1 := hF.R ha (by decide)
      refine pq_iload_n F dX11_four_3 rfl rfl ?_
      refine pq_if_lt (tgt := 36) F dX11_four_4 (by decide) (fun c4 => ?_) (fun c4 => ?_)
      · skip
        exact pq_vret F hr hlk hA (Nat.le_refl _) (Nat.le_refl _) (⟨rfl, hF, u, hu, by simp only [vp_in_iff, Int32.lt_iff_toInt_lt, Int32.le_iff_toInt_le, ← Int32.toInt_inj, Int32.toInt_add, Int32.toInt_sub, Int32.toInt_mul, Int32.toInt_neg, pq_NuO, pq_NuI, pq_NuJ, qm8, qm1, q0, q1, q8, q24] at *; (try simp (disch := omega) only [pq_bm] at *); all_goals omega⟩) dX11_four_36
      · skip
        refine pq_aload_n F dX11_four_7 rfl rfl ?_
        refine pq_getR F ha1 (by decide) lk_X11_30 rfl dX11_four_8 (fun r8 e8 h8 => ?_)
        refine pq_aload_n F dX11_four_11 rfl rfl ?_
        refine pq_get F ha1 (by decide) lk_X11_264 hu dX11_four_12 ?_
        refine pq_iload_n F dX11_four_15 rfl rfl ?_
        refine pq_iload_n F dX11_four_16 rfl rfl ?_
        refine pq_ishr F dX11_four_17 ?_
        refine pq_i2b F dX11_four_18 ?_
        refine pq_bast F h8 (by decide) (by decide) rfl (fun n1_19 n2_19 => (by simp only [vp_in_iff, Int32.lt_iff_toInt_lt, Int32.le_iff_toInt_le, ← Int32.toInt_inj, Int32.toInt_add, Int32.toInt_sub, Int32.toInt_mul, Int32.toInt_neg, pq_NuO, pq_NuI, pq_NuJ, qm8, qm1, q0, q1, q8, q24] at *; (try simp (disch := omega) only [pq_bm] at *); all_goals omega)) (pq_nb _) dX11_four_19 ?_
        refine pq_aload_n F dX11_four_20 rfl rfl ?_
        refine pq_dup F dX11_four_21 rfl ?_
        refine pq_get F ha1 (by decide) lk_X11_264 hu dX11_four_22 ?_
        refine pq_iconst (v := 1) F dX11_four_25 (by decide) ?_
        refine pq_iadd F dX11_four_26 ?_
        refine pq_putI F ha1 (by decide) lp_X11_264 rfl (by simp only [vp_in_iff, Int32.lt_iff_toInt_lt, Int32.le_iff_toInt_le, ← Int32.toInt_inj, Int32.toInt_add, Int32.toInt_sub, Int32.toInt_mul, Int32.toInt_neg, pq_NuO, pq_NuI, pq_NuJ, qm8, qm1, q0, q1, q8, q24] at *; (try simp (disch := omega) only [pq_bm] at *); all_goals omega) (by simp only [vp_in_iff, Int32.lt_iff_toInt_lt, Int32.le_iff_toInt_le, ← Int32.toInt_inj, Int32.toInt_add, Int32.toInt_sub, Int32.toInt_mul, Int32.toInt_neg, pq_NuO, pq_NuI, pq_NuJ, qm8, qm1, q0, q1, q8, q24] at *; (try simp (disch := omega) only [pq_bm] at *); all_goals omega) dX11_four_27 ?_
        refine pq_iinc (v := -8) F dX11_four_30 rfl (by decide) (by decide) ?_
        refine pq_goto (tgt := 3) F dX11_four_33 (by decide) ?_
        exact ih _ _ _ ((hF.uI h8 (by decide)).uO ha1 (by decide)) pq_ks (by simp only [vp_in_iff, Int32.lt_iff_toInt_lt, Int32.le_iff_toInt_le, ← Int32.toInt_inj, Int32.toInt_add, Int32.toInt_sub, Int32.toInt_mul, Int32.toInt_neg, pq_NuO, pq_NuI, pq_NuJ, qm8, qm1, q0, q1, q8, q24] at *; (try simp (disch := omega) only [pq_bm] at *); all_goals omega) (by simp only [vp_in_iff, Int32.lt_iff_toInt_lt, Int32.le_iff_toInt_le, ← Int32.toInt_inj, Int32.toInt_add, Int32.toInt_sub, Int32.toInt_mul, Int32.toInt_neg, pq_NuO, pq_NuI, pq_NuJ, qm8, qm1, q0, q1, q8, q24] at *; (try simp (disch := omega) only [pq_bm] at *); all_goals omega) (by simp only [vp_in_iff, Int32.lt_iff_toInt_lt, Int32.le_iff_toInt_le, ← Int32.toInt_inj, Int32.toInt_add, Int32.toInt_sub, Int32.toInt_mul, Int32.toInt_neg, pq_NuO, pq_NuI, pq_NuJ, qm8, qm1, q0, q1, q8, q24] at *; (try simp (disch := omega) only [pq_bm] at *); all_goals omega) (by simp only [vp_in_iff, Int32.lt_iff_toInt_lt, Int32.le_iff_toInt_le, ← Int32.toInt_inj, Int32.toInt_add, Int32.toInt_sub, Int32.toInt_mul, Int32.toInt_neg, pq_NuO, pq_NuI, pq_NuJ, qm8, qm1, q0, q1, q8, q24] at *; (try simp (disch := omega) only [pq_bm] at *); all_goals omega) (by simp only [vp_in_iff, Int32.lt_iff_toInt_lt, Int32.le_iff_toInt_le, ← Int32.toInt_inj, Int32.toInt_add, Int32.toInt_sub, Int32.toInt_mul, Int32.toInt_neg, pq_NuO, pq_NuI, pq_NuJ, qm8, qm1, q0, q1, q8, q24] at *; (try simp (disch := omega) only [pq_bm] at *); all_goals omega)
  refine pq_bipush (v := 24) F dX11_four_0 (by decide) ?_
  refine pq_istore_n F dX11_four_2 rfl (by decide) ?_
  exact L3 100 _ _ t pq_Fr.rf ht (by simp only [vp_in_iff, Int32.lt_iff_toInt_lt, Int32.le_iff_toInt_le, ← Int32.toInt_inj, Int32.toInt_add, Int32.toInt_sub, Int32.toInt_mul, Int32.toInt_neg, pq_NuO, pq_NuI, pq_NuJ, qm8, qm1, q0, q1, q8, q24] at *; (try simp (disch := omega) only [pq_bm] at *); all_goals omega) (by simp only [vp_in_iff, Int32.lt_iff_toInt_lt, Int32.le_iff_toInt_le, ← Int32.toInt_inj, Int32.toInt_add, Int32.toInt_sub, Int32.toInt_mul, Int32.toInt_neg, pq_NuO, pq_NuI, pq_NuJ, qm8, qm1, q0, q1, q8, q24] at *; (try simp (disch := omega) only [pq_bm] at *); all_goals omega) (by simp only [vp_in_iff, Int32.lt_iff_toInt_lt, Int32.le_iff_toInt_le, ← Int32.toInt_inj, Int32.toInt_add, Int32.toInt_sub, Int32.toInt_mul, Int32.toInt_neg, pq_NuO, pq_NuI, pq_NuJ, qm8, qm1, q0, q1, q8, q24] at *; (try simp (disch := omega) only [pq_bm] at *); all_goals omega) (by simp only [vp_in_iff, Int32.lt_iff_toInt_lt, Int32.le_iff_toInt_le, ← Int32.toInt_inj, Int32.toInt_add, Int32.toInt_sub, Int32.toInt_mul, Int32.toInt_neg, pq_NuO, pq_NuI, pq_NuJ, qm8, qm1, q0, q1, q8, q24] at *; (try simp (disch := omega) only [pq_bm] at *); all_goals omega) (by simp only [vp_in_iff, Int32.lt_iff_toInt_lt, Int32.le_iff_toInt_le, ← Int32.toInt_inj, Int32.toInt_add, Int32.toInt_sub, Int32.toInt_mul, Int32.toInt_neg, pq_NuO, pq_NuI, pq_NuJ, qm8, qm1, q0, q1, q8, q24] at *; (try simp (disch := omega) only [pq_bm] at *); all_goals omega)

set_option maxHeartbeats 4000000 in
set_option maxRecDepth 100000 in
theorem k_X11_end (l : Launch) (D : va_G) (cy : Nat → ClassId) (S : HS) (a : Nat) (ha : pq_R S a 14) (n t : Int32) (ht : hO S a 1 = .int t) (hb1 : t.toInt ≤ 2048) : pq_C l D cy yX11_end cX11_end 2 (some .int) 2 0 0 S [.ref a, .int n] (fun v S2 => (0 ≤ n.toInt ∧ n.toInt ≤ t.toInt ∧ v = some (.int n) ∧ S2 = pq_uO (pq_uO S a 3 (.int 0)) a 1 (.int n)) ∨ (¬ (0 ≤ n.toInt ∧ n.toInt ≤ t.toInt) ∧ v = some (.int 0) ∧ S2 = pq_uO (pq_uO S a 3 (.int 0)) a 3 (.int 1))) := by
  refine pq_start (by decide) (Nat.le_of_ble_eq_true rfl) ?_
  intro p e s m args below meth c A F hr hlk hnm hA
  have qm1 : (-1 : Int32).toInt = -1 := rfl
  have q0 : (0 : Int32).toInt = 0 := rfl
  have q1 : (1 : Int32).toInt = 1 := rfl
  refine pq_aload_n F dX11_end_0 rfl rfl ?_
  refine pq_iconst (v := 0) F dX11_end_1 (by decide) ?_
  refine pq_putI F ha (by decide) lp_X11_3 rfl (pq_any1 _) (pq_any2 _) dX11_end_2 ?_
  refine pq_iload_n F dX11_end_5 rfl rfl ?_
  refine pq_if_lt (tgt := 17) F dX11_end_6 (by decide) (fun c6 => ?_) (fun c6 => ?_)
  · skip
    refine pq_aload_n F dX11_end_17 rfl rfl ?_
    refine pq_iconst (v := 1) F dX11_end_18 (by decide) ?_
    refine pq_callV (As := [_]) F (k_X11_refuse l D cy _ _ ?_ _) ml_X11_267 ha (by decide) rfl (Nat.le_of_ble_eq_true rfl) ⟨Nat.le_of_ble_eq_true rfl, Nat.le_of_ble_eq_true rfl⟩ ⟨by decide, by decide⟩ dX11_end_19 (fun v19 S19 w19 => ?_)
    · exact ha
    obtain ⟨rfl, rfl⟩ := w19
    exact pq_iret F hr hlk hA (Nat.le_refl _) (Nat.le_refl _) (Or.inr ⟨by simp only [vp_in_iff, Int32.lt_iff_toInt_lt, Int32.le_iff_toInt_le, ← Int32.toInt_inj, Int32.toInt_add, Int32.toInt_sub, Int32.toInt_mul, Int32.toInt_neg, pq_NuO, pq_NuI, pq_NuJ, qm1, q0, q1] at *; (try simp (disch := omega) only [pq_bm] at *); all_goals omega, rfl, rfl⟩) dX11_end_22
  · skip
    refine pq_iload_n F dX11_end_9 rfl rfl ?_
    refine pq_aload_n F dX11_end_10 rfl rfl ?_
    refine pq_get F ha (by decide) lk_X11_264 (pq_kp ht (by decide)) dX11_end_11 ?_
    refine pq_icmp_le (tgt := 23) F dX11_end_14 (by decide) (fun c14 => ?_) (fun c14 => ?_)
    · skip
      refine pq_aload_n F dX11_end_23 rfl rfl ?_
      refine pq_iload_n F dX11_end_24 rfl rfl ?_
      refine pq_putI F ha (by decide) lp_X11_264 rfl (by simp only [vp_in_iff, Int32.lt_iff_toInt_lt, Int32.le_iff_toInt_le, ← Int32.toInt_inj, Int32.toInt_add, Int32.toInt_sub, Int32.toInt_mul, Int32.toInt_neg, pq_NuO, pq_NuI, pq_NuJ, qm1, q0, q1] at *; (try simp (disch := omega) only [pq_bm] at *); all_goals omega) (by simp only [vp_in_iff, Int32.lt_iff_toInt_lt, Int32.le_iff_toInt_le, ← Int32.toInt_inj, Int32.toInt_add, Int32.toInt_sub, Int32.toInt_mul, Int32.toInt_neg, pq_NuO, pq_NuI, pq_NuJ, qm1, q0, q1] at *; (try simp (disch := omega) only [pq_bm] at *); all_goals omega) dX11_end_25 ?_
      refine pq_iload_n F dX11_end_28 rfl rfl ?_
      exact pq_iret F hr hlk hA (Nat.le_refl _) (Nat.le_refl _) (Or.inl ⟨by simp only [vp_in_iff, Int32.lt_iff_toInt_lt, Int32.le_iff_toInt_le, ← Int32.toInt_inj, Int32.toInt_add, Int32.toInt_sub, Int32.toInt_mul, Int32.toInt_neg, pq_NuO, pq_NuI, pq_NuJ, qm1, q0, q1] at *; (try simp (disch := omega) only [pq_bm] at *); all_goals omega, by simp only [vp_in_iff, Int32.lt_iff_toInt_lt, Int32.le_iff_toInt_le, ← Int32.toInt_inj, Int32.toInt_add, Int32.toInt_sub, Int32.toInt_mul, Int32.toInt_neg, pq_NuO, pq_NuI, pq_NuJ, qm1, q0, q1] at *; (try simp (disch := omega) only [pq_bm] at *); all_goals omega, rfl, rfl⟩) dX11_end_29
    · skip
      refine pq_aload_n F dX11_end_17 rfl rfl ?_
      refine pq_iconst (v := 1) F dX11_end_18 (by decide) ?_
      refine pq_callV (As := [_]) F (k_X11_refuse l D cy _ _ ?_ _) ml_X11_267 ha (by decide) rfl (Nat.le_of_ble_eq_true rfl) ⟨Nat.le_of_ble_eq_true rfl, Nat.le_of_ble_eq_true rfl⟩ ⟨by decide, by decide⟩ dX11_end_19 (fun v19 S19 w19 => ?_)
      · exact ha
      obtain ⟨rfl, rfl⟩ := w19
      exact pq_iret F hr hlk hA (Nat.le_refl _) (Nat.le_refl _) (Or.inr ⟨by simp only [vp_in_iff, Int32.lt_iff_toInt_lt, Int32.le_iff_toInt_le, ← Int32.toInt_inj, Int32.toInt_add, Int32.toInt_sub, Int32.toInt_mul, Int32.toInt_neg, pq_NuO, pq_NuI, pq_NuJ, qm1, q0, q1] at *; (try simp (disch := omega) only [pq_bm] at *); all_goals omega, rfl, rfl⟩) dX11_end_22

set_option maxHeartbeats 4000000 in
set_option maxRecDepth 100000 in
theorem k_X11_feed (l : Launch) (D : va_G) (cy : Nat → ClassId) (S : HS) (a : Nat) (ha : pq_R S a 14) (x1 x2 x3 x4 x5 t : Int32) (ht : hO S a 1 = .int t) (hb0 : 0 ≤ t.toInt) (hb1 : t.toInt ≤ 2048) : pq_C l D cy yX11_feed cX11_feed 6 (some .int) 2 0 0 S [.ref a, .int x1, .int x2, .int x3, .int x4, .int x5] (fun v S2 => (t.toInt ≤ 2028 ∧ pq_Fr [(14, 1), (14, 3), (100, 0)] S S2 ∧ hO S2 a 3 = .int 0 ∧ ∃ t2 : Int32, v = some (.int t2) ∧ hO S2 a 1 = .int t2 ∧ t2.toInt = t.toInt + 20) ∨ (2028 < t.toInt ∧ v = some (.int 0) ∧ S2 = pq_uO (pq_uO S a 3 (.int 0)) a 3 (.int 1))) := by
  refine pq_start (by decide) (Nat.le_of_ble_eq_true rfl) ?_
  intro p e s m args below meth c A F hr hlk hnm hA
  have qm1 : (-1 : Int32).toInt = -1 := rfl
  have q0 : (0 : Int32).toInt = 0 := rfl
  have q1 : (1 : Int32).toInt = 1 := rfl
  have q20 : (20 : Int32).toInt = 20 := rfl
  have q2048 : (2048 : Int32).toInt = 2048 := rfl
  refine pq_aload_n F dX11_feed_0 rfl rfl ?_
  refine pq_iconst (v := 0) F dX11_feed_1 (by decide) ?_
  refine pq_putI F ha (by decide) lp_X11_3 rfl (pq_any1 _) (pq_any2 _) dX11_feed_2 ?_
  refine pq_aload_n F dX11_feed_5 rfl rfl ?_
  refine pq_get F ha (by decide) lk_X11_264 (pq_kp ht (by decide)) dX11_feed_6 ?_
  refine pq_bipush (v := 20) F dX11_feed_9 (by decide) ?_
  refine pq_iadd F dX11_feed_11 ?_
  refine pq_sipush (v := 2048) F dX11_feed_12 (by decide) ?_
  refine pq_icmp_le (tgt := 24) F dX11_feed_15 (by decide) (fun c15 => ?_) (fun c15 => ?_)
  · skip
    refine pq_aload_n F dX11_feed_24 rfl rfl ?_
    refine pq_iload_n F dX11_feed_25 rfl rfl ?_
    refine pq_callV (As := [_]) F (k_X11_four l D cy _ _ ?_ _ t ?_ ?_ ?_) ml_X11_270 ha (by decide) rfl (Nat.le_of_ble_eq_true rfl) ⟨Nat.le_of_ble_eq_true rfl, Nat.le_of_ble_eq_true rfl⟩ ⟨by decide, by decide⟩ dX11_feed_26 (fun v26 S26 w26 => ?_)
    · exact ha
    · exact (pq_kp ht (by decide))
    · simp only [vp_in_iff, Int32.lt_iff_toInt_lt, Int32.le_iff_toInt_le, ← Int32.toInt_inj, Int32.toInt_add, Int32.toInt_sub, Int32.toInt_mul, Int32.toInt_neg, pq_NuO, pq_NuI, pq_NuJ, qm1, q0, q1, q20, q2048] at *; (try simp (disch := omega) only [pq_bm] at *); all_goals omega
    · simp only [vp_in_iff, Int32.lt_iff_toInt_lt, Int32.le_iff_toInt_le, ← Int32.toInt_inj, Int32.toInt_add, Int32.toInt_sub, Int32.toInt_mul, Int32.toInt_neg, pq_NuO, pq_NuI, pq_NuJ, qm1, q0, q1, q20, q2048] at *; (try simp (disch := omega) only [pq_bm] at *); all_goals omega
    obtain ⟨rfl, hF26, t26, ht26, hb26⟩ := w26
    have ha_26 := (hF26.1 _ _ ha (by decide)).1
    refine pq_aload_n F dX11_feed_29 rfl rfl ?_
    refine pq_iload_n F dX11_feed_30 rfl rfl ?_
    refine pq_callV (As := [_]) F (k_X11_four l D cy _ _ ?_ _ t26 ?_ ?_ ?_) ml_X11_270 ha_26 (by decide) rfl (Nat.le_of_ble_eq_true rfl) ⟨Nat.le_of_ble_eq_true rfl, Nat.le_of_ble_eq_true rfl⟩ ⟨by decide, by decide⟩ dX11_feed_31 (fun v31 S31 w31 => ?_)
    · exact ha_26
    · exact ht26
    · simp only [vp_in_iff, Int32.lt_iff_toInt_lt, Int32.le_iff_toInt_le, ← Int32.toInt_inj, Int32.toInt_add, Int32.toInt_sub, Int32.toInt_mul, Int32.toInt_neg, pq_NuO, pq_NuI, pq_NuJ, qm1, q0, q1, q20, q2048] at *; (try simp (disch := omega) only [pq_bm] at *); all_goals omega
    · simp only [vp_in_iff, Int32.lt_iff_toInt_lt, Int32.le_iff_toInt_le, ← Int32.toInt_inj, Int32.toInt_add, Int32.toInt_sub, Int32.toInt_mul, Int32.toInt_neg, pq_NuO, pq_NuI, pq_NuJ, qm1, q0, q1, q20, q2048] at *; (try simp (disch := omega) only [pq_bm] at *); all_goals omega
    obtain ⟨rfl, hF31, t31, ht31, hb31⟩ := w31
    have ha_31 := (hF31.1 _ _ ha_26 (by decide)).1
    refine pq_aload_n F dX11_feed_34 rfl rfl ?_
    refine pq_iload_n F dX11_feed_35 rfl rfl ?_
    refine pq_callV (As := [_]) F (k_X11_four l D cy _ _ ?_ _ t31 ?_ ?_ ?_) ml_X11_270 ha_31 (by decide) rfl (Nat.le_of_ble_eq_true rfl) ⟨Nat.le_of_ble_eq_true rfl, Nat.le_of_ble_eq_true rfl⟩ ⟨by decide, by decide⟩ dX11_feed_36 (fun v36 S36 w36 => ?_)
    · exact ha_31
    · exact ht31
    · simp only [vp_in_iff, Int32.lt_iff_toInt_lt, Int32.le_iff_toInt_le, ← Int32.toInt_inj, Int32.toInt_add, Int32.toInt_sub, Int32.toInt_mul, Int32.toInt_neg, pq_NuO, pq_NuI, pq_NuJ, qm1, q0, q1, q20, q2048] at *; (try simp (disch := omega) only [pq_bm] at *); all_goals omega
    · simp only [vp_in_iff, Int32.lt_iff_toInt_lt, Int32.le_iff_toInt_le, ← Int32.toInt_inj, Int32.toInt_add, Int32.toInt_sub, Int32.toInt_mul, Int32.toInt_neg, pq_NuO, pq_NuI, pq_NuJ, qm1, q0, q1, q20, q2048] at *; (try simp (disch := omega) only [pq_bm] at *); all_goals omega
    obtain ⟨rfl, hF36, t36, ht36, hb36⟩ := w36
    have ha_36 := (hF36.1 _ _ ha_31 (by decide)).1
    refine pq_aload_n F dX11_feed_39 rfl rfl ?_
    refine pq_iload F dX11_feed_40 rfl ?_
    refine pq_callV (As := [_]) F (k_X11_four l D cy _ _ ?_ _ t36 ?_ ?_ ?_) ml_X11_270 ha_36 (by decide) rfl (Nat.le_of_ble_eq_true rfl) ⟨Nat.le_of_ble_eq_true rfl, Nat.le_of_ble_eq_true rfl⟩ ⟨by decide, by decide⟩ dX11_feed_42 (fun v42 S42 w42 => ?_)
    · exact ha_36
    · exact ht36
    · simp only [vp_in_iff, Int32.lt_iff_toInt_lt, Int32.le_iff_toInt_le, ← Int32.toInt_inj, Int32.toInt_add, Int32.toInt_sub, Int32.toInt_mul, Int32.toInt_neg, pq_NuO, pq_NuI, pq_NuJ, qm1, q0, q1, q20, q2048] at *; (try simp (disch := omega) only [pq_bm] at *); all_goals omega
    · simp only [vp_in_iff, Int32.lt_iff_toInt_lt, Int32.le_iff_toInt_le, ← Int32.toInt_inj, Int32.toInt_add, Int32.toInt_sub, Int32.toInt_mul, Int32.toInt_neg, pq_NuO, pq_NuI, pq_NuJ, qm1, q0, q1, q20, q2048] at *; (try simp (disch := omega) only [pq_bm] at *); all_goals omega
    obtain ⟨rfl, hF42, t42, ht42, hb42⟩ := w42
    have ha_42 := (hF42.1 _ _ ha_36 (by decide)).1
    refine pq_aload_n F dX11_feed_45 rfl rfl ?_
    refine pq_iload F dX11_feed_46 rfl ?_
    refine pq_callV (As := [_]) F (k_X11_four l D cy _ _ ?_ _ t42 ?_ ?_ ?_) ml_X11_270 ha_42 (by decide) rfl (Nat.le_of_ble_eq_true rfl) ⟨Nat.le_of_ble_eq_true rfl, Nat.le_of_ble_eq_true rfl⟩ ⟨by decide, by decide⟩ dX11_feed_48 (fun v48 S48 w48 => ?_)
    · exact ha_42
    · exact ht42
    · simp only [vp_in_iff, Int32.lt_iff_toInt_lt, Int32.le_iff_toInt_le, ← Int32.toInt_inj, Int32.toInt_add, Int32.toInt_sub, Int32.toInt_mul, Int32.toInt_neg, pq_NuO, pq_NuI, pq_NuJ, qm1, q0, q1, q20, q2048] at *; (try simp (disch := omega) only [pq_bm] at *); all_goals omega
    · simp only [vp_in_iff, Int32.lt_iff_toInt_lt, Int32.le_iff_toInt_le, ← Int32.toInt_inj, Int32.toInt_add, Int32.toInt_sub, Int32.toInt_mul, Int32.toInt_neg, pq_NuO, pq_NuI, pq_NuJ, qm1, q0, q1, q20, q2048] at *; (try simp (disch := omega) only [pq_bm] at *); all_goals omega
    obtain ⟨rfl, hF48, t48, ht48, hb48⟩ := w48
    have ha_48 := (hF48.1 _ _ ha_42 (by decide)).1
    refine pq_aload_n F dX11_feed_51 rfl rfl ?_
    refine pq_get F ha_48 (by decide) lk_X11_264 ht48 dX11_feed_52 ?_
    exact pq_iret F hr hlk hA (Nat.le_refl _) (Nat.le_refl _) (Or.inl ⟨by simp only [vp_in_iff, Int32.lt_iff_toInt_lt, Int32.le_iff_toInt_le, ← Int32.toInt_inj, Int32.toInt_add, Int32.toInt_sub, Int32.toInt_mul, Int32.toInt_neg, pq_NuO, pq_NuI, pq_NuJ, qm1, q0, q1, q20, q2048] at *; (try simp (disch := omega) only [pq_bm] at *); all_goals omega, ((((((pq_Fr.rf.uO ha (by decide)).cm hF26 (by decide)).cm hF31 (by decide)).cm hF36 (by decide)).cm hF42 (by decide)).cm hF48 (by decide)), (hF48.O ha_42 (by decide) (by decide) (hF42.O ha_36 (by decide) (by decide) (hF36.O ha_31 (by decide) (by decide) (hF31.O ha_26 (by decide) (by decide) (hF26.O ha (by decide) (by decide) pq_ks))))), t48, rfl, ht48, by simp only [vp_in_iff, Int32.lt_iff_toInt_lt, Int32.le_iff_toInt_le, ← Int32.toInt_inj, Int32.toInt_add, Int32.toInt_sub, Int32.toInt_mul, Int32.toInt_neg, pq_NuO, pq_NuI, pq_NuJ, qm1, q0, q1, q20, q2048] at *; (try simp (disch := omega) only [pq_bm] at *); all_goals omega⟩) dX11_feed_55
  · skip
    refine pq_aload_n F dX11_feed_18 rfl rfl ?_
    refine pq_iconst (v := 1) F dX11_feed_19 (by decide) ?_
    refine pq_callV (As := [_]) F (k_X11_refuse l D cy _ _ ?_ _) ml_X11_267 ha (by decide) rfl (Nat.le_of_ble_eq_true rfl) ⟨Nat.le_of_ble_eq_true rfl, Nat.le_of_ble_eq_true rfl⟩ ⟨by decide, by decide⟩ dX11_feed_20 (fun v20 S20 w20 => ?_)
    · exact ha
    obtain ⟨rfl, rfl⟩ := w20
    exact pq_iret F hr hlk hA (Nat.le_refl _) (Nat.le_refl _) (Or.inr ⟨by simp only [vp_in_iff, Int32.lt_iff_toInt_lt, Int32.le_iff_toInt_le, ← Int32.toInt_inj, Int32.toInt_add, Int32.toInt_sub, Int32.toInt_mul, Int32.toInt_neg, pq_NuO, pq_NuI, pq_NuJ, qm1, q0, q1, q20, q2048] at *; (try simp (disch := omega) only [pq_bm] at *); all_goals omega, rfl, rfl⟩) dX11_feed_23

