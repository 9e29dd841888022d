set_option maxHeartbeats 4000000 in
set_option maxRecDepth 100000 in
theorem k_X11_thrown (l : Launch) (D : va_G) (cy : Nat → ClassId) (S : HS) (a : Nat) (ha : pq_R S a 14) : pq_C l D cy yX11_thrown cX11_thrown 1 (some .int) 1 0 0 S [.ref a] (fun v S2 => S2 = S ∧ v = some (hO S a 3)) := by
  refine pq_start (by decide) (Nat.le_of_ble_eq_true rfl) ?_
  intro p e s m args below meth c A F hr hlk hnm hA
  have qm1 : (-1 : Int32).toInt = -1 := rfl
  have q0 : (0 : Int32).toInt = 0 := rfl
  have q1 : (1 : Int32).toInt = 1 := rfl
  refine pq_aload_n F dX11_thrown_0 rfl rfl ?_
  refine pq_getI F ha (by decide) lk_X11_3 rfl dX11_thrown_1 (fun x1 e1 l1 u1 => ?_)
  exact pq_iret F hr hlk hA (Nat.le_refl _) (Nat.le_refl _) (⟨rfl, by rw [e1]⟩) dX11_thrown_4

set_option maxHeartbeats 4000000 in
set_option maxRecDepth 100000 in
theorem k_X11_refuse (l : Launch) (D : va_G) (cy : Nat → ClassId) (S : HS) (a : Nat) (ha : pq_R S a 14) (x : Int32) : pq_C l D cy yX11_refuse cX11_refuse 2 (some .int) 1 0 0 S [.ref a, .int x] (fun v S2 => S2 = pq_uO S a 3 (.int x) ∧ v = some (.int 0)) := by
  refine pq_start (by decide) (Nat.le_of_ble_eq_true rfl) ?_
  intro p e s m args below meth c A F hr hlk hnm hA
  have qm1 : (-1 : Int32).toInt = -1 := rfl
  have q0 : (0 : Int32).toInt = 0 := rfl
  have q1 : (1 : Int32).toInt = 1 := rfl
  refine pq_aload_n F dX11_refuse_0 rfl rfl ?_
  refine pq_iload_n F dX11_refuse_1 rfl rfl ?_
  refine pq_putI F ha (by decide) lp_X11_3 rfl (pq_any1 _) (pq_any2 _) dX11_refuse_2 ?_
  refine pq_iconst (v := 0) F dX11_refuse_5 (by decide) ?_
  exact pq_iret F hr hlk hA (Nat.le_refl _) (Nat.le_refl _) (⟨rfl, rfl⟩) dX11_refuse_6

set_option maxHeartbeats 4000000 in
set_option maxRecDepth 100000 in
theorem k_X11_take (l : Launch) (D : va_G) (cy : Nat → ClassId) (S : HS) (a : Nat) (ha : pq_R S a 14) : pq_C l D cy yX11_take cX11_take 2 (some .int) 1 0 0 S [.ref a] (fun v S2 => S2 = pq_uO (pq_uO S a 3 (.int 0)) a 1 (.int 0) ∧ v = some (hO S a 1)) := by
  refine pq_start (by decide) (Nat.le_of_ble_eq_true rfl) ?_
  intro p e s m args below meth c A F hr hlk hnm hA
  have qm1 : (-1 : Int32).toInt = -1 := rfl
  have q0 : (0 : Int32).toInt = 0 := rfl
  have q1 : (1 : Int32).toInt = 1 := rfl
  refine pq_aload_n F dX11_take_0 rfl rfl ?_
  refine pq_iconst (v := 0) F dX11_take_1 (by decide) ?_
  refine pq_putI F ha (by decide) lp_X11_3 rfl (pq_any1 _) (pq_any2 _) dX11_take_2 ?_
  refine pq_aload_n F dX11_take_5 rfl rfl ?_
  refine pq_getI F ha (by decide) lk_X11_264 rfl dX11_take_6 (fun x6 e6 l6 u6 => ?_)
  refine pq_istore_n F dX11_take_9 rfl (by decide) ?_
  refine pq_aload_n F dX11_take_10 rfl rfl ?_
  refine pq_iconst (v := 0) F dX11_take_11 (by decide) ?_
  refine pq_putI F ha (by decide) lp_X11_264 rfl (by simp only [vp_in_iff, Int32.lt_iff_toInt_lt, Int32.le_iff_toInt_le, ← Int32.toInt_inj, Int32.toInt_add, Int32.toInt_sub, Int32.toInt_mul, Int32.toInt_neg, pq_NuO, pq_NuI, pq_NuJ, qm1, q0, q1] at *; (try simp (disch := omega) only [pq_bm] at *); all_goals omega) (by simp only [vp_in_iff, Int32.lt_iff_toInt_lt, Int32.le_iff_toInt_le, ← Int32.toInt_inj, Int32.toInt_add, Int32.toInt_sub, Int32.toInt_mul, Int32.toInt_neg, pq_NuO, pq_NuI, pq_NuJ, qm1, q0, q1] at *; (try simp (disch := omega) only [pq_bm] at *); all_goals omega) dX11_take_12 ?_
  refine pq_iload_n F dX11_take_15 rfl rfl ?_
  exact pq_iret F hr hlk hA (Nat.le_refl _) (Nat.le_refl _) (⟨rfl, congrArg some (pq_rd e6 (by decide)).symm⟩) dX11_take_16

set_option maxHeartbeats 4000000 in
set_option maxRecDepth 100000 in
theorem k_X11_place (l : Launch) (D : va_G) (cy : Nat → ClassId) (S : HS) (a : Nat) (ha : pq_R S a 14) : pq_C l D cy yX11_place cX11_place 1 (some .int) 1 0 0 S [.ref a] (fun v S2 => S2 = pq_uO S a 3 (.int 0) ∧ v = some (hO S a 2)) := by
  refine pq_start (by decide) (Nat.le_of_ble_eq_true rfl) ?_
  intro p e s m args below meth c A F hr hlk hnm hA
  have qm1 : (-1 : Int32).toInt = -1 := rfl
  have q0 : (0 : Int32).toInt = 0 := rfl
  have q1 : (1 : Int32).toInt = 1 := rfl
  refine pq_aload_n F dX11_place_0 rfl rfl ?_
  refine pq_iconst (v := 0) F dX11_place_1 (by decide) ?_
  refine pq_putI F ha (by decide) lp_X11_3 rfl (pq_any1 _) (pq_any2 _) dX11_place_2 ?_
  refine pq_aload_n F dX11_place_5 rfl rfl ?_
  refine pq_getI F ha (by decide) lk_X11_214 rfl dX11_place_6 (fun x6 e6 l6 u6 => ?_)
  exact pq_iret F hr hlk hA (Nat.le_refl _) (Nat.le_refl _) (⟨rfl, congrArg some (pq_rd e6 (by decide)).symm⟩) dX11_place_9

set_option maxHeartbeats 4000000 in
set_option maxRecDepth 100000 in
theorem k_X11_end (l : Launch) (D : va_G) (cy : Nat → ClassId) (S : HS) (a : Nat) (ha : pq_R S a 14) (n t : Int32) (ht : hO S a 1 = .int t) (hb1 : t.toInt ≤ 2048) : pq_C l D cy yX11_end cX11_end 2 (some .int) 2 0 0 S [.ref a, .int n] (fun v S2 => (0 ≤ n.toInt ∧ n.toInt ≤ t.toInt ∧ v = some (.int n) ∧ S2 = pq_uO (pq_uO S a 3 (.int 0)) a 1 (.int n)) ∨ (¬ (0 ≤ n.toInt ∧ n.toInt ≤ t.toInt) ∧ v = some (.int 0) ∧ S2 = pq_uO (pq_uO S a 3 (.int 0)) a 3 (.int 1))) := by
  refine pq_start (by decide) (Nat.le_of_ble_eq_true rfl) ?_
  intro p e s m args below meth c A F hr hlk hnm hA
  have qm1 : (-1 : Int32).toInt = -1 := rfl
  have q0 : (0 : Int32).toInt = 0 := rfl
  have q1 : (1 : Int32).toInt = 1 := rfl
  refine pq_aload_n F dX11_end_0 rfl rfl ?_
  refine pq_iconst (v := 0) F dX11_end_1 (by decide) ?_
  refine pq_putI F ha (by decide) lp_X11_3 rfl (pq_any1 _) (pq_any2 _) dX11_end_2 ?_
  refine pq_iload_n F dX11_end_5 rfl rfl ?_
  refine pq_if_lt (tgt := 17) F dX11_end_6 (by decide) (fun c6 => ?_) (fun c6 => ?_)
  · skip
    refine pq_aload_n F dX11_end_17 rfl rfl ?_
    refine pq_iconst (v := 1) F dX11_end_18 (by decide) ?_
    refine pq_callV (As := [_]) F (k_X11_refuse l D cy _ _ ?_ _) ml_X11_267 ha (by decide) rfl (Nat.le_of_ble_eq_true rfl) ⟨Nat.le_of_ble_eq_true rfl, Nat.le_of_ble_eq_true rfl⟩ ⟨by decide, by decide⟩ dX11_end_19 (fun v19 S19 w19 => ?_)
    · exact ha
    obtain ⟨rfl, rfl⟩ := w19
    exact pq_iret F hr hlk hA (Nat.le_refl _) (Nat.le_refl _) (Or.inr ⟨by simp only [vp_in_iff, Int32.lt_iff_toInt_lt, Int32.le_iff_toInt_le, ← Int32.toInt_inj, Int32.toInt_add, Int32.toInt_sub, Int32.toInt_mul, Int32.toInt_neg, pq_NuO, pq_NuI, pq_NuJ, qm1, q0, q1] at *; (try simp (disch := omega) only [pq_bm] at *); all_goals omega, rfl, rfl⟩) dX11_end_22
  · skip
    refine pq_iload_n F dX11_end_9 rfl rfl ?_
    refine pq_aload_n F dX11_end_10 rfl rfl ?_
    refine pq_get F ha (by decide) lk_X11_264 (pq_kp ht (by decide)) dX11_end_11 ?_
    refine pq_icmp_le (tgt := 23) F dX11_end_14 (by decide) (fun c14 => ?_) (fun c14 => ?_)
    · skip
      refine pq_aload_n F dX11_end_23 rfl rfl ?_
      refine pq_iload_n F dX11_end_24 rfl rfl ?_
      refine pq_putI F ha (by decide) lp_X11_264 rfl (by simp only [vp_in_iff, Int32.lt_iff_toInt_lt, Int32.le_iff_toInt_le, ← Int32.toInt_inj, Int32.toInt_add, Int32.toInt_sub, Int32.toInt_mul, Int32.toInt_neg, pq_NuO, pq_NuI, pq_NuJ, qm1, q0, q1] at *; (try simp (disch := omega) only [pq_bm] at *); all_goals omega) (by simp only [vp_in_iff, Int32.lt_iff_toInt_lt, Int32.le_iff_toInt_le, ← Int32.toInt_inj, Int32.toInt_add, Int32.toInt_sub, Int32.toInt_mul, Int32.toInt_neg, pq_NuO, pq_NuI, pq_NuJ, qm1, q0, q1] at *; (try simp (disch := omega) only [pq_bm] at *); all_goals omega) dX11_end_25 ?_
      refine pq_iload_n F dX11_end_28 rfl rfl ?_
      exact pq_iret F hr hlk hA (Nat.le_refl _) (Nat.le_refl _) (Or.inl ⟨by simp only [vp_in_iff, Int32.lt_iff_toInt_lt, Int32.le_iff_toInt_le, ← Int32.toInt_inj, Int32.toInt_add, Int32.toInt_sub, Int32.toInt_mul, Int32.toInt_neg, pq_NuO, pq_NuI, pq_NuJ, qm1, q0, q1] at *; (try simp (disch := omega) only [pq_bm] at *); all_goals omega, by simp only [vp_in_iff, Int32.lt_iff_toInt_lt, Int32.le_iff_toInt_le, ← Int32.toInt_inj, Int32.toInt_add, Int32.toInt_sub, Int32.toInt_mul, Int32.toInt_neg, pq_NuO, pq_NuI, pq_NuJ, qm1, q0, q1] at *; (try simp (disch := omega) only [pq_bm] at *); all_goals omega, rfl, rfl⟩) dX11_end_29
    · skip
      refine pq_aload_n F dX11_end_17 rfl rfl ?_
      refine pq_iconst (v := 1) F dX11_end_18 (by decide) ?_
      refine pq_callV (As := [_]) F (k_X11_refuse l D cy _ _ ?_ _) ml_X11_267 ha (by decide) rfl (Nat.le_of_ble_eq_true rfl) ⟨Nat.le_of_ble_eq_true rfl, Nat.le_of_ble_eq_true rfl⟩ ⟨by decide, by decide⟩ dX11_end_19 (fun v19 S19 w19 => ?_)
      · exact ha
      obtain ⟨rfl, rfl⟩ := w19
      exact pq_iret F hr hlk hA (Nat.le_refl _) (Nat.le_refl _) (Or.inr ⟨by simp only [vp_in_iff, Int32.lt_iff_toInt_lt, Int32.le_iff_toInt_le, ← Int32.toInt_inj, Int32.toInt_add, Int32.toInt_sub, Int32.toInt_mul, Int32.toInt_neg, pq_NuO, pq_NuI, pq_NuJ, qm1, q0, q1] at *; (try simp (disch := omega) only [pq_bm] at *); all_goals omega, rfl, rfl⟩) dX11_end_22

