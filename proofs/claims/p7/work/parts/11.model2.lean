set_option maxHeartbeats 4000000 in
set_option maxRecDepth 100000 in
theorem k_X11_octet (l : Launch) (D : va_G) (cy : Nat → ClassId) (S : HS) (a : Nat) (ha : pq_R S a 14) (i : Int32) : pq_C l D cy yX11_octet cX11_octet 2 (some .int) 2 0 0 S [.ref a, .int i] (fun v S2 => pq_Fr [(14, 3)] S S2 ∧ ∃ x : Int32, v = some (.int x)) := by
  refine pq_start (by decide) (Nat.le_of_ble_eq_true rfl) ?_
  intro p e s m args below meth c A F hr hlk hnm hA
  have qm1 : (-1 : Int32).toInt = -1 := rfl
  have q0 : (0 : Int32).toInt = 0 := rfl
  have q1 : (1 : Int32).toInt = 1 := rfl
  refine pq_aload_n F dX11_octet_0 rfl rfl ?_
  refine pq_iconst (v := 0) F dX11_octet_1 (by decide) ?_
  refine pq_putI F ha (by decide) lp_X11_3 rfl (pq_any1 _) (pq_any2 _) dX11_octet_2 ?_
  refine pq_iload_n F dX11_octet_5 rfl rfl ?_
  refine pq_if_lt (tgt := 17) F dX11_octet_6 (by decide) (fun c6 => ?_) (fun c6 => ?_)
  · skip
    refine pq_aload_n F dX11_octet_17 rfl rfl ?_
    refine pq_iconst (v := 1) F dX11_octet_18 (by decide) ?_
    refine pq_callV (As := [_]) F (k_X11_refuse l D cy _ _ ?_ _) ml_X11_267 ha (by decide) rfl (Nat.le_of_ble_eq_true rfl) ⟨Nat.le_of_ble_eq_true rfl, Nat.le_of_ble_eq_true rfl⟩ ⟨by decide, by decide⟩ dX11_octet_19 (fun v19 S19 w19 => ?_)
    · exact ha
    obtain ⟨rfl, rfl⟩ := w19
    exact pq_iret F hr hlk hA (Nat.le_refl _) (Nat.le_refl _) (⟨((pq_Fr.rf.uO ha (by decide)).uO ha (by decide)), _, rfl⟩) dX11_octet_22
  · skip
    refine pq_iload_n F dX11_octet_9 rfl rfl ?_
    refine pq_aload_n F dX11_octet_10 rfl rfl ?_
    refine pq_getI F ha (by decide) lk_X11_276 rfl dX11_octet_11 (fun x11 e11 l11 u11 => ?_)
    refine pq_icmp_lt (tgt := 23) F dX11_octet_14 (by decide) (fun c14 => ?_) (fun c14 => ?_)
    · skip
      refine pq_aload_n F dX11_octet_23 rfl rfl ?_
      refine pq_getR F ha (by decide) lk_X11_229 rfl dX11_octet_24 (fun r24 e24 h24 => ?_)
      refine pq_iload_n F dX11_octet_27 rfl rfl ?_
      refine pq_bald F h24 (by decide) (by decide) rfl (fun n1_28 n2_28 => (by simp only [vp_in_iff, Int32.lt_iff_toInt_lt, Int32.le_iff_toInt_le, ← Int32.toInt_inj, Int32.toInt_add, Int32.toInt_sub, Int32.toInt_mul, Int32.toInt_neg, pq_NuO, pq_NuI, pq_NuJ, qm1, q0, q1] at *; (try simp (disch := omega) only [pq_bm] at *); all_goals omega)) dX11_octet_28 (fun x28 e28 l28 u28 => ?_)
      exact pq_iret F hr hlk hA (Nat.le_refl _) (Nat.le_refl _) (⟨(pq_Fr.rf.uO ha (by decide)), _, rfl⟩) dX11_octet_29
    · skip
      refine pq_aload_n F dX11_octet_17 rfl rfl ?_
      refine pq_iconst (v := 1) F dX11_octet_18 (by decide) ?_
      refine pq_callV (As := [_]) F (k_X11_refuse l D cy _ _ ?_ _) ml_X11_267 ha (by decide) rfl (Nat.le_of_ble_eq_true rfl) ⟨Nat.le_of_ble_eq_true rfl, Nat.le_of_ble_eq_true rfl⟩ ⟨by decide, by decide⟩ dX11_octet_19 (fun v19 S19 w19 => ?_)
      · exact ha
      obtain ⟨rfl, rfl⟩ := w19
      exact pq_iret F hr hlk hA (Nat.le_refl _) (Nat.le_refl _) (⟨((pq_Fr.rf.uO ha (by decide)).uO ha (by decide)), _, rfl⟩) dX11_octet_22

