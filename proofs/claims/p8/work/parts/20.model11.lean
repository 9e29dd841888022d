set_option maxHeartbeats 4000000 in
set_option maxRecDepth 100000 in
theorem k_X11_grow (l : Launch) (D : va_G) (cy : Nat → ClassId) (S : HS) (a : Nat) (ha : pq_R S a 14) (mc ms ao aa mn : Nat) (y : Int32) (e4 : hO S a 4 = .ref ao) (hao : pq_R S ao 120) (e5 : hO S a 5 = .ref aa) (haa : pq_R S aa 121) (e6 : hO S a 6 = .int y) (hy : y.toInt = (mn : Int)) (hmn : mn ≤ 8192) (hsame : hN S aa = hN S ao) (hle : mn ≤ hN S ao) (hmc : ¬ mn < hN S ao → 2 ≤ mc ∧ 4 * mn ≤ ms) : pq_C l D cy yX11_grow cX11_grow 1 (none) 3 mc ms S [.ref a] (fun v S2 => v = none ∧ pq_Fr [(14, 4), (14, 5)] S S2 ∧ ∃ o2 a2 : Nat, hO S2 a 4 = .ref o2 ∧ pq_R S2 o2 120 ∧ hO S2 a 5 = .ref a2 ∧ pq_R S2 a2 121 ∧ hN S2 a2 = hN S2 o2 ∧ mn < hN S2 o2 ∧ hN S2 o2 = (if mn < hN S ao then hN S ao else 2 * mn) ∧ (∀ i : Nat, i < mn → hI S2 o2 i = hI S ao i ∧ hI S2 a2 i = hI S aa i)) := by
  refine pq_start (by decide) (Nat.le_of_ble_eq_true rfl) ?_
  intro p e s m args below meth c A F hr hlk hnm hA
  have qm1 : (-1 : Int32).toInt = -1 := rfl
  have q0 : (0 : Int32).toInt = 0 := rfl
  have q1 : (1 : Int32).toInt = 1 := rfl
  have q2 : (2 : Int32).toInt = 2 := rfl
  refine pq_aload_n F dX11_grow_0 rfl rfl ?_
  refine pq_get F ha (by decide) lk_X11_7 e6 dX11_grow_1 ?_
  refine pq_aload_n F dX11_grow_4 rfl rfl ?_
  refine pq_get F ha (by decide) lk_X11_10 e4 dX11_grow_5 ?_
  refine pq_alen F hao (by decide) rfl dX11_grow_8 (fun l8 u8 => ?_)
  refine pq_icmp_ge (tgt := 13) F dX11_grow_9 (by decide) (fun c9 => ?_) (fun c9 => ?_)
  · skip
    have hge : ¬ mn < hN S ao := (by have z := nI_toInt (n := hN S ao) (by omega); simp only [vp_in_iff, Int32.lt_iff_toInt_lt, Int32.le_iff_toInt_le, ← Int32.toInt_inj, Int32.toInt_add, Int32.toInt_sub, Int32.toInt_mul, Int32.toInt_neg, pq_NuO, pq_NuI, pq_NuJ, qm1, q0, q1, q2] at *; (try simp (disch := omega) only [pq_bm] at *); all_goals omega)
    have hm := hmc hge
    have hz : (2 * y).toInt = 2 * (mn : Int) := (by simp only [vp_in_iff, Int32.lt_iff_toInt_lt, Int32.le_iff_toInt_le, ← Int32.toInt_inj, Int32.toInt_add, Int32.toInt_sub, Int32.toInt_mul, Int32.toInt_neg, pq_NuO, pq_NuI, pq_NuJ, qm1, q0, q1, q2] at *; (try simp (disch := omega) only [pq_bm] at *); all_goals omega)
    have hz0 : (2 * y).toNatClampNeg = 2 * mn := (by have := pq_cl (x := 2 * y) (by omega); omega)
    refine pq_aload_n F dX11_grow_13 rfl rfl ?_
    refine pq_aload_n F dX11_grow_14 rfl rfl ?_
    refine pq_get F ha (by decide) lk_X11_10 e4 dX11_grow_15 ?_
    refine pq_iconst (v := 2) F dX11_grow_18 (by decide) ?_
    refine pq_aload_n F dX11_grow_19 rfl rfl ?_
    refine pq_get F ha (by decide) lk_X11_7 e6 dX11_grow_20 ?_
    refine pq_imul F dX11_grow_23 ?_
    refine pq_callS (As := [_, _]) F (k_J7_copyOf120 l D cy _ _ _ ?_ ?_ ?_ ?_ ?_) ml_X11_14 (Nat.le_of_ble_eq_true rfl) ⟨Nat.le_of_ble_eq_true rfl, Nat.le_of_ble_eq_true rfl⟩ ⟨by show 0 + 1 ≤ mc; omega, by show 0 + (2 * y).toNatClampNeg ≤ ms; omega⟩ dX11_grow_24 (fun v24 S24 w24 => ?_)
    · exact hao
    · omega
    · ( omega)
    · omega
    · omega
    obtain ⟨hF24, q24, rfl, hq24, nq24, cq24⟩ := w24
    have e5b := hF24.O ha (by decide) (by decide) e5
    have e6b := hF24.O ha (by decide) (by decide) e6
    have haab := hF24.R haa (by decide)
    have nab := (hF24.1 aa 121 haa (by decide)).2
    have iab := hF24.I haa (by decide) (by decide)
    have ha_24 := (hF24.1 _ _ ha (by decide)).1
    refine pq_put F ha_24 (by decide) lp_X11_10 rfl rfl (⟨by decide, _, rfl, hq24⟩) dX11_grow_27 ?_
    refine pq_aload_n F dX11_grow_30 rfl rfl ?_
    refine pq_aload_n F dX11_grow_31 rfl rfl ?_
    refine pq_get F ha_24 (by decide) lk_X11_20 (pq_kp e5b (by decide)) dX11_grow_32 ?_
    refine pq_iconst (v := 2) F dX11_grow_35 (by decide) ?_
    refine pq_aload_n F dX11_grow_36 rfl rfl ?_
    refine pq_get F ha_24 (by decide) lk_X11_7 (pq_kp e6b (by decide)) dX11_grow_37 ?_
    refine pq_imul F dX11_grow_40 ?_
    refine pq_callS (As := [_, _]) F (k_J7_copyOf121 l D cy _ _ _ ?_ ?_ ?_ ?_ ?_) ml_X11_14 (Nat.le_of_ble_eq_true rfl) ⟨Nat.le_of_ble_eq_true rfl, Nat.le_of_ble_eq_true rfl⟩ ⟨by show 0 + 1 + 1 ≤ mc; omega, by show 0 + (2 * y).toNatClampNeg + (2 * y).toNatClampNeg ≤ ms; omega⟩ dX11_grow_41 (fun v41 S41 w41 => ?_)
    · exact haab
    · omega
    · (show (hN S24 aa : Int) < _; rw [nab]; omega)
    · omega
    · omega
    obtain ⟨hF41, q41, rfl, hq41, nq41, cq41⟩ := w41
    have ha_41 := (hF41.1 _ _ ha_24 (by decide)).1
    refine pq_put F ha_41 (by decide) lp_X11_20 rfl rfl (⟨by decide, _, rfl, hq41⟩) dX11_grow_44 ?_
    exact pq_vret F hr hlk hA (by first | exact Nat.zero_le _ | (show 0 + 1 + 1 ≤ mc; omega)) (by first | exact Nat.zero_le _ | (show 0 + (2 * y).toNatClampNeg + (2 * y).toNatClampNeg ≤ ms; omega)) (⟨rfl, ((((pq_Fr.rf.cm hF24 (by decide)).uO ha_24 (by decide)).cm hF41 (by decide)).uO ha_41 (by decide)), q24, q41, pq_kp (hF41.O ha_24 (by decide) (by decide) pq_ks) (by decide), (hF41.1 q24 120 hq24 (by decide)).1, pq_ks, hq41, by show hN S41 q41 = hN S41 q24; rw [nq41, (hF41.1 q24 120 hq24 (by decide)).2]; exact nq24.symm, by show mn < hN S41 q24; rw [(hF41.1 q24 120 hq24 (by decide)).2]; show mn < hN S24 q24; rw [nq24, hz0]; omega, by rw [if_neg hge]; show hN S41 q24 = _; rw [(hF41.1 q24 120 hq24 (by decide)).2]; show hN S24 q24 = _; rw [nq24, hz0], fun i hi => ⟨by show hI S41 q24 i = _; rw [hF41.I hq24 (by decide) (by decide)]; exact cq24 i (by omega), by show hI S41 q41 i = _; rw [cq41 i (by show i < hN S24 aa; rw [nab]; omega)]; show hI S24 aa i = _; rw [iab]⟩⟩) dX11_grow_47
  · skip
    have hlt : mn < hN S ao := (by have z := nI_toInt (n := hN S ao) (by omega); simp only [vp_in_iff, Int32.lt_iff_toInt_lt, Int32.le_iff_toInt_le, ← Int32.toInt_inj, Int32.toInt_add, Int32.toInt_sub, Int32.toInt_mul, Int32.toInt_neg, pq_NuO, pq_NuI, pq_NuJ, qm1, q0, q1, q2] at *; (try simp (disch := omega) only [pq_bm] at *); all_goals omega)
    exact pq_vret F hr hlk hA (by first | exact Nat.zero_le _ | (show 0 + 1 + 1 ≤ mc; omega)) (by first | exact Nat.zero_le _ | (show 0 + (2 * y).toNatClampNeg + (2 * y).toNatClampNeg ≤ ms; omega)) (⟨rfl, pq_Fr.rf, ao, aa, e4, hao, e5, haa, hsame, hlt, by rw [if_pos hlt], fun i _ => ⟨rfl, rfl⟩⟩) dX11_grow_12

set_option maxHeartbeats 4000000 in
set_option maxRecDepth 100000 in
theorem k_X11_lay (l : Launch) (D : va_G) (cy : Nat → ClassId) (S : HS) (a : Nat) (ha : pq_R S a 14) (mc ms ao aa mn : Nat) (y : Int32) (e4 : hO S a 4 = .ref ao) (hao : pq_R S ao 120) (e5 : hO S a 5 = .ref aa) (haa : pq_R S aa 121) (e6 : hO S a 6 = .int y) (hy : y.toInt = (mn : Int)) (hmn : mn ≤ 8191) (hsame : hN S aa = hN S ao) (hle : mn ≤ hN S ao) (hmc : ¬ mn < hN S ao → 2 ≤ mc ∧ 4 * mn ≤ ms) (wh av : Int32) : pq_C l D cy yX11_lay cX11_lay 3 (none) 4 mc ms S [.ref a, .int wh, .int av] (fun v S2 => v = none ∧ pq_Fr [(14, 4), (14, 5), (14, 6), (120, 0), (121, 0)] S S2 ∧ ∃ (o2 a2 : Nat) (y2 : Int32), hO S2 a 4 = .ref o2 ∧ pq_R S2 o2 120 ∧ hO S2 a 5 = .ref a2 ∧ pq_R S2 a2 121 ∧ hO S2 a 6 = .int y2 ∧ y2.toInt = (mn : Int) + 1 ∧ hN S2 a2 = hN S2 o2 ∧ mn + 1 ≤ hN S2 o2 ∧ hN S2 o2 = (if mn < hN S ao then hN S ao else 2 * mn) ∧ (∀ i : Nat, i < mn → hI S2 o2 i = hI S ao i ∧ hI S2 a2 i = hI S aa i) ∧ hI S2 o2 mn = wh ∧ hI S2 a2 mn = av) := by
  refine pq_start (by decide) (Nat.le_of_ble_eq_true rfl) ?_
  intro p e s m args below meth c A F hr hlk hnm hA
  have qm1 : (-1 : Int32).toInt = -1 := rfl
  have q0 : (0 : Int32).toInt = 0 := rfl
  have q1 : (1 : Int32).toInt = 1 := rfl
  refine pq_aload_n F dX11_lay_0 rfl rfl ?_
  refine pq_callV (As := []) F (k_X11_grow l D cy _ _ ?_ mc ms ao aa mn y ?_ ?_ ?_ ?_ ?_ ?_ ?_ ?_ ?_ ?_) ml_X11_23 ha (by decide) rfl (Nat.le_of_ble_eq_true rfl) ⟨Nat.le_of_ble_eq_true rfl, Nat.le_of_ble_eq_true rfl⟩ ⟨by show 0 + mc ≤ mc; omega, by show 0 + ms ≤ ms; omega⟩ dX11_lay_1 (fun v1 S1 w1 => ?_)
  · exact ha
  · exact e4
  · exact hao
  · exact e5
  · exact haa
  · exact e6
  · exact hy
  · omega
  · exact hsame
  · exact hle
  · exact hmc
  obtain ⟨rfl, hF1, o2, a2, g4, ho2, g5, ha2, hs2, hl2, hl3, hc2⟩ := w1
  have g6 := hF1.O ha (by decide) (by decide) e6
  have n8 := hl2
  have ha_1 := (hF1.1 _ _ ha (by decide)).1
  have cy0 : y.toNatClampNeg = mn := (by have := pq_cl (x := y) (by omega); omega)
  refine pq_aload_n F dX11_lay_4 rfl rfl ?_
  refine pq_get F ha_1 (by decide) lk_X11_10 g4 dX11_lay_5 ?_
  refine pq_aload_n F dX11_lay_8 rfl rfl ?_
  refine pq_get F ha_1 (by decide) lk_X11_7 g6 dX11_lay_9 ?_
  refine pq_iload_n F dX11_lay_12 rfl rfl ?_
  refine pq_iast F ho2 (by decide) (by decide) rfl (fun n1_13 n2_13 => (by simp only [vp_in_iff, Int32.lt_iff_toInt_lt, Int32.le_iff_toInt_le, ← Int32.toInt_inj, Int32.toInt_add, Int32.toInt_sub, Int32.toInt_mul, Int32.toInt_neg, pq_NuO, pq_NuI, pq_NuJ, qm1, q0, q1] at *; (try simp (disch := omega) only [pq_bm] at *); all_goals omega)) (⟨pq_any1 _, pq_any2 _⟩) dX11_lay_13 ?_
  refine pq_aload_n F dX11_lay_14 rfl rfl ?_
  refine pq_get F ha_1 (by decide) lk_X11_20 g5 dX11_lay_15 ?_
  refine pq_aload_n F dX11_lay_18 rfl rfl ?_
  refine pq_get F ha_1 (by decide) lk_X11_7 g6 dX11_lay_19 ?_
  refine pq_iload_n F dX11_lay_22 rfl rfl ?_
  refine pq_iast F ha2 (by decide) (by decide) rfl (fun n1_23 n2_23 => (by simp only [vp_in_iff, Int32.lt_iff_toInt_lt, Int32.le_iff_toInt_le, ← Int32.toInt_inj, Int32.toInt_add, Int32.toInt_sub, Int32.toInt_mul, Int32.toInt_neg, pq_NuO, pq_NuI, pq_NuJ, qm1, q0, q1] at *; (try simp (disch := omega) only [pq_bm] at *); all_goals omega)) (⟨pq_any1 _, pq_any2 _⟩) dX11_lay_23 ?_
  refine pq_aload_n F dX11_lay_24 rfl rfl ?_
  refine pq_dup F dX11_lay_25 rfl ?_
  refine pq_get F ha_1 (by decide) lk_X11_7 g6 dX11_lay_26 ?_
  refine pq_iconst (v := 1) F dX11_lay_29 (by decide) ?_
  refine pq_iadd F dX11_lay_30 ?_
  refine pq_putI F ha_1 (by decide) lp_X11_7 rfl (by simp only [vp_in_iff, Int32.lt_iff_toInt_lt, Int32.le_iff_toInt_le, ← Int32.toInt_inj, Int32.toInt_add, Int32.toInt_sub, Int32.toInt_mul, Int32.toInt_neg, pq_NuO, pq_NuI, pq_NuJ, qm1, q0, q1] at *; (try simp (disch := omega) only [pq_bm] at *); all_goals omega) (by simp only [vp_in_iff, Int32.lt_iff_toInt_lt, Int32.le_iff_toInt_le, ← Int32.toInt_inj, Int32.toInt_add, Int32.toInt_sub, Int32.toInt_mul, Int32.toInt_neg, pq_NuO, pq_NuI, pq_NuJ, qm1, q0, q1] at *; (try simp (disch := omega) only [pq_bm] at *); all_goals omega) dX11_lay_31 ?_
  exact pq_vret F hr hlk hA (by show 0 + mc ≤ mc; omega) (by show 0 + ms ≤ ms; omega) (⟨rfl, ((((pq_Fr.rf.cm hF1 (by decide)).uI ho2 (by decide)).uI ha2 (by decide)).uO ha_1 (by decide)), o2, a2, y + 1, pq_kp g4 (by decide), ho2, pq_kp g5 (by decide), ha2, pq_ks, by simp only [vp_in_iff, Int32.lt_iff_toInt_lt, Int32.le_iff_toInt_le, ← Int32.toInt_inj, Int32.toInt_add, Int32.toInt_sub, Int32.toInt_mul, Int32.toInt_neg, pq_NuO, pq_NuI, pq_NuJ, qm1, q0, q1] at *; (try simp (disch := omega) only [pq_bm] at *); all_goals omega, hs2, by show mn + 1 ≤ hN S1 o2; omega, hl3, fun i hi => ⟨by show hI (pq_uI (pq_uI S1 o2 _) a2 _) o2 i = _; rw [pq_Ib (S := pq_uI S1 o2 _) (rb := 120) (ra := 121) ho2 ha2 (by decide), pq_Ia, pk_un (by omega)]; exact (hc2 i hi).1, by show hI (pq_uI (pq_uI S1 o2 _) a2 _) a2 i = _; rw [pq_Ia, pk_un (by omega), pq_Ib (S := S1) (rb := 121) (ra := 120) ha2 ho2 (by decide)]; exact (hc2 i hi).2⟩, by show hI (pq_uI (pq_uI S1 o2 _) a2 _) o2 mn = _; rw [pq_Ib (S := pq_uI S1 o2 _) (rb := 120) (ra := 121) ho2 ha2 (by decide), pq_Ia, cy0, pk_us], by show hI (pq_uI (pq_uI S1 o2 _) a2 _) a2 mn = _; rw [pq_Ia, cy0, pk_us]⟩) dX11_lay_34

