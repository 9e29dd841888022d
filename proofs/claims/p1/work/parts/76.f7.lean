set_option maxHeartbeats 4000000 in
set_option maxRecDepth 100000 in
theorem k_X11_emptyF (l : Launch) (D : va_G) (cy : Nat → ClassId) (S : HS) (a : Nat) (ha : pq_R S a 14) (pw : Int32) (en : Nat) (f39 : hO S a 39 = .ref en) (hen : pq_R S en 202) (k0 : hI S en 0 = 1) (k1 : hI S en 402 = 1) : pq_C l D cy yX11_empty cX11_empty 3 (some .boolean) 1 0 0 S [.ref a, .int pw] (fun v S2 => pq_Fr [(14, 3)] S S2 ∧ ∃ x : Int32, v = some (.int x) ∧ 0 ≤ x.toInt ∧ x.toInt ≤ 1 ∧ (((pw = 0 ∨ pw = 1) ∧ x = 1 ∧ hO S2 a 3 = .int 0) ∨ ((¬ pw = 0 ∧ ¬ pw = 1) ∧ hO S2 a 3 = .int 1))) := by
  refine pq_start (by decide) (Nat.le_of_ble_eq_true rfl) ?_
  intro p e s m args below meth c A F hr hlk hnm hA
  have lqm1 : (-1 : Int32).toInt = -1 := rfl
  have lq0 : (0 : Int32).toInt = 0 := rfl
  have lq1 : (1 : Int32).toInt = 1 := rfl
  have lq402 : (402 : Int32).toInt = 402 := rfl
  refine pq_iload_n F dX11_empty_0 rfl rfl ?_
  refine pq_if_eq (tgt := 9) F dX11_empty_1 (by decide) (fun c1 => ?_) (fun c1 => ?_)
  · skip
    refine pq_iconst (v := 1) F dX11_empty_9 (by decide) ?_
    refine pq_goto (tgt := 14) F dX11_empty_10 (by decide) ?_
    refine pq_istore_n F dX11_empty_14 rfl (by decide) ?_
    refine pq_aload_n F dX11_empty_15 rfl rfl ?_
    refine pq_iload_n F dX11_empty_16 rfl rfl ?_
    refine pq_if_eq (tgt := 24) F dX11_empty_17 (by decide) (fun c17 => ?_) (fun c17 => ?_)
    · exact absurd c17 (by decide)
    · skip
      refine pq_iconst (v := 0) F dX11_empty_20 (by decide) ?_
      refine pq_goto (tgt := 25) F dX11_empty_21 (by decide) ?_
      refine pq_putI F ha (by decide) lp_X11_3 rfl (pq_any1 _) (pq_any2 _) dX11_empty_25 ?_
      refine pq_iload_n F dX11_empty_28 rfl rfl ?_
      refine pq_if_eq (tgt := 49) F dX11_empty_29 (by decide) (fun c29 => ?_) (fun c29 => ?_)
      · exact absurd c29 (by decide)
      · skip
        refine pq_aload_n F dX11_empty_32 rfl rfl ?_
        refine pq_get F ha (by decide) lk_X11_225 (pq_kp f39 (by decide)) dX11_empty_33 ?_
        refine pq_sipush (v := 402) F dX11_empty_36 (by decide) ?_
        refine pq_iload_n F dX11_empty_39 rfl rfl ?_
        have pwb : 0 ≤ pw.toInt ∧ pw.toInt ≤ 1 := (by rw [c1]; decide)
        refine pq_imul F dX11_empty_40 ?_
        refine pq_zald F hen (by decide) (by decide) rfl (fun n1_41 n2_41 => (by focus ((try clear k0); (try clear k1); (try clear x41e); simp only [vp_in_iff, Int32.lt_iff_toInt_lt, Int32.le_iff_toInt_le, ← Int32.toInt_inj, Int32.toInt_add, Int32.toInt_sub, Int32.toInt_mul, Int32.toInt_neg, pq_NuO, pq_NuI, pq_NuJ, pq_NuR, pq_shr6, pq_shr7, pq_shr8, lqm1, lq0, lq1, lq402] at *; (try simp (disch := omega) only [pq_bm] at *); all_goals omega))) dX11_empty_41 (fun x41 e41 l41 u41 => ?_)
        have x41e : x41 = 1 := e41.trans (by rw [c1]; simp only [pq_IuO, pq_IuJ, pq_Iu, pq_JuO, pq_JuI, pq_Ju, pq_RuO, pq_RuJ, pq_RuI, if_true, if_false]; rw [show (402 * 0 : Int32).toNatClampNeg = 0 from by decide]; exact k0)
        refine pq_if_eq (tgt := 49) F dX11_empty_42 (by decide) (fun c42 => ?_) (fun c42 => ?_)
        · exact absurd (c42.symm.trans x41e) (by decide)
        · skip
          refine pq_iconst (v := 1) F dX11_empty_45 (by decide) ?_
          refine pq_goto (tgt := 50) F dX11_empty_46 (by decide) ?_
          exact pq_zret F hr hlk hA rfl (Nat.le_refl _) (Nat.le_refl _) (⟨(pq_Fr.rf.uO ha (by decide)), 1, rfl, (by focus ((try clear k0); (try clear k1); (try clear x41e); simp only [vp_in_iff, Int32.lt_iff_toInt_lt, Int32.le_iff_toInt_le, ← Int32.toInt_inj, Int32.toInt_add, Int32.toInt_sub, Int32.toInt_mul, Int32.toInt_neg, pq_NuO, pq_NuI, pq_NuJ, pq_NuR, pq_shr6, pq_shr7, pq_shr8, lqm1, lq0, lq1, lq402] at *; (try simp (disch := omega) only [pq_bm] at *); all_goals omega)), (by focus ((try clear k0); (try clear k1); (try clear x41e); simp only [vp_in_iff, Int32.lt_iff_toInt_lt, Int32.le_iff_toInt_le, ← Int32.toInt_inj, Int32.toInt_add, Int32.toInt_sub, Int32.toInt_mul, Int32.toInt_neg, pq_NuO, pq_NuI, pq_NuJ, pq_NuR, pq_shr6, pq_shr7, pq_shr8, lqm1, lq0, lq1, lq402] at *; (try simp (disch := omega) only [pq_bm] at *); all_goals omega)), Or.inl ⟨Or.inl c1, rfl, pq_ks⟩⟩) dX11_empty_50
  · skip
    refine pq_iload_n F dX11_empty_4 rfl rfl ?_
    refine pq_iconst (v := 1) F dX11_empty_5 (by decide) ?_
    refine pq_icmp_ne (tgt := 13) F dX11_empty_6 (by decide) (fun c6 => ?_) (fun c6 => ?_)
    · skip
      refine pq_iconst (v := 0) F dX11_empty_13 (by decide) ?_
      refine pq_istore_n F dX11_empty_14 rfl (by decide) ?_
      refine pq_aload_n F dX11_empty_15 rfl rfl ?_
      refine pq_iload_n F dX11_empty_16 rfl rfl ?_
      refine pq_if_eq (tgt := 24) F dX11_empty_17 (by decide) (fun c17 => ?_) (fun c17 => ?_)
      · skip
        refine pq_iconst (v := 1) F dX11_empty_24 (by decide) ?_
        refine pq_putI F ha (by decide) lp_X11_3 rfl (pq_any1 _) (pq_any2 _) dX11_empty_25 ?_
        refine pq_iload_n F dX11_empty_28 rfl rfl ?_
        refine pq_if_eq (tgt := 49) F dX11_empty_29 (by decide) (fun c29 => ?_) (fun c29 => ?_)
        · skip
          refine pq_iconst (v := 0) F dX11_empty_49 (by decide) ?_
          exact pq_zret F hr hlk hA rfl (Nat.le_refl _) (Nat.le_refl _) (⟨(pq_Fr.rf.uO ha (by decide)), 0, rfl, (by focus ((try clear k0); (try clear k1); (try clear x41e); simp only [vp_in_iff, Int32.lt_iff_toInt_lt, Int32.le_iff_toInt_le, ← Int32.toInt_inj, Int32.toInt_add, Int32.toInt_sub, Int32.toInt_mul, Int32.toInt_neg, pq_NuO, pq_NuI, pq_NuJ, pq_NuR, pq_shr6, pq_shr7, pq_shr8, lqm1, lq0, lq1, lq402] at *; (try simp (disch := omega) only [pq_bm] at *); all_goals omega)), (by focus ((try clear k0); (try clear k1); (try clear x41e); simp only [vp_in_iff, Int32.lt_iff_toInt_lt, Int32.le_iff_toInt_le, ← Int32.toInt_inj, Int32.toInt_add, Int32.toInt_sub, Int32.toInt_mul, Int32.toInt_neg, pq_NuO, pq_NuI, pq_NuJ, pq_NuR, pq_shr6, pq_shr7, pq_shr8, lqm1, lq0, lq1, lq402] at *; (try simp (disch := omega) only [pq_bm] at *); all_goals omega)), Or.inr ⟨⟨c1, c6⟩, pq_ks⟩⟩) dX11_empty_50
        · exact absurd rfl c29
      · exact absurd rfl c17
    · skip
      refine pq_iconst (v := 1) F dX11_empty_9 (by decide) ?_
      refine pq_goto (tgt := 14) F dX11_empty_10 (by decide) ?_
      refine pq_istore_n F dX11_empty_14 rfl (by decide) ?_
      refine pq_aload_n F dX11_empty_15 rfl rfl ?_
      refine pq_iload_n F dX11_empty_16 rfl rfl ?_
      refine pq_if_eq (tgt := 24) F dX11_empty_17 (by decide) (fun c17 => ?_) (fun c17 => ?_)
      · exact absurd c17 (by decide)
      · skip
        refine pq_iconst (v := 0) F dX11_empty_20 (by decide) ?_
        refine pq_goto (tgt := 25) F dX11_empty_21 (by decide) ?_
        refine pq_putI F ha (by decide) lp_X11_3 rfl (pq_any1 _) (pq_any2 _) dX11_empty_25 ?_
        refine pq_iload_n F dX11_empty_28 rfl rfl ?_
        refine pq_if_eq (tgt := 49) F dX11_empty_29 (by decide) (fun c29 => ?_) (fun c29 => ?_)
        · exact absurd c29 (by decide)
        · skip
          refine pq_aload_n F dX11_empty_32 rfl rfl ?_
          refine pq_get F ha (by decide) lk_X11_225 (pq_kp f39 (by decide)) dX11_empty_33 ?_
          refine pq_sipush (v := 402) F dX11_empty_36 (by decide) ?_
          refine pq_iload_n F dX11_empty_39 rfl rfl ?_
          have pwb : 0 ≤ pw.toInt ∧ pw.toInt ≤ 1 := (by rw [c6]; decide)
          refine pq_imul F dX11_empty_40 ?_
          refine pq_zald F hen (by decide) (by decide) rfl (fun n1_41 n2_41 => (by focus ((try clear k0); (try clear k1); (try clear x41e); simp only [vp_in_iff, Int32.lt_iff_toInt_lt, Int32.le_iff_toInt_le, ← Int32.toInt_inj, Int32.toInt_add, Int32.toInt_sub, Int32.toInt_mul, Int32.toInt_neg, pq_NuO, pq_NuI, pq_NuJ, pq_NuR, pq_shr6, pq_shr7, pq_shr8, lqm1, lq0, lq1, lq402] at *; (try simp (disch := omega) only [pq_bm] at *); all_goals omega))) dX11_empty_41 (fun x41 e41 l41 u41 => ?_)
          have x41e : x41 = 1 := e41.trans (by rw [c6]; simp only [pq_IuO, pq_IuJ, pq_Iu, pq_JuO, pq_JuI, pq_Ju, pq_RuO, pq_RuJ, pq_RuI, if_true, if_false]; rw [show (402 * 1 : Int32).toNatClampNeg = 402 from by decide]; exact k1)
          refine pq_if_eq (tgt := 49) F dX11_empty_42 (by decide) (fun c42 => ?_) (fun c42 => ?_)
          · exact absurd (c42.symm.trans x41e) (by decide)
          · skip
            refine pq_iconst (v := 1) F dX11_empty_45 (by decide) ?_
            refine pq_goto (tgt := 50) F dX11_empty_46 (by decide) ?_
            exact pq_zret F hr hlk hA rfl (Nat.le_refl _) (Nat.le_refl _) (⟨(pq_Fr.rf.uO ha (by decide)), 1, rfl, (by focus ((try clear k0); (try clear k1); (try clear x41e); simp only [vp_in_iff, Int32.lt_iff_toInt_lt, Int32.le_iff_toInt_le, ← Int32.toInt_inj, Int32.toInt_add, Int32.toInt_sub, Int32.toInt_mul, Int32.toInt_neg, pq_NuO, pq_NuI, pq_NuJ, pq_NuR, pq_shr6, pq_shr7, pq_shr8, lqm1, lq0, lq1, lq402] at *; (try simp (disch := omega) only [pq_bm] at *); all_goals omega)), (by focus ((try clear k0); (try clear k1); (try clear x41e); simp only [vp_in_iff, Int32.lt_iff_toInt_lt, Int32.le_iff_toInt_le, ← Int32.toInt_inj, Int32.toInt_add, Int32.toInt_sub, Int32.toInt_mul, Int32.toInt_neg, pq_NuO, pq_NuI, pq_NuJ, pq_NuR, pq_shr6, pq_shr7, pq_shr8, lqm1, lq0, lq1, lq402] at *; (try simp (disch := omega) only [pq_bm] at *); all_goals omega)), Or.inl ⟨Or.inr c6, rfl, pq_ks⟩⟩) dX11_empty_50

set_option maxHeartbeats 4000000 in
set_option maxRecDepth 100000 in
theorem k_X11_fitsF (l : Launch) (D : va_G) (cy : Nat → ClassId) (S : HS) (a : Nat) (ha : pq_R S a 14) (pw : Int32) (en : Nat) (f39 : hO S a 39 = .ref en) (hen : pq_R S en 202) (k0 : hI S en 0 = 1) (k1 : hI S en 402 = 1) (f1 : hO S a 1 = .int 0) : pq_C l D cy yX11_fits cX11_fits 5 (some .boolean) 3 0 0 S [.ref a, .int pw] (fun v S2 => pq_Fr [(14, 3), (14, 1)] S S2 ∧ ∃ x : Int32, v = some (.int x) ∧ 0 ≤ x.toInt ∧ x.toInt ≤ 1 ∧ (((pw = 0 ∨ pw = 1) ∧ x = 1 ∧ hO S2 a 3 = .int 0) ∨ ((¬ pw = 0 ∧ ¬ pw = 1) ∧ hO S2 a 3 = .int 1))) := by
  refine pq_start (by decide) (Nat.le_of_ble_eq_true rfl) ?_
  intro p e s m args below meth c A F hr hlk hnm hA
  have lqm1 : (-1 : Int32).toInt = -1 := rfl
  have lq0 : (0 : Int32).toInt = 0 := rfl
  have lq1 : (1 : Int32).toInt = 1 := rfl
  have lq128 : (128 : Int32).toInt = 128 := rfl
  have lq402 : (402 : Int32).toInt = 402 := rfl
  refine pq_aload_n F dX11_fits_0 rfl rfl ?_
  (refine pq_callV (As := []) F (k_X11_take l D cy _ _ (by exact ha)) ml_X11_273 ha (by decide) rfl (Nat.le_of_ble_eq_true rfl) ⟨Nat.le_of_ble_eq_true rfl, Nat.le_of_ble_eq_true rfl⟩ ⟨by decide, by decide⟩ dX11_fits_1 (fun v1 S1 w1 => ?_); obtain ⟨rfl, rfl⟩ := w1; rw [f1])
  refine pq_istore_n F dX11_fits_4 rfl (by decide) ?_
  refine pq_iload_n F dX11_fits_5 rfl rfl ?_
  refine pq_if_eq (tgt := 21) F dX11_fits_6 (by decide) (fun c6 => ?_) (fun c6 => ?_)
  · skip
    refine pq_iconst (v := 0) F dX11_fits_21 (by decide) ?_
    refine pq_istore_n F dX11_fits_22 rfl (by decide) ?_
    refine pq_iconst (v := 0) F dX11_fits_23 (by decide) ?_
    refine pq_istore F dX11_fits_24 (by decide) ?_
    refine pq_iload F dX11_fits_26 rfl ?_
    refine pq_iload_n F dX11_fits_28 rfl rfl ?_
    refine pq_icmp_ge (tgt := 75) F dX11_fits_29 (by decide) (fun c29 => ?_) (fun c29 => ?_)
    · skip
      refine pq_aload_n F dX11_fits_75 rfl rfl ?_
      refine pq_get F ha (by decide) lk_X11_225 (pq_kp (pq_kp f39 (by decide)) (by decide)) dX11_fits_76 ?_
      refine pq_sipush (v := 402) F dX11_fits_79 (by decide) ?_
      refine pq_iload_n F dX11_fits_82 rfl rfl ?_
      have pwb : 0 ≤ pw.toInt ∧ pw.toInt ≤ 1 := (by rw [c6]; decide)
      refine pq_imul F dX11_fits_83 ?_
      refine pq_iload_n F dX11_fits_84 rfl rfl ?_
      refine pq_iadd F dX11_fits_85 ?_
      refine pq_zald F hen (by decide) (by decide) rfl (fun n1_86 n2_86 => (by focus ((try clear k0); (try clear k1); (try clear x86e); simp only [vp_in_iff, Int32.lt_iff_toInt_lt, Int32.le_iff_toInt_le, ← Int32.toInt_inj, Int32.toInt_add, Int32.toInt_sub, Int32.toInt_mul, Int32.toInt_neg, pq_NuO, pq_NuI, pq_NuJ, pq_NuR, pq_shr6, pq_shr7, pq_shr8, lqm1, lq0, lq1, lq128, lq402] at *; (try simp (disch := omega) only [pq_bm] at *); all_goals omega))) dX11_fits_86 (fun x86 e86 l86 u86 => ?_)
      have x86e : x86 = 1 := e86.trans (by rw [c6]; simp only [pq_IuO, pq_IuJ, pq_Iu, pq_JuO, pq_JuI, pq_Ju, pq_RuO, pq_RuJ, pq_RuI, if_true, if_false]; rw [show (402 * 0 + 0 : Int32).toNatClampNeg = 0 from by decide]; exact k0)
      subst x86e
      exact pq_zret F hr hlk hA rfl (Nat.le_refl _) (Nat.le_refl _) (⟨((pq_Fr.rf.uO ha (by decide)).uO ha (by decide)), 1, rfl, (by focus ((try clear k0); (try clear k1); (try clear x86e); simp only [vp_in_iff, Int32.lt_iff_toInt_lt, Int32.le_iff_toInt_le, ← Int32.toInt_inj, Int32.toInt_add, Int32.toInt_sub, Int32.toInt_mul, Int32.toInt_neg, pq_NuO, pq_NuI, pq_NuJ, pq_NuR, pq_shr6, pq_shr7, pq_shr8, lqm1, lq0, lq1, lq128, lq402] at *; (try simp (disch := omega) only [pq_bm] at *); all_goals omega)), (by focus ((try clear k0); (try clear k1); (try clear x86e); simp only [vp_in_iff, Int32.lt_iff_toInt_lt, Int32.le_iff_toInt_le, ← Int32.toInt_inj, Int32.toInt_add, Int32.toInt_sub, Int32.toInt_mul, Int32.toInt_neg, pq_NuO, pq_NuI, pq_NuJ, pq_NuR, pq_shr6, pq_shr7, pq_shr8, lqm1, lq0, lq1, lq128, lq402] at *; (try simp (disch := omega) only [pq_bm] at *); all_goals omega)), Or.inl ⟨Or.inl c6, rfl, pq_kp pq_ks (by decide)⟩⟩) dX11_fits_87
    · exact False.elim (by focus ((try clear k0); (try clear k1); (try clear x86e); simp only [vp_in_iff, Int32.lt_iff_toInt_lt, Int32.le_iff_toInt_le, ← Int32.toInt_inj, Int32.toInt_add, Int32.toInt_sub, Int32.toInt_mul, Int32.toInt_neg, pq_NuO, pq_NuI, pq_NuJ, pq_NuR, pq_shr6, pq_shr7, pq_shr8, lqm1, lq0, lq1, lq128, lq402] at *; (try simp (disch := omega) only [pq_bm] at *); all_goals omega))
  · skip
    refine pq_iload_n F dX11_fits_9 rfl rfl ?_
    refine pq_iconst (v := 1) F dX11_fits_10 (by decide) ?_
    refine pq_icmp_eq (tgt := 21) F dX11_fits_11 (by decide) (fun c11 => ?_) (fun c11 => ?_)
    · skip
      refine pq_iconst (v := 0) F dX11_fits_21 (by decide) ?_
      refine pq_istore_n F dX11_fits_22 rfl (by decide) ?_
      refine pq_iconst (v := 0) F dX11_fits_23 (by decide) ?_
      refine pq_istore F dX11_fits_24 (by decide) ?_
      refine pq_iload F dX11_fits_26 rfl ?_
      refine pq_iload_n F dX11_fits_28 rfl rfl ?_
      refine pq_icmp_ge (tgt := 75) F dX11_fits_29 (by decide) (fun c29 => ?_) (fun c29 => ?_)
      · skip
        refine pq_aload_n F dX11_fits_75 rfl rfl ?_
        refine pq_get F ha (by decide) lk_X11_225 (pq_kp (pq_kp f39 (by decide)) (by decide)) dX11_fits_76 ?_
        refine pq_sipush (v := 402) F dX11_fits_79 (by decide) ?_
        refine pq_iload_n F dX11_fits_82 rfl rfl ?_
        have pwb : 0 ≤ pw.toInt ∧ pw.toInt ≤ 1 := (by rw [c11]; decide)
        refine pq_imul F dX11_fits_83 ?_
        refine pq_iload_n F dX11_fits_84 rfl rfl ?_
        refine pq_iadd F dX11_fits_85 ?_
        refine pq_zald F hen (by decide) (by decide) rfl (fun n1_86 n2_86 => (by focus ((try clear k0); (try clear k1); (try clear x86e); simp only [vp_in_iff, Int32.lt_iff_toInt_lt, Int32.le_iff_toInt_le, ← Int32.toInt_inj, Int32.toInt_add, Int32.toInt_sub, Int32.toInt_mul, Int32.toInt_neg, pq_NuO, pq_NuI, pq_NuJ, pq_NuR, pq_shr6, pq_shr7, pq_shr8, lqm1, lq0, lq1, lq128, lq402] at *; (try simp (disch := omega) only [pq_bm] at *); all_goals omega))) dX11_fits_86 (fun x86 e86 l86 u86 => ?_)
        have x86e : x86 = 1 := e86.trans (by rw [c11]; simp only [pq_IuO, pq_IuJ, pq_Iu, pq_JuO, pq_JuI, pq_Ju, pq_RuO, pq_RuJ, pq_RuI, if_true, if_false]; rw [show (402 * 1 + 0 : Int32).toNatClampNeg = 402 from by decide]; exact k1)
        subst x86e
        exact pq_zret F hr hlk hA rfl (Nat.le_refl _) (Nat.le_refl _) (⟨((pq_Fr.rf.uO ha (by decide)).uO ha (by decide)), 1, rfl, (by focus ((try clear k0); (try clear k1); (try clear x86e); simp only [vp_in_iff, Int32.lt_iff_toInt_lt, Int32.le_iff_toInt_le, ← Int32.toInt_inj, Int32.toInt_add, Int32.toInt_sub, Int32.toInt_mul, Int32.toInt_neg, pq_NuO, pq_NuI, pq_NuJ, pq_NuR, pq_shr6, pq_shr7, pq_shr8, lqm1, lq0, lq1, lq128, lq402] at *; (try simp (disch := omega) only [pq_bm] at *); all_goals omega)), (by focus ((try clear k0); (try clear k1); (try clear x86e); simp only [vp_in_iff, Int32.lt_iff_toInt_lt, Int32.le_iff_toInt_le, ← Int32.toInt_inj, Int32.toInt_add, Int32.toInt_sub, Int32.toInt_mul, Int32.toInt_neg, pq_NuO, pq_NuI, pq_NuJ, pq_NuR, pq_shr6, pq_shr7, pq_shr8, lqm1, lq0, lq1, lq128, lq402] at *; (try simp (disch := omega) only [pq_bm] at *); all_goals omega)), Or.inl ⟨Or.inr c11, rfl, pq_kp pq_ks (by decide)⟩⟩) dX11_fits_87
      · exact False.elim (by focus ((try clear k0); (try clear k1); (try clear x86e); simp only [vp_in_iff, Int32.lt_iff_toInt_lt, Int32.le_iff_toInt_le, ← Int32.toInt_inj, Int32.toInt_add, Int32.toInt_sub, Int32.toInt_mul, Int32.toInt_neg, pq_NuO, pq_NuI, pq_NuJ, pq_NuR, pq_shr6, pq_shr7, pq_shr8, lqm1, lq0, lq1, lq128, lq402] at *; (try simp (disch := omega) only [pq_bm] at *); all_goals omega))
    · skip
      refine pq_aload_n F dX11_fits_14 rfl rfl ?_
      refine pq_iconst (v := 1) F dX11_fits_15 (by decide) ?_
      refine pq_putI F ha (by decide) lp_X11_3 rfl (pq_any1 _) (pq_any2 _) dX11_fits_16 ?_
      refine pq_iconst (v := 0) F dX11_fits_19 (by decide) ?_
      exact pq_zret F hr hlk hA rfl (Nat.le_refl _) (Nat.le_refl _) (⟨(((pq_Fr.rf.uO ha (by decide)).uO ha (by decide)).uO ha (by decide)), 0, rfl, (by focus ((try clear k0); (try clear k1); (try clear x86e); simp only [vp_in_iff, Int32.lt_iff_toInt_lt, Int32.le_iff_toInt_le, ← Int32.toInt_inj, Int32.toInt_add, Int32.toInt_sub, Int32.toInt_mul, Int32.toInt_neg, pq_NuO, pq_NuI, pq_NuJ, pq_NuR, pq_shr6, pq_shr7, pq_shr8, lqm1, lq0, lq1, lq128, lq402] at *; (try simp (disch := omega) only [pq_bm] at *); all_goals omega)), (by focus ((try clear k0); (try clear k1); (try clear x86e); simp only [vp_in_iff, Int32.lt_iff_toInt_lt, Int32.le_iff_toInt_le, ← Int32.toInt_inj, Int32.toInt_add, Int32.toInt_sub, Int32.toInt_mul, Int32.toInt_neg, pq_NuO, pq_NuI, pq_NuJ, pq_NuR, pq_shr6, pq_shr7, pq_shr8, lqm1, lq0, lq1, lq128, lq402] at *; (try simp (disch := omega) only [pq_bm] at *); all_goals omega)), Or.inr ⟨⟨c6, c11⟩, pq_ks⟩⟩) dX11_fits_20

set_option maxHeartbeats 4000000 in
set_option maxRecDepth 100000 in
theorem k_X11_octetF (l : Launch) (D : va_G) (cy : Nat → ClassId) (S : HS) (a : Nat) (ha : pq_R S a 14) (iv : Int32) (f41 : hO S a 41 = .int 0) : pq_C l D cy yX11_octet cX11_octet 2 (some .int) 3 0 0 S [.ref a, .int iv] (fun v S2 => pq_Fr [(14, 3)] S S2 ∧ ∃ x : Int32, v = some (.int x) ∧ (hO S2 a 3 = .int 1)) := by
  refine pq_start (by decide) (Nat.le_of_ble_eq_true rfl) ?_
  intro p e s m args below meth c A F hr hlk hnm hA
  have lqm1 : (-1 : Int32).toInt = -1 := rfl
  have lq0 : (0 : Int32).toInt = 0 := rfl
  have lq1 : (1 : Int32).toInt = 1 := rfl
  refine pq_aload_n F dX11_octet_0 rfl rfl ?_
  refine pq_iconst (v := 0) F dX11_octet_1 (by decide) ?_
  refine pq_putI F ha (by decide) lp_X11_3 rfl (pq_any1 _) (pq_any2 _) dX11_octet_2 ?_
  refine pq_iload_n F dX11_octet_5 rfl rfl ?_
  refine pq_if_lt (tgt := 17) F dX11_octet_6 (by decide) (fun c6 => ?_) (fun c6 => ?_)
  · skip
    refine pq_aload_n F dX11_octet_17 rfl rfl ?_
    refine pq_iconst (v := 1) F dX11_octet_18 (by decide) ?_
    (refine pq_callV (As := [_]) F (k_X11_refuse l D cy _ _ (by exact ha) _) ml_X11_267 ha (by decide) rfl (Nat.le_of_ble_eq_true rfl) ⟨Nat.le_of_ble_eq_true rfl, Nat.le_of_ble_eq_true rfl⟩ ⟨by decide, by decide⟩ dX11_octet_19 (fun v19 S19 w19 => ?_); obtain ⟨rfl, rfl⟩ := w19)
    exact pq_iret F hr hlk hA (Nat.le_refl _) (Nat.le_refl _) (⟨((pq_Fr.rf.uO ha (by decide)).uO ha (by decide)), _, rfl, pq_ks⟩) dX11_octet_22
  · skip
    refine pq_iload_n F dX11_octet_9 rfl rfl ?_
    refine pq_aload_n F dX11_octet_10 rfl rfl ?_
    refine pq_get F ha (by decide) lk_X11_276 (pq_kp f41 (by decide)) dX11_octet_11 ?_
    refine pq_icmp_lt (tgt := 23) F dX11_octet_14 (by decide) (fun c14 => ?_) (fun c14 => ?_)
    · exact False.elim (by focus (simp only [vp_in_iff, Int32.lt_iff_toInt_lt, Int32.le_iff_toInt_le, ← Int32.toInt_inj, Int32.toInt_add, Int32.toInt_sub, Int32.toInt_mul, Int32.toInt_neg, pq_NuO, pq_NuI, pq_NuJ, pq_NuR, pq_shr6, pq_shr7, pq_shr8, lqm1, lq0, lq1] at *; (try simp (disch := omega) only [pq_bm] at *); all_goals omega))
    · skip
      refine pq_aload_n F dX11_octet_17 rfl rfl ?_
      refine pq_iconst (v := 1) F dX11_octet_18 (by decide) ?_
      (refine pq_callV (As := [_]) F (k_X11_refuse l D cy _ _ (by exact ha) _) ml_X11_267 ha (by decide) rfl (Nat.le_of_ble_eq_true rfl) ⟨Nat.le_of_ble_eq_true rfl, Nat.le_of_ble_eq_true rfl⟩ ⟨by decide, by decide⟩ dX11_octet_19 (fun v19 S19 w19 => ?_); obtain ⟨rfl, rfl⟩ := w19)
      exact pq_iret F hr hlk hA (Nat.le_refl _) (Nat.le_refl _) (⟨((pq_Fr.rf.uO ha (by decide)).uO ha (by decide)), _, rfl, pq_ks⟩) dX11_octet_22

set_option maxHeartbeats 4000000 in
set_option maxRecDepth 100000 in
theorem k_X11_placeF (l : Launch) (D : va_G) (cy : Nat → ClassId) (S : HS) (a : Nat) (ha : pq_R S a 14) (pv : Int32) (f2 : hO S a 2 = .int pv) : pq_C l D cy yX11_place cX11_place 1 (some .int) 1 0 0 S [.ref a] (fun v S2 => pq_Fr [(14, 3)] S S2 ∧ ∃ x : Int32, v = some (.int x) ∧ (x = pv ∧ hO S2 a 3 = .int 0)) := by
  refine pq_start (by decide) (Nat.le_of_ble_eq_true rfl) ?_
  intro p e s m args below meth c A F hr hlk hnm hA
  have lqm1 : (-1 : Int32).toInt = -1 := rfl
  have lq0 : (0 : Int32).toInt = 0 := rfl
  have lq1 : (1 : Int32).toInt = 1 := rfl
  refine pq_aload_n F dX11_place_0 rfl rfl ?_
  refine pq_iconst (v := 0) F dX11_place_1 (by decide) ?_
  refine pq_putI F ha (by decide) lp_X11_3 rfl (pq_any1 _) (pq_any2 _) dX11_place_2 ?_
  refine pq_aload_n F dX11_place_5 rfl rfl ?_
  refine pq_get F ha (by decide) lk_X11_214 (pq_kp f2 (by decide)) dX11_place_6 ?_
  exact pq_iret F hr hlk hA (Nat.le_refl _) (Nat.le_refl _) (⟨(pq_Fr.rf.uO ha (by decide)), _, rfl, rfl, pq_ks⟩) dX11_place_9

