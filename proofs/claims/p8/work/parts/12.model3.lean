set_option maxHeartbeats 4000000 in
set_option maxRecDepth 100000 in
theorem k_X11_empty (l : Launch) (D : va_G) (cy : Nat → ClassId) (S : HS) (a : Nat) (ha : pq_R S a 14) (w : Int32) : pq_C l D cy yX11_empty cX11_empty 3 (some .boolean) 1 0 0 S [.ref a, .int w] (fun v S2 => pq_Fr [(14, 3)] S S2 ∧ ∃ x : Int32, v = some (.int x) ∧ 0 ≤ x.toInt ∧ x.toInt ≤ 1) := by
  refine pq_start (by decide) (Nat.le_of_ble_eq_true rfl) ?_
  intro p e s m args below meth c A F hr hlk hnm hA
  have qm1 : (-1 : Int32).toInt = -1 := rfl
  have q0 : (0 : Int32).toInt = 0 := rfl
  have q1 : (1 : Int32).toInt = 1 := rfl
  have q402 : (402 : Int32).toInt = 402 := rfl
  refine pq_iload_n F dX11_empty_0 rfl rfl ?_
  refine pq_if_eq (tgt := 9) F dX11_empty_1 (by decide) (fun c1 => ?_) (fun c1 => ?_)
  · skip
    refine pq_iconst (v := 1) F dX11_empty_9 (by decide) ?_
    refine pq_goto (tgt := 14) F dX11_empty_10 (by decide) ?_
    refine pq_istore_n F dX11_empty_14 rfl (by decide) ?_
    refine pq_aload_n F dX11_empty_15 rfl rfl ?_
    refine pq_iload_n F dX11_empty_16 rfl rfl ?_
    refine pq_if_eq (tgt := 24) F dX11_empty_17 (by decide) (fun c17 => ?_) (fun c17 => ?_)
    · exact absurd c17 (by decide)
    · skip
      refine pq_iconst (v := 0) F dX11_empty_20 (by decide) ?_
      refine pq_goto (tgt := 25) F dX11_empty_21 (by decide) ?_
      refine pq_putI F ha (by decide) lp_X11_3 rfl (pq_any1 _) (pq_any2 _) dX11_empty_25 ?_
      refine pq_iload_n F dX11_empty_28 rfl rfl ?_
      refine pq_if_eq (tgt := 49) F dX11_empty_29 (by decide) (fun c29 => ?_) (fun c29 => ?_)
      · exact absurd c29 (by decide)
      · skip
        refine pq_aload_n F dX11_empty_32 rfl rfl ?_
        refine pq_getR F ha (by decide) lk_X11_225 rfl dX11_empty_33 (fun r33 e33 h33 => ?_)
        refine pq_sipush (v := 402) F dX11_empty_36 (by decide) ?_
        refine pq_iload_n F dX11_empty_39 rfl rfl ?_
        refine pq_imul F dX11_empty_40 ?_
        have hw2 : w.toInt = 0 ∨ w.toInt = 1 := by first | (left; rw [c1]; rfl) | (right; rw [c6]; rfl)
        refine pq_zald F h33 (by decide) (by decide) rfl (fun n1_41 n2_41 => (by simp only [vp_in_iff, Int32.lt_iff_toInt_lt, Int32.le_iff_toInt_le, ← Int32.toInt_inj, Int32.toInt_add, Int32.toInt_sub, Int32.toInt_mul, Int32.toInt_neg, pq_NuO, pq_NuI, pq_NuJ, qm1, q0, q1, q402] at *; (try simp (disch := omega) only [pq_bm] at *); all_goals omega)) dX11_empty_41 (fun x41 e41 l41 u41 => ?_)
        refine pq_if_eq (tgt := 49) F dX11_empty_42 (by decide) (fun c42 => ?_) (fun c42 => ?_)
        · skip
          refine pq_iconst (v := 0) F dX11_empty_49 (by decide) ?_
          exact pq_zret F hr hlk hA rfl (Nat.le_refl _) (Nat.le_refl _) (⟨(pq_Fr.rf.uO ha (by decide)), _, rfl, by decide, by decide⟩) dX11_empty_50
        · skip
          refine pq_iconst (v := 1) F dX11_empty_45 (by decide) ?_
          refine pq_goto (tgt := 50) F dX11_empty_46 (by decide) ?_
          exact pq_zret F hr hlk hA rfl (Nat.le_refl _) (Nat.le_refl _) (⟨(pq_Fr.rf.uO ha (by decide)), _, rfl, by decide, by decide⟩) dX11_empty_50
  · skip
    refine pq_iload_n F dX11_empty_4 rfl rfl ?_
    refine pq_iconst (v := 1) F dX11_empty_5 (by decide) ?_
    refine pq_icmp_ne (tgt := 13) F dX11_empty_6 (by decide) (fun c6 => ?_) (fun c6 => ?_)
    · skip
      refine pq_iconst (v := 0) F dX11_empty_13 (by decide) ?_
      refine pq_istore_n F dX11_empty_14 rfl (by decide) ?_
      refine pq_aload_n F dX11_empty_15 rfl rfl ?_
      refine pq_iload_n F dX11_empty_16 rfl rfl ?_
      refine pq_if_eq (tgt := 24) F dX11_empty_17 (by decide) (fun c17 => ?_) (fun c17 => ?_)
      · skip
        refine pq_iconst (v := 1) F dX11_empty_24 (by decide) ?_
        refine pq_putI F ha (by decide) lp_X11_3 rfl (pq_any1 _) (pq_any2 _) dX11_empty_25 ?_
        refine pq_iload_n F dX11_empty_28 rfl rfl ?_
        refine pq_if_eq (tgt := 49) F dX11_empty_29 (by decide) (fun c29 => ?_) (fun c29 => ?_)
        · skip
          refine pq_iconst (v := 0) F dX11_empty_49 (by decide) ?_
          exact pq_zret F hr hlk hA rfl (Nat.le_refl _) (Nat.le_refl _) (⟨(pq_Fr.rf.uO ha (by decide)), _, rfl, by decide, by decide⟩) dX11_empty_50
        · exact absurd rfl c29
      · exact absurd rfl c17
    · skip
      refine pq_iconst (v := 1) F dX11_empty_9 (by decide) ?_
      refine pq_goto (tgt := 14) F dX11_empty_10 (by decide) ?_
      refine pq_istore_n F dX11_empty_14 rfl (by decide) ?_
      refine pq_aload_n F dX11_empty_15 rfl rfl ?_
      refine pq_iload_n F dX11_empty_16 rfl rfl ?_
      refine pq_if_eq (tgt := 24) F dX11_empty_17 (by decide) (fun c17 => ?_) (fun c17 => ?_)
      · exact absurd c17 (by decide)
      · skip
        refine pq_iconst (v := 0) F dX11_empty_20 (by decide) ?_
        refine pq_goto (tgt := 25) F dX11_empty_21 (by decide) ?_
        refine pq_putI F ha (by decide) lp_X11_3 rfl (pq_any1 _) (pq_any2 _) dX11_empty_25 ?_
        refine pq_iload_n F dX11_empty_28 rfl rfl ?_
        refine pq_if_eq (tgt := 49) F dX11_empty_29 (by decide) (fun c29 => ?_) (fun c29 => ?_)
        · exact absurd c29 (by decide)
        · skip
          refine pq_aload_n F dX11_empty_32 rfl rfl ?_
          refine pq_getR F ha (by decide) lk_X11_225 rfl dX11_empty_33 (fun r33 e33 h33 => ?_)
          refine pq_sipush (v := 402) F dX11_empty_36 (by decide) ?_
          refine pq_iload_n F dX11_empty_39 rfl rfl ?_
          refine pq_imul F dX11_empty_40 ?_
          have hw2 : w.toInt = 0 ∨ w.toInt = 1 := by first | (left; rw [c1]; rfl) | (right; rw [c6]; rfl)
          refine pq_zald F h33 (by decide) (by decide) rfl (fun n1_41 n2_41 => (by simp only [vp_in_iff, Int32.lt_iff_toInt_lt, Int32.le_iff_toInt_le, ← Int32.toInt_inj, Int32.toInt_add, Int32.toInt_sub, Int32.toInt_mul, Int32.toInt_neg, pq_NuO, pq_NuI, pq_NuJ, qm1, q0, q1, q402] at *; (try simp (disch := omega) only [pq_bm] at *); all_goals omega)) dX11_empty_41 (fun x41 e41 l41 u41 => ?_)
          refine pq_if_eq (tgt := 49) F dX11_empty_42 (by decide) (fun c42 => ?_) (fun c42 => ?_)
          · skip
            refine pq_iconst (v := 0) F dX11_empty_49 (by decide) ?_
            exact pq_zret F hr hlk hA rfl (Nat.le_refl _) (Nat.le_refl _) (⟨(pq_Fr.rf.uO ha (by decide)), _, rfl, by decide, by decide⟩) dX11_empty_50
          · skip
            refine pq_iconst (v := 1) F dX11_empty_45 (by decide) ?_
            refine pq_goto (tgt := 50) F dX11_empty_46 (by decide) ?_
            exact pq_zret F hr hlk hA rfl (Nat.le_refl _) (Nat.le_refl _) (⟨(pq_Fr.rf.uO ha (by decide)), _, rfl, by decide, by decide⟩) dX11_empty_50

set_option maxHeartbeats 4000000 in
set_option maxRecDepth 100000 in
theorem k_X11_fits (l : Launch) (D : va_G) (cy : Nat → ClassId) (S : HS) (a : Nat) (ha : pq_R S a 14) (w t : Int32) (ht : hO S a 1 = .int t) (hb0 : 0 ≤ t.toInt) (hb1 : t.toInt ≤ 2048) : pq_C l D cy yX11_fits cX11_fits 5 (some .boolean) 2 0 0 S [.ref a, .int w] (fun v S2 => pq_Fr [(14, 1), (14, 3)] S S2 ∧ hO S2 a 1 = .int 0 ∧ ∃ x : Int32, v = some (.int x) ∧ 0 ≤ x.toInt ∧ x.toInt ≤ 1) := by
  refine pq_start (by decide) (Nat.le_of_ble_eq_true rfl) ?_
  intro p e s m args below meth c A F hr hlk hnm hA
  have qm1 : (-1 : Int32).toInt = -1 := rfl
  have q0 : (0 : Int32).toInt = 0 := rfl
  have q1 : (1 : Int32).toInt = 1 := rfl
  have q128 : (128 : Int32).toInt = 128 := rfl
  have q402 : (402 : Int32).toInt = 402 := rfl
  have hF1 : pq_Fr [(14, 1), (14, 3)] S (pq_uO (pq_uO S a 3 (.int 0)) a 1 (.int 0)) := (pq_Fr.rf.uO ha (by decide)).uO ha (by decide)
  have L26 : ∀  (fu : Nat) (q i : Int32) (hw : w = 0 ∨ w = 1) (hq0 : 0 ≤ q.toInt) (hq1 : q.toInt ≤ 401) (hi0 : 0 ≤ i.toInt) (hi1 : i.toInt ≤ t.toInt), (t.toInt - i.toInt).toNat < fu → pq_At p l e (pq_rm 2 0 0) s m args below meth c (pq_Z below args s D cy S 0 0 (fun v S2 => pq_Fr [(14, 1), (14, 3)] S S2 ∧ hO S2 a 1 = .int 0 ∧ ∃ x : Int32, v = some (.int x) ∧ 0 ≤ x.toInt ∧ x.toInt ≤ 1)) D cy A 5 0 0 26 (pq_uO (pq_uO S a 3 (.int 0)) a 1 (.int 0)) [some (.ref a), some (.int w), some (.int t), some (.int q), some (.int i)] [] := by
    intro  fu
    induction fu with
    | zero => intro q i hw hq0 hq1 hi0 hi1 hm; exact absurd hm (Nat.not_lt_zero _)
    | succ fu ih =>
      intro q i hw hq0 hq1 hi0 hi1 hm
      have hw2 : w.toInt = 0 ∨ w.toInt = 1 := by rcases hw with rfl | rfl <;> simp
      refine pq_iload F dX11_fits_26 rfl ?_
      refine pq_iload_n F dX11_fits_28 rfl rfl ?_
      refine pq_icmp_ge (tgt := 75) F dX11_fits_29 (by decide) (fun c29 => ?_) (fun c29 => ?_)
      · skip
        refine pq_aload_n F dX11_fits_75 rfl rfl ?_
        refine pq_getR F ha (by decide) lk_X11_225 rfl dX11_fits_76 (fun r76 e76 h76 => ?_)
        refine pq_sipush (v := 402) F dX11_fits_79 (by decide) ?_
        refine pq_iload_n F dX11_fits_82 rfl rfl ?_
        refine pq_imul F dX11_fits_83 ?_
        refine pq_iload_n F dX11_fits_84 rfl rfl ?_
        refine pq_iadd F dX11_fits_85 ?_
        refine pq_zald F h76 (by decide) (by decide) rfl (fun n1_86 n2_86 => (by simp only [vp_in_iff, Int32.lt_iff_toInt_lt, Int32.le_iff_toInt_le, ← Int32.toInt_inj, Int32.toInt_add, Int32.toInt_sub, Int32.toInt_mul, Int32.toInt_neg, pq_NuO, pq_NuI, pq_NuJ, qm1, q0, q1, q128, q402] at *; (try simp (disch := omega) only [pq_bm] at *); all_goals omega)) dX11_fits_86 (fun x86 e86 l86 u86 => ?_)
        exact pq_zret F hr hlk hA (pq_bz l86 u86).1 (Nat.le_refl _) (Nat.le_refl _) (⟨hF1, pq_ks, _, rfl, l86, u86⟩) dX11_fits_87
      · skip
        refine pq_aload_n F dX11_fits_32 rfl rfl ?_
        refine pq_getR F ha (by decide) lk_X11_30 rfl dX11_fits_33 (fun r33 e33 h33 => ?_)
        refine pq_iload F dX11_fits_36 rfl ?_
        refine pq_bald F h33 (by decide) (by decide) rfl (fun n1_38 n2_38 => (by simp only [vp_in_iff, Int32.lt_iff_toInt_lt, Int32.le_iff_toInt_le, ← Int32.toInt_inj, Int32.toInt_add, Int32.toInt_sub, Int32.toInt_mul, Int32.toInt_neg, pq_NuO, pq_NuI, pq_NuJ, qm1, q0, q1, q128, q402] at *; (try simp (disch := omega) only [pq_bm] at *); all_goals omega)) dX11_fits_38 (fun x38 e38 l38 u38 => ?_)
        refine pq_if_ge (tgt := 44) F dX11_fits_39 (by decide) (fun c39 => ?_) (fun c39 => ?_)
        · skip
          refine pq_aload_n F dX11_fits_44 rfl rfl ?_
          refine pq_getR F ha (by decide) lk_X11_219 rfl dX11_fits_45 (fun r45 e45 h45 => ?_)
          refine pq_sipush (v := 128) F dX11_fits_48 (by decide) ?_
          refine pq_sipush (v := 402) F dX11_fits_51 (by decide) ?_
          refine pq_iload_n F dX11_fits_54 rfl rfl ?_
          refine pq_imul F dX11_fits_55 ?_
          refine pq_iload_n F dX11_fits_56 rfl rfl ?_
          refine pq_iadd F dX11_fits_57 ?_
          refine pq_imul F dX11_fits_58 ?_
          refine pq_aload_n F dX11_fits_59 rfl rfl ?_
          refine pq_get F ha (by decide) lk_X11_30 e33 dX11_fits_60 ?_
          refine pq_iload F dX11_fits_63 rfl ?_
          refine pq_bald F h33 (by decide) (by decide) rfl (fun n1_65 n2_65 => (by simp only [vp_in_iff, Int32.lt_iff_toInt_lt, Int32.le_iff_toInt_le, ← Int32.toInt_inj, Int32.toInt_add, Int32.toInt_sub, Int32.toInt_mul, Int32.toInt_neg, pq_NuO, pq_NuI, pq_NuJ, qm1, q0, q1, q128, q402] at *; (try simp (disch := omega) only [pq_bm] at *); all_goals omega)) dX11_fits_65 (fun x65 e65 l65 u65 => ?_)
          refine pq_iadd F dX11_fits_66 ?_
          refine pq_iald F h45 (by decide) (by decide) rfl (fun n1_67 n2_67 => (by simp only [vp_in_iff, Int32.lt_iff_toInt_lt, Int32.le_iff_toInt_le, ← Int32.toInt_inj, Int32.toInt_add, Int32.toInt_sub, Int32.toInt_mul, Int32.toInt_neg, pq_NuO, pq_NuI, pq_NuJ, qm1, q0, q1, q128, q402] at *; (try simp (disch := omega) only [pq_bm] at *); all_goals omega)) dX11_fits_67 (fun x67 e67 l67 u67 => ?_)
          refine pq_istore_n F dX11_fits_68 rfl (by decide) ?_
          refine pq_iinc (v := 1) F dX11_fits_69 rfl (by decide) (by decide) ?_
          refine pq_goto (tgt := 26) F dX11_fits_72 (by decide) ?_
          exact ih _ _ hw (by simp only [vp_in_iff, Int32.lt_iff_toInt_lt, Int32.le_iff_toInt_le, ← Int32.toInt_inj, Int32.toInt_add, Int32.toInt_sub, Int32.toInt_mul, Int32.toInt_neg, pq_NuO, pq_NuI, pq_NuJ, qm1, q0, q1, q128, q402] at *; (try simp (disch := omega) only [pq_bm] at *); all_goals omega) (by simp only [vp_in_iff, Int32.lt_iff_toInt_lt, Int32.le_iff_toInt_le, ← Int32.toInt_inj, Int32.toInt_add, Int32.toInt_sub, Int32.toInt_mul, Int32.toInt_neg, pq_NuO, pq_NuI, pq_NuJ, qm1, q0, q1, q128, q402] at *; (try simp (disch := omega) only [pq_bm] at *); all_goals omega) (by simp only [vp_in_iff, Int32.lt_iff_toInt_lt, Int32.le_iff_toInt_le, ← Int32.toInt_inj, Int32.toInt_add, Int32.toInt_sub, Int32.toInt_mul, Int32.toInt_neg, pq_NuO, pq_NuI, pq_NuJ, qm1, q0, q1, q128, q402] at *; (try simp (disch := omega) only [pq_bm] at *); all_goals omega) (by simp only [vp_in_iff, Int32.lt_iff_toInt_lt, Int32.le_iff_toInt_le, ← Int32.toInt_inj, Int32.toInt_add, Int32.toInt_sub, Int32.toInt_mul, Int32.toInt_neg, pq_NuO, pq_NuI, pq_NuJ, qm1, q0, q1, q128, q402] at *; (try simp (disch := omega) only [pq_bm] at *); all_goals omega) (by simp only [vp_in_iff, Int32.lt_iff_toInt_lt, Int32.le_iff_toInt_le, ← Int32.toInt_inj, Int32.toInt_add, Int32.toInt_sub, Int32.toInt_mul, Int32.toInt_neg, pq_NuO, pq_NuI, pq_NuJ, qm1, q0, q1, q128, q402] at *; (try simp (disch := omega) only [pq_bm] at *); all_goals omega)
        · skip
          refine pq_iconst (v := 0) F dX11_fits_42 (by decide) ?_
          exact pq_zret F hr hlk hA rfl (Nat.le_refl _) (Nat.le_refl _) (⟨hF1, pq_ks, _, rfl, by decide, by decide⟩) dX11_fits_43
  refine pq_aload_n F dX11_fits_0 rfl rfl ?_
  refine pq_callV (As := []) F (k_X11_take l D cy _ _ ?_) ml_X11_273 ha (by decide) rfl (Nat.le_of_ble_eq_true rfl) ⟨Nat.le_of_ble_eq_true rfl, Nat.le_of_ble_eq_true rfl⟩ ⟨by decide, by decide⟩ dX11_fits_1 (fun v1 S1 w1 => ?_)
  · exact ha
  obtain ⟨rfl, rfl⟩ := w1
  rw [ht]
  refine pq_istore_n F dX11_fits_4 rfl (by decide) ?_
  refine pq_iload_n F dX11_fits_5 rfl rfl ?_
  refine pq_if_eq (tgt := 21) F dX11_fits_6 (by decide) (fun c6 => ?_) (fun c6 => ?_)
  · skip
    refine pq_iconst (v := 0) F dX11_fits_21 (by decide) ?_
    refine pq_istore_n F dX11_fits_22 rfl (by decide) ?_
    refine pq_iconst (v := 0) F dX11_fits_23 (by decide) ?_
    refine pq_istore F dX11_fits_24 (by decide) ?_
    exact L26 5000 _ _ (by first | exact Or.inl c6 | exact Or.inr c11) (by simp only [vp_in_iff, Int32.lt_iff_toInt_lt, Int32.le_iff_toInt_le, ← Int32.toInt_inj, Int32.toInt_add, Int32.toInt_sub, Int32.toInt_mul, Int32.toInt_neg, pq_NuO, pq_NuI, pq_NuJ, qm1, q0, q1, q128, q402] at *; (try simp (disch := omega) only [pq_bm] at *); all_goals omega) (by simp only [vp_in_iff, Int32.lt_iff_toInt_lt, Int32.le_iff_toInt_le, ← Int32.toInt_inj, Int32.toInt_add, Int32.toInt_sub, Int32.toInt_mul, Int32.toInt_neg, pq_NuO, pq_NuI, pq_NuJ, qm1, q0, q1, q128, q402] at *; (try simp (disch := omega) only [pq_bm] at *); all_goals omega) (by simp only [vp_in_iff, Int32.lt_iff_toInt_lt, Int32.le_iff_toInt_le, ← Int32.toInt_inj, Int32.toInt_add, Int32.toInt_sub, Int32.toInt_mul, Int32.toInt_neg, pq_NuO, pq_NuI, pq_NuJ, qm1, q0, q1, q128, q402] at *; (try simp (disch := omega) only [pq_bm] at *); all_goals omega) (by simp only [vp_in_iff, Int32.lt_iff_toInt_lt, Int32.le_iff_toInt_le, ← Int32.toInt_inj, Int32.toInt_add, Int32.toInt_sub, Int32.toInt_mul, Int32.toInt_neg, pq_NuO, pq_NuI, pq_NuJ, qm1, q0, q1, q128, q402] at *; (try simp (disch := omega) only [pq_bm] at *); all_goals omega) (by simp only [vp_in_iff, Int32.lt_iff_toInt_lt, Int32.le_iff_toInt_le, ← Int32.toInt_inj, Int32.toInt_add, Int32.toInt_sub, Int32.toInt_mul, Int32.toInt_neg, pq_NuO, pq_NuI, pq_NuJ, qm1, q0, q1, q128, q402] at *; (try simp (disch := omega) only [pq_bm] at *); all_goals omega)
  · skip
    refine pq_iload_n F dX11_fits_9 rfl rfl ?_
    refine pq_iconst (v := 1) F dX11_fits_10 (by decide) ?_
    refine pq_icmp_eq (tgt := 21) F dX11_fits_11 (by decide) (fun c11 => ?_) (fun c11 => ?_)
    · skip
      refine pq_iconst (v := 0) F dX11_fits_21 (by decide) ?_
      refine pq_istore_n F dX11_fits_22 rfl (by decide) ?_
      refine pq_iconst (v := 0) F dX11_fits_23 (by decide) ?_
      refine pq_istore F dX11_fits_24 (by decide) ?_
      exact L26 5000 _ _ (by first | exact Or.inl c6 | exact Or.inr c11) (by simp only [vp_in_iff, Int32.lt_iff_toInt_lt, Int32.le_iff_toInt_le, ← Int32.toInt_inj, Int32.toInt_add, Int32.toInt_sub, Int32.toInt_mul, Int32.toInt_neg, pq_NuO, pq_NuI, pq_NuJ, qm1, q0, q1, q128, q402] at *; (try simp (disch := omega) only [pq_bm] at *); all_goals omega) (by simp only [vp_in_iff, Int32.lt_iff_toInt_lt, Int32.le_iff_toInt_le, ← Int32.toInt_inj, Int32.toInt_add, Int32.toInt_sub, Int32.toInt_mul, Int32.toInt_neg, pq_NuO, pq_NuI, pq_NuJ, qm1, q0, q1, q128, q402] at *; (try simp (disch := omega) only [pq_bm] at *); all_goals omega) (by simp only [vp_in_iff, Int32.lt_iff_toInt_lt, Int32.le_iff_toInt_le, ← Int32.toInt_inj, Int32.toInt_add, Int32.toInt_sub, Int32.toInt_mul, Int32.toInt_neg, pq_NuO, pq_NuI, pq_NuJ, qm1, q0, q1, q128, q402] at *; (try simp (disch := omega) only [pq_bm] at *); all_goals omega) (by simp only [vp_in_iff, Int32.lt_iff_toInt_lt, Int32.le_iff_toInt_le, ← Int32.toInt_inj, Int32.toInt_add, Int32.toInt_sub, Int32.toInt_mul, Int32.toInt_neg, pq_NuO, pq_NuI, pq_NuJ, qm1, q0, q1, q128, q402] at *; (try simp (disch := omega) only [pq_bm] at *); all_goals omega) (by simp only [vp_in_iff, Int32.lt_iff_toInt_lt, Int32.le_iff_toInt_le, ← Int32.toInt_inj, Int32.toInt_add, Int32.toInt_sub, Int32.toInt_mul, Int32.toInt_neg, pq_NuO, pq_NuI, pq_NuJ, qm1, q0, q1, q128, q402] at *; (try simp (disch := omega) only [pq_bm] at *); all_goals omega)
    · skip
      refine pq_aload_n F dX11_fits_14 rfl rfl ?_
      refine pq_iconst (v := 1) F dX11_fits_15 (by decide) ?_
      refine pq_putI F ha (by decide) lp_X11_3 rfl (pq_any1 _) (pq_any2 _) dX11_fits_16 ?_
      refine pq_iconst (v := 0) F dX11_fits_19 (by decide) ?_
      exact pq_zret F hr hlk hA rfl (Nat.le_refl _) (Nat.le_refl _) (⟨(hF1.uO ha (by decide)), pq_kp pq_ks (by decide), _, rfl, by decide, by decide⟩) dX11_fits_20

