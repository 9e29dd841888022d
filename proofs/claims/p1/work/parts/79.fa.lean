set_option maxHeartbeats 4000000 in
set_option maxRecDepth 100000 in
theorem k_X11_is1 (l : Launch) (D : va_G) (cy : Nat → ClassId) (S : HS) (a : Nat) (ha : pq_R S a 14) (kd : Int32) (hkd0 : 0 ≤ kd.toInt) (hkd1 : kd.toInt ≤ 4) (pr : Int32) (en : Nat) (f39 : hO S a 39 = .ref en) (hen : pq_R S en 202) (ka : hI S en 0 = 1) (kb : hI S en 402 = 1) (hpr : pr = 0) : pq_C l D cy yX11_is cX11_is 5 (some .boolean) 1 0 0 S [.ref a, .int kd, .int pr] (fun v S2 => S2 = S ∧ ∃ x : Int32, v = some (.int x) ∧ 0 ≤ x.toInt ∧ x.toInt ≤ 1 ∧ (x = (if kd = 3 then 1 else 0))) := by
  refine pq_start (by decide) (Nat.le_of_ble_eq_true rfl) ?_
  intro p e s m args below meth c A F hr hlk hnm hA
  have lqm1 : (-1 : Int32).toInt = -1 := rfl
  have lq0 : (0 : Int32).toInt = 0 := rfl
  have lq1 : (1 : Int32).toInt = 1 := rfl
  have lq2 : (2 : Int32).toInt = 2 := rfl
  have lq3 : (3 : Int32).toInt = 3 := rfl
  have lq4 : (4 : Int32).toInt = 4 := rfl
  have lq402 : (402 : Int32).toInt = 402 := rfl
  have lq806 : (806 : Int32).toInt = 806 := rfl
  subst hpr
  refine pq_aload_n F dX11_is_0 rfl rfl ?_
  refine pq_get F ha (by decide) lk_X11_225 f39 dX11_is_1 ?_
  refine pq_iload_n F dX11_is_4 rfl rfl ?_
  refine pq_sipush (v := 402) F dX11_is_5 (by decide) ?_
  have z9 : (0 / 402 : Int32).toInt = 0 := (by decide)
  refine pq_idiv F dX11_is_8 (by decide) ?_
  refine pq_zald F hen (by decide) (by decide) rfl (fun n1_9 n2_9 => (by focus ((try clear ka); (try clear kb); simp only [vp_in_iff, Int32.lt_iff_toInt_lt, Int32.le_iff_toInt_le, ← Int32.toInt_inj, Int32.toInt_add, Int32.toInt_sub, Int32.toInt_mul, Int32.toInt_neg, pq_NuO, pq_NuI, pq_NuJ, pq_NuR, pq_shr6, pq_shr7, pq_shr8, lqm1, lq0, lq1, lq2, lq3, lq4, lq402, lq806] at *; (try simp (disch := omega) only [pq_bm] at *); all_goals omega))) dX11_is_9 (fun x9 e9 l9 u9 => ?_)
  have x9e : x9 = 1 := e9.trans ka
  subst x9e
  refine pq_istore_n F dX11_is_10 rfl (by decide) ?_
  refine pq_aload_n F dX11_is_11 rfl rfl ?_
  refine pq_get F ha (by decide) lk_X11_225 f39 dX11_is_12 ?_
  refine pq_sipush (v := 402) F dX11_is_15 (by decide) ?_
  refine pq_iload_n F dX11_is_18 rfl rfl ?_
  refine pq_sipush (v := 402) F dX11_is_19 (by decide) ?_
  have z24 : (0 % 402 : Int32).toInt = 0 := (by decide)
  refine pq_irem F dX11_is_22 (by decide) ?_
  refine pq_iadd F dX11_is_23 ?_
  refine pq_zald F hen (by decide) (by decide) rfl (fun n1_24 n2_24 => (by focus ((try clear ka); (try clear kb); simp only [vp_in_iff, Int32.lt_iff_toInt_lt, Int32.le_iff_toInt_le, ← Int32.toInt_inj, Int32.toInt_add, Int32.toInt_sub, Int32.toInt_mul, Int32.toInt_neg, pq_NuO, pq_NuI, pq_NuJ, pq_NuR, pq_shr6, pq_shr7, pq_shr8, lqm1, lq0, lq1, lq2, lq3, lq4, lq402, lq806] at *; (try simp (disch := omega) only [pq_bm] at *); all_goals omega))) dX11_is_24 (fun x24 e24 l24 u24 => ?_)
  have x24e : x24 = 1 := e24.trans kb
  subst x24e
  refine pq_istore F dX11_is_25 (by decide) ?_
  refine pq_iload_n F dX11_is_27 rfl rfl ?_
  refine pq_if_ne (tgt := 45) F dX11_is_28 (by decide) (fun c28 => ?_) (fun c28 => ?_)
  · skip
    refine pq_iload_n F dX11_is_45 rfl rfl ?_
    refine pq_iconst (v := 1) F dX11_is_46 (by decide) ?_
    refine pq_icmp_ne (tgt := 67) F dX11_is_47 (by decide) (fun c47 => ?_) (fun c47 => ?_)
    · skip
      refine pq_iload_n F dX11_is_67 rfl rfl ?_
      refine pq_iconst (v := 2) F dX11_is_68 (by decide) ?_
      refine pq_icmp_ne (tgt := 89) F dX11_is_69 (by decide) (fun c69 => ?_) (fun c69 => ?_)
      · skip
        refine pq_iload_n F dX11_is_89 rfl rfl ?_
        refine pq_iconst (v := 3) F dX11_is_90 (by decide) ?_
        refine pq_icmp_ne (tgt := 111) F dX11_is_91 (by decide) (fun c91 => ?_) (fun c91 => ?_)
        · skip
          refine pq_iload_n F dX11_is_111 rfl rfl ?_
          refine pq_if_ne (tgt := 124) F dX11_is_112 (by decide) (fun c112 => ?_) (fun c112 => ?_)
          · skip
            refine pq_iconst (v := 0) F dX11_is_124 (by decide) ?_
            exact pq_zret F hr hlk hA rfl (Nat.le_refl _) (Nat.le_refl _) (⟨rfl, 0, rfl, (by focus ((try clear ka); (try clear kb); simp only [vp_in_iff, Int32.lt_iff_toInt_lt, Int32.le_iff_toInt_le, ← Int32.toInt_inj, Int32.toInt_add, Int32.toInt_sub, Int32.toInt_mul, Int32.toInt_neg, pq_NuO, pq_NuI, pq_NuJ, pq_NuR, pq_shr6, pq_shr7, pq_shr8, lqm1, lq0, lq1, lq2, lq3, lq4, lq402, lq806] at *; (try simp (disch := omega) only [pq_bm] at *); all_goals omega)), (by focus ((try clear ka); (try clear kb); simp only [vp_in_iff, Int32.lt_iff_toInt_lt, Int32.le_iff_toInt_le, ← Int32.toInt_inj, Int32.toInt_add, Int32.toInt_sub, Int32.toInt_mul, Int32.toInt_neg, pq_NuO, pq_NuI, pq_NuJ, pq_NuR, pq_shr6, pq_shr7, pq_shr8, lqm1, lq0, lq1, lq2, lq3, lq4, lq402, lq806] at *; (try simp (disch := omega) only [pq_bm] at *); all_goals omega)), (by rw [if_neg c91])⟩) dX11_is_125
          · exact absurd c112 (by decide)
        · skip
          refine pq_iload_n F dX11_is_94 rfl rfl ?_
          refine pq_if_eq (tgt := 107) F dX11_is_95 (by decide) (fun c95 => ?_) (fun c95 => ?_)
          · exact absurd c95 (by decide)
          · skip
            refine pq_iload F dX11_is_98 rfl ?_
            refine pq_if_eq (tgt := 107) F dX11_is_100 (by decide) (fun c100 => ?_) (fun c100 => ?_)
            · exact absurd c100 (by decide)
            · skip
              refine pq_iconst (v := 1) F dX11_is_103 (by decide) ?_
              refine pq_goto (tgt := 125) F dX11_is_104 (by decide) ?_
              exact pq_zret F hr hlk hA rfl (Nat.le_refl _) (Nat.le_refl _) (⟨rfl, 1, rfl, (by focus ((try clear ka); (try clear kb); simp only [vp_in_iff, Int32.lt_iff_toInt_lt, Int32.le_iff_toInt_le, ← Int32.toInt_inj, Int32.toInt_add, Int32.toInt_sub, Int32.toInt_mul, Int32.toInt_neg, pq_NuO, pq_NuI, pq_NuJ, pq_NuR, pq_shr6, pq_shr7, pq_shr8, lqm1, lq0, lq1, lq2, lq3, lq4, lq402, lq806] at *; (try simp (disch := omega) only [pq_bm] at *); all_goals omega)), (by focus ((try clear ka); (try clear kb); simp only [vp_in_iff, Int32.lt_iff_toInt_lt, Int32.le_iff_toInt_le, ← Int32.toInt_inj, Int32.toInt_add, Int32.toInt_sub, Int32.toInt_mul, Int32.toInt_neg, pq_NuO, pq_NuI, pq_NuJ, pq_NuR, pq_shr6, pq_shr7, pq_shr8, lqm1, lq0, lq1, lq2, lq3, lq4, lq402, lq806] at *; (try simp (disch := omega) only [pq_bm] at *); all_goals omega)), (by rw [c91]; decide)⟩) dX11_is_125
      · skip
        refine pq_iload F dX11_is_72 rfl ?_
        refine pq_if_eq (tgt := 85) F dX11_is_74 (by decide) (fun c74 => ?_) (fun c74 => ?_)
        · exact absurd c74 (by decide)
        · skip
          refine pq_iload_n F dX11_is_77 rfl rfl ?_
          refine pq_if_ne (tgt := 85) F dX11_is_78 (by decide) (fun c78 => ?_) (fun c78 => ?_)
          · skip
            refine pq_iconst (v := 0) F dX11_is_85 (by decide) ?_
            refine pq_goto (tgt := 125) F dX11_is_86 (by decide) ?_
            exact pq_zret F hr hlk hA rfl (Nat.le_refl _) (Nat.le_refl _) (⟨rfl, 0, rfl, (by focus ((try clear ka); (try clear kb); simp only [vp_in_iff, Int32.lt_iff_toInt_lt, Int32.le_iff_toInt_le, ← Int32.toInt_inj, Int32.toInt_add, Int32.toInt_sub, Int32.toInt_mul, Int32.toInt_neg, pq_NuO, pq_NuI, pq_NuJ, pq_NuR, pq_shr6, pq_shr7, pq_shr8, lqm1, lq0, lq1, lq2, lq3, lq4, lq402, lq806] at *; (try simp (disch := omega) only [pq_bm] at *); all_goals omega)), (by focus ((try clear ka); (try clear kb); simp only [vp_in_iff, Int32.lt_iff_toInt_lt, Int32.le_iff_toInt_le, ← Int32.toInt_inj, Int32.toInt_add, Int32.toInt_sub, Int32.toInt_mul, Int32.toInt_neg, pq_NuO, pq_NuI, pq_NuJ, pq_NuR, pq_shr6, pq_shr7, pq_shr8, lqm1, lq0, lq1, lq2, lq3, lq4, lq402, lq806] at *; (try simp (disch := omega) only [pq_bm] at *); all_goals omega)), (by rw [c69]; decide)⟩) dX11_is_125
          · exact absurd c78 (by decide)
    · skip
      refine pq_iload_n F dX11_is_50 rfl rfl ?_
      refine pq_if_eq (tgt := 63) F dX11_is_51 (by decide) (fun c51 => ?_) (fun c51 => ?_)
      · exact absurd c51 (by decide)
      · skip
        refine pq_iload F dX11_is_54 rfl ?_
        refine pq_if_ne (tgt := 63) F dX11_is_56 (by decide) (fun c56 => ?_) (fun c56 => ?_)
        · skip
          refine pq_iconst (v := 0) F dX11_is_63 (by decide) ?_
          refine pq_goto (tgt := 125) F dX11_is_64 (by decide) ?_
          exact pq_zret F hr hlk hA rfl (Nat.le_refl _) (Nat.le_refl _) (⟨rfl, 0, rfl, (by focus ((try clear ka); (try clear kb); simp only [vp_in_iff, Int32.lt_iff_toInt_lt, Int32.le_iff_toInt_le, ← Int32.toInt_inj, Int32.toInt_add, Int32.toInt_sub, Int32.toInt_mul, Int32.toInt_neg, pq_NuO, pq_NuI, pq_NuJ, pq_NuR, pq_shr6, pq_shr7, pq_shr8, lqm1, lq0, lq1, lq2, lq3, lq4, lq402, lq806] at *; (try simp (disch := omega) only [pq_bm] at *); all_goals omega)), (by focus ((try clear ka); (try clear kb); simp only [vp_in_iff, Int32.lt_iff_toInt_lt, Int32.le_iff_toInt_le, ← Int32.toInt_inj, Int32.toInt_add, Int32.toInt_sub, Int32.toInt_mul, Int32.toInt_neg, pq_NuO, pq_NuI, pq_NuJ, pq_NuR, pq_shr6, pq_shr7, pq_shr8, lqm1, lq0, lq1, lq2, lq3, lq4, lq402, lq806] at *; (try simp (disch := omega) only [pq_bm] at *); all_goals omega)), (by rw [c47]; decide)⟩) dX11_is_125
        · exact absurd c56 (by decide)
  · skip
    refine pq_iload_n F dX11_is_31 rfl rfl ?_
    refine pq_iload F dX11_is_32 rfl ?_
    refine pq_icmp_eq (tgt := 41) F dX11_is_34 (by decide) (fun c34 => ?_) (fun c34 => ?_)
    · skip
      refine pq_iconst (v := 0) F dX11_is_41 (by decide) ?_
      refine pq_goto (tgt := 125) F dX11_is_42 (by decide) ?_
      exact pq_zret F hr hlk hA rfl (Nat.le_refl _) (Nat.le_refl _) (⟨rfl, 0, rfl, (by focus ((try clear ka); (try clear kb); simp only [vp_in_iff, Int32.lt_iff_toInt_lt, Int32.le_iff_toInt_le, ← Int32.toInt_inj, Int32.toInt_add, Int32.toInt_sub, Int32.toInt_mul, Int32.toInt_neg, pq_NuO, pq_NuI, pq_NuJ, pq_NuR, pq_shr6, pq_shr7, pq_shr8, lqm1, lq0, lq1, lq2, lq3, lq4, lq402, lq806] at *; (try simp (disch := omega) only [pq_bm] at *); all_goals omega)), (by focus ((try clear ka); (try clear kb); simp only [vp_in_iff, Int32.lt_iff_toInt_lt, Int32.le_iff_toInt_le, ← Int32.toInt_inj, Int32.toInt_add, Int32.toInt_sub, Int32.toInt_mul, Int32.toInt_neg, pq_NuO, pq_NuI, pq_NuJ, pq_NuR, pq_shr6, pq_shr7, pq_shr8, lqm1, lq0, lq1, lq2, lq3, lq4, lq402, lq806] at *; (try simp (disch := omega) only [pq_bm] at *); all_goals omega)), (by rw [c28]; decide)⟩) dX11_is_125
    · exact absurd rfl c34

set_option maxHeartbeats 4000000 in
set_option maxRecDepth 100000 in
theorem k_X11_is0 (l : Launch) (D : va_G) (cy : Nat → ClassId) (S : HS) (a : Nat) (ha : pq_R S a 14) (kd : Int32) (hkd0 : 0 ≤ kd.toInt) (hkd1 : kd.toInt ≤ 4) (pr : Int32) (en : Nat) (f39 : hO S a 39 = .ref en) (hen : pq_R S en 202) (ka : hI S en 2 = 0) (kb : hI S en 404 = 0) (hpr : pr = 806) : pq_C l D cy yX11_is cX11_is 5 (some .boolean) 1 0 0 S [.ref a, .int kd, .int pr] (fun v S2 => S2 = S ∧ ∃ x : Int32, v = some (.int x) ∧ 0 ≤ x.toInt ∧ x.toInt ≤ 1 ∧ (x = (if kd = 4 then 1 else 0))) := by
  refine pq_start (by decide) (Nat.le_of_ble_eq_true rfl) ?_
  intro p e s m args below meth c A F hr hlk hnm hA
  have lqm1 : (-1 : Int32).toInt = -1 := rfl
  have lq0 : (0 : Int32).toInt = 0 := rfl
  have lq1 : (1 : Int32).toInt = 1 := rfl
  have lq2 : (2 : Int32).toInt = 2 := rfl
  have lq3 : (3 : Int32).toInt = 3 := rfl
  have lq4 : (4 : Int32).toInt = 4 := rfl
  have lq402 : (402 : Int32).toInt = 402 := rfl
  have lq806 : (806 : Int32).toInt = 806 := rfl
  subst hpr
  refine pq_aload_n F dX11_is_0 rfl rfl ?_
  refine pq_get F ha (by decide) lk_X11_225 f39 dX11_is_1 ?_
  refine pq_iload_n F dX11_is_4 rfl rfl ?_
  refine pq_sipush (v := 402) F dX11_is_5 (by decide) ?_
  have z9 : (806 / 402 : Int32).toInt = 2 := (by decide)
  refine pq_idiv F dX11_is_8 (by decide) ?_
  refine pq_zald F hen (by decide) (by decide) rfl (fun n1_9 n2_9 => (by focus ((try clear ka); (try clear kb); simp only [vp_in_iff, Int32.lt_iff_toInt_lt, Int32.le_iff_toInt_le, ← Int32.toInt_inj, Int32.toInt_add, Int32.toInt_sub, Int32.toInt_mul, Int32.toInt_neg, pq_NuO, pq_NuI, pq_NuJ, pq_NuR, pq_shr6, pq_shr7, pq_shr8, lqm1, lq0, lq1, lq2, lq3, lq4, lq402, lq806] at *; (try simp (disch := omega) only [pq_bm] at *); all_goals omega))) dX11_is_9 (fun x9 e9 l9 u9 => ?_)
  have x9e : x9 = 0 := e9.trans ka
  subst x9e
  refine pq_istore_n F dX11_is_10 rfl (by decide) ?_
  refine pq_aload_n F dX11_is_11 rfl rfl ?_
  refine pq_get F ha (by decide) lk_X11_225 f39 dX11_is_12 ?_
  refine pq_sipush (v := 402) F dX11_is_15 (by decide) ?_
  refine pq_iload_n F dX11_is_18 rfl rfl ?_
  refine pq_sipush (v := 402) F dX11_is_19 (by decide) ?_
  have z24 : (806 % 402 : Int32).toInt = 2 := (by decide)
  refine pq_irem F dX11_is_22 (by decide) ?_
  refine pq_iadd F dX11_is_23 ?_
  refine pq_zald F hen (by decide) (by decide) rfl (fun n1_24 n2_24 => (by focus ((try clear ka); (try clear kb); simp only [vp_in_iff, Int32.lt_iff_toInt_lt, Int32.le_iff_toInt_le, ← Int32.toInt_inj, Int32.toInt_add, Int32.toInt_sub, Int32.toInt_mul, Int32.toInt_neg, pq_NuO, pq_NuI, pq_NuJ, pq_NuR, pq_shr6, pq_shr7, pq_shr8, lqm1, lq0, lq1, lq2, lq3, lq4, lq402, lq806] at *; (try simp (disch := omega) only [pq_bm] at *); all_goals omega))) dX11_is_24 (fun x24 e24 l24 u24 => ?_)
  have x24e : x24 = 0 := e24.trans kb
  subst x24e
  refine pq_istore F dX11_is_25 (by decide) ?_
  refine pq_iload_n F dX11_is_27 rfl rfl ?_
  refine pq_if_ne (tgt := 45) F dX11_is_28 (by decide) (fun c28 => ?_) (fun c28 => ?_)
  · skip
    refine pq_iload_n F dX11_is_45 rfl rfl ?_
    refine pq_iconst (v := 1) F dX11_is_46 (by decide) ?_
    refine pq_icmp_ne (tgt := 67) F dX11_is_47 (by decide) (fun c47 => ?_) (fun c47 => ?_)
    · skip
      refine pq_iload_n F dX11_is_67 rfl rfl ?_
      refine pq_iconst (v := 2) F dX11_is_68 (by decide) ?_
      refine pq_icmp_ne (tgt := 89) F dX11_is_69 (by decide) (fun c69 => ?_) (fun c69 => ?_)
      · skip
        refine pq_iload_n F dX11_is_89 rfl rfl ?_
        refine pq_iconst (v := 3) F dX11_is_90 (by decide) ?_
        refine pq_icmp_ne (tgt := 111) F dX11_is_91 (by decide) (fun c91 => ?_) (fun c91 => ?_)
        · skip
          refine pq_iload_n F dX11_is_111 rfl rfl ?_
          refine pq_if_ne (tgt := 124) F dX11_is_112 (by decide) (fun c112 => ?_) (fun c112 => ?_)
          · exact absurd rfl c112
          · skip
            refine pq_iload F dX11_is_115 rfl ?_
            refine pq_if_ne (tgt := 124) F dX11_is_117 (by decide) (fun c117 => ?_) (fun c117 => ?_)
            · exact absurd rfl c117
            · skip
              refine pq_iconst (v := 1) F dX11_is_120 (by decide) ?_
              refine pq_goto (tgt := 125) F dX11_is_121 (by decide) ?_
              exact pq_zret F hr hlk hA rfl (Nat.le_refl _) (Nat.le_refl _) (⟨rfl, 1, rfl, (by focus ((try clear ka); (try clear kb); simp only [vp_in_iff, Int32.lt_iff_toInt_lt, Int32.le_iff_toInt_le, ← Int32.toInt_inj, Int32.toInt_add, Int32.toInt_sub, Int32.toInt_mul, Int32.toInt_neg, pq_NuO, pq_NuI, pq_NuJ, pq_NuR, pq_shr6, pq_shr7, pq_shr8, lqm1, lq0, lq1, lq2, lq3, lq4, lq402, lq806] at *; (try simp (disch := omega) only [pq_bm] at *); all_goals omega)), (by focus ((try clear ka); (try clear kb); simp only [vp_in_iff, Int32.lt_iff_toInt_lt, Int32.le_iff_toInt_le, ← Int32.toInt_inj, Int32.toInt_add, Int32.toInt_sub, Int32.toInt_mul, Int32.toInt_neg, pq_NuO, pq_NuI, pq_NuJ, pq_NuR, pq_shr6, pq_shr7, pq_shr8, lqm1, lq0, lq1, lq2, lq3, lq4, lq402, lq806] at *; (try simp (disch := omega) only [pq_bm] at *); all_goals omega)), (by rw [if_pos (show kd = 4 from Int32.toInt_inj.mp (by have z1 : kd.toInt ≠ 0 := (fun z => c28 (Int32.toInt_inj.mp z)); have z2 : kd.toInt ≠ 1 := (fun z => c47 (Int32.toInt_inj.mp z)); have z3 : kd.toInt ≠ 2 := (fun z => c69 (Int32.toInt_inj.mp z)); have z4 : kd.toInt ≠ 3 := (fun z => c91 (Int32.toInt_inj.mp z)); focus ((try clear ka); (try clear kb); simp only [vp_in_iff, Int32.lt_iff_toInt_lt, Int32.le_iff_toInt_le, ← Int32.toInt_inj, Int32.toInt_add, Int32.toInt_sub, Int32.toInt_mul, Int32.toInt_neg, pq_NuO, pq_NuI, pq_NuJ, pq_NuR, pq_shr6, pq_shr7, pq_shr8, lqm1, lq0, lq1, lq2, lq3, lq4, lq402, lq806] at *; (try simp (disch := omega) only [pq_bm] at *); all_goals omega)))])⟩) dX11_is_125
        · skip
          refine pq_iload_n F dX11_is_94 rfl rfl ?_
          refine pq_if_eq (tgt := 107) F dX11_is_95 (by decide) (fun c95 => ?_) (fun c95 => ?_)
          · skip
            refine pq_iconst (v := 0) F dX11_is_107 (by decide) ?_
            refine pq_goto (tgt := 125) F dX11_is_108 (by decide) ?_
            exact pq_zret F hr hlk hA rfl (Nat.le_refl _) (Nat.le_refl _) (⟨rfl, 0, rfl, (by focus ((try clear ka); (try clear kb); simp only [vp_in_iff, Int32.lt_iff_toInt_lt, Int32.le_iff_toInt_le, ← Int32.toInt_inj, Int32.toInt_add, Int32.toInt_sub, Int32.toInt_mul, Int32.toInt_neg, pq_NuO, pq_NuI, pq_NuJ, pq_NuR, pq_shr6, pq_shr7, pq_shr8, lqm1, lq0, lq1, lq2, lq3, lq4, lq402, lq806] at *; (try simp (disch := omega) only [pq_bm] at *); all_goals omega)), (by focus ((try clear ka); (try clear kb); simp only [vp_in_iff, Int32.lt_iff_toInt_lt, Int32.le_iff_toInt_le, ← Int32.toInt_inj, Int32.toInt_add, Int32.toInt_sub, Int32.toInt_mul, Int32.toInt_neg, pq_NuO, pq_NuI, pq_NuJ, pq_NuR, pq_shr6, pq_shr7, pq_shr8, lqm1, lq0, lq1, lq2, lq3, lq4, lq402, lq806] at *; (try simp (disch := omega) only [pq_bm] at *); all_goals omega)), (by rw [c91]; decide)⟩) dX11_is_125
          · exact absurd rfl c95
      · skip
        refine pq_iload F dX11_is_72 rfl ?_
        refine pq_if_eq (tgt := 85) F dX11_is_74 (by decide) (fun c74 => ?_) (fun c74 => ?_)
        · skip
          refine pq_iconst (v := 0) F dX11_is_85 (by decide) ?_
          refine pq_goto (tgt := 125) F dX11_is_86 (by decide) ?_
          exact pq_zret F hr hlk hA rfl (Nat.le_refl _) (Nat.le_refl _) (⟨rfl, 0, rfl, (by focus ((try clear ka); (try clear kb); simp only [vp_in_iff, Int32.lt_iff_toInt_lt, Int32.le_iff_toInt_le, ← Int32.toInt_inj, Int32.toInt_add, Int32.toInt_sub, Int32.toInt_mul, Int32.toInt_neg, pq_NuO, pq_NuI, pq_NuJ, pq_NuR, pq_shr6, pq_shr7, pq_shr8, lqm1, lq0, lq1, lq2, lq3, lq4, lq402, lq806] at *; (try simp (disch := omega) only [pq_bm] at *); all_goals omega)), (by focus ((try clear ka); (try clear kb); simp only [vp_in_iff, Int32.lt_iff_toInt_lt, Int32.le_iff_toInt_le, ← Int32.toInt_inj, Int32.toInt_add, Int32.toInt_sub, Int32.toInt_mul, Int32.toInt_neg, pq_NuO, pq_NuI, pq_NuJ, pq_NuR, pq_shr6, pq_shr7, pq_shr8, lqm1, lq0, lq1, lq2, lq3, lq4, lq402, lq806] at *; (try simp (disch := omega) only [pq_bm] at *); all_goals omega)), (by rw [c69]; decide)⟩) dX11_is_125
        · exact absurd rfl c74
    · skip
      refine pq_iload_n F dX11_is_50 rfl rfl ?_
      refine pq_if_eq (tgt := 63) F dX11_is_51 (by decide) (fun c51 => ?_) (fun c51 => ?_)
      · skip
        refine pq_iconst (v := 0) F dX11_is_63 (by decide) ?_
        refine pq_goto (tgt := 125) F dX11_is_64 (by decide) ?_
        exact pq_zret F hr hlk hA rfl (Nat.le_refl _) (Nat.le_refl _) (⟨rfl, 0, rfl, (by focus ((try clear ka); (try clear kb); simp only [vp_in_iff, Int32.lt_iff_toInt_lt, Int32.le_iff_toInt_le, ← Int32.toInt_inj, Int32.toInt_add, Int32.toInt_sub, Int32.toInt_mul, Int32.toInt_neg, pq_NuO, pq_NuI, pq_NuJ, pq_NuR, pq_shr6, pq_shr7, pq_shr8, lqm1, lq0, lq1, lq2, lq3, lq4, lq402, lq806] at *; (try simp (disch := omega) only [pq_bm] at *); all_goals omega)), (by focus ((try clear ka); (try clear kb); simp only [vp_in_iff, Int32.lt_iff_toInt_lt, Int32.le_iff_toInt_le, ← Int32.toInt_inj, Int32.toInt_add, Int32.toInt_sub, Int32.toInt_mul, Int32.toInt_neg, pq_NuO, pq_NuI, pq_NuJ, pq_NuR, pq_shr6, pq_shr7, pq_shr8, lqm1, lq0, lq1, lq2, lq3, lq4, lq402, lq806] at *; (try simp (disch := omega) only [pq_bm] at *); all_goals omega)), (by rw [c47]; decide)⟩) dX11_is_125
      · exact absurd rfl c51
  · skip
    refine pq_iload_n F dX11_is_31 rfl rfl ?_
    refine pq_iload F dX11_is_32 rfl ?_
    refine pq_icmp_eq (tgt := 41) F dX11_is_34 (by decide) (fun c34 => ?_) (fun c34 => ?_)
    · skip
      refine pq_iconst (v := 0) F dX11_is_41 (by decide) ?_
      refine pq_goto (tgt := 125) F dX11_is_42 (by decide) ?_
      exact pq_zret F hr hlk hA rfl (Nat.le_refl _) (Nat.le_refl _) (⟨rfl, 0, rfl, (by focus ((try clear ka); (try clear kb); simp only [vp_in_iff, Int32.lt_iff_toInt_lt, Int32.le_iff_toInt_le, ← Int32.toInt_inj, Int32.toInt_add, Int32.toInt_sub, Int32.toInt_mul, Int32.toInt_neg, pq_NuO, pq_NuI, pq_NuJ, pq_NuR, pq_shr6, pq_shr7, pq_shr8, lqm1, lq0, lq1, lq2, lq3, lq4, lq402, lq806] at *; (try simp (disch := omega) only [pq_bm] at *); all_goals omega)), (by focus ((try clear ka); (try clear kb); simp only [vp_in_iff, Int32.lt_iff_toInt_lt, Int32.le_iff_toInt_le, ← Int32.toInt_inj, Int32.toInt_add, Int32.toInt_sub, Int32.toInt_mul, Int32.toInt_neg, pq_NuO, pq_NuI, pq_NuJ, pq_NuR, pq_shr6, pq_shr7, pq_shr8, lqm1, lq0, lq1, lq2, lq3, lq4, lq402, lq806] at *; (try simp (disch := omega) only [pq_bm] at *); all_goals omega)), (by rw [c28]; decide)⟩) dX11_is_125
    · exact absurd rfl c34

set_option maxHeartbeats 4000000 in
set_option maxRecDepth 100000 in
theorem k_X11_tell0 (l : Launch) (D : va_G) (cy : Nat → ClassId) (S : HS) (a : Nat) (ha : pq_R S a 14) (pr : Int32) (hpr : pr = 0) (f41 : hO S a 41 = .int 0) : pq_C l D cy yX11_tell cX11_tell 4 (some .int) 1 0 0 S [.ref a, .int pr] (fun v S2 => S2 = S ∧ ∃ x : Int32, v = some (.int x) ∧ (x = 0)) := by
  refine pq_start (by decide) (Nat.le_of_ble_eq_true rfl) ?_
  intro p e s m args below meth c A F hr hlk hnm hA
  have lqm1 : (-1 : Int32).toInt = -1 := rfl
  have lq0 : (0 : Int32).toInt = 0 := rfl
  have lq1 : (1 : Int32).toInt = 1 := rfl
  subst hpr
  refine pq_iload_n F dX11_tell_0 rfl rfl ?_
  refine pq_istore_n F dX11_tell_1 rfl (by decide) ?_
  refine pq_iload_n F dX11_tell_2 rfl rfl ?_
  refine pq_if_eq (tgt := 26) F dX11_tell_3 (by decide) (fun c3 => ?_) (fun c3 => ?_)
  · skip
    refine pq_aload_n F dX11_tell_26 rfl rfl ?_
    refine pq_get F ha (by decide) lk_X11_276 f41 dX11_tell_27 ?_
    refine pq_istore_n F dX11_tell_30 rfl (by decide) ?_
    refine pq_iload_n F dX11_tell_31 rfl rfl ?_
    refine pq_istore_n F dX11_tell_32 rfl (by decide) ?_
    refine pq_iload_n F dX11_tell_33 rfl rfl ?_
    refine pq_if_eq (tgt := 62) F dX11_tell_34 (by decide) (fun c34 => ?_) (fun c34 => ?_)
    · skip
      refine pq_aload_n F dX11_tell_62 rfl rfl ?_
      refine pq_get F ha (by decide) lk_X11_276 f41 dX11_tell_63 ?_
      exact pq_iret F hr hlk hA (Nat.le_refl _) (Nat.le_refl _) (⟨rfl, _, rfl, rfl⟩) dX11_tell_66
    · exact absurd rfl c34
  · exact absurd rfl c3

set_option maxHeartbeats 4000000 in
set_option maxRecDepth 100000 in
theorem k_X11_tell1 (l : Launch) (D : va_G) (cy : Nat → ClassId) (S : HS) (a : Nat) (ha : pq_R S a 14) (pr : Int32) (fm tx by_ : Nat) (f43 : hO S a 43 = .ref fm) (hfm : pq_R S fm 139) (hpr : pr = 806) (f41 : hO S a 41 = .int 0) (kf : hI S fm 806 = 0) : pq_C l D cy yX11_tell cX11_tell 4 (some .int) 1 0 0 S [.ref a, .int pr] (fun v S2 => pq_Fr [(14, 41), (101, 0)] S S2 ∧ ∃ x : Int32, v = some (.int x) ∧ (x = 1)) := by
  refine pq_start (by decide) (Nat.le_of_ble_eq_true rfl) ?_
  intro p e s m args below meth c A F hr hlk hnm hA
  have lqm1 : (-1 : Int32).toInt = -1 := rfl
  have lq0 : (0 : Int32).toInt = 0 := rfl
  have lq1 : (1 : Int32).toInt = 1 := rfl
  have lq806 : (806 : Int32).toInt = 806 := rfl
  subst hpr
  refine pq_iload_n F dX11_tell_0 rfl rfl ?_
  refine pq_istore_n F dX11_tell_1 rfl (by decide) ?_
  refine pq_iload_n F dX11_tell_2 rfl rfl ?_
  refine pq_if_eq (tgt := 26) F dX11_tell_3 (by decide) (fun c3 => ?_) (fun c3 => ?_)
  · exact absurd c3 (by decide)
  · skip
    refine pq_aload_n F dX11_tell_6 rfl rfl ?_
    refine pq_dup F dX11_tell_7 rfl ?_
    refine pq_get F ha (by decide) lk_X11_276 f41 dX11_tell_8 ?_
    refine pq_iconst (v := 1) F dX11_tell_11 (by decide) ?_
    refine pq_iadd F dX11_tell_12 ?_
    refine pq_putI F ha (by decide) lp_X11_276 rfl (by focus ((try clear kf); simp only [vp_in_iff, Int32.lt_iff_toInt_lt, Int32.le_iff_toInt_le, ← Int32.toInt_inj, Int32.toInt_add, Int32.toInt_sub, Int32.toInt_mul, Int32.toInt_neg, pq_NuO, pq_NuI, pq_NuJ, pq_NuR, pq_shr6, pq_shr7, pq_shr8, lqm1, lq0, lq1, lq806] at *; (try simp (disch := omega) only [pq_bm] at *); all_goals omega)) (by focus ((try clear kf); simp only [vp_in_iff, Int32.lt_iff_toInt_lt, Int32.le_iff_toInt_le, ← Int32.toInt_inj, Int32.toInt_add, Int32.toInt_sub, Int32.toInt_mul, Int32.toInt_neg, pq_NuO, pq_NuI, pq_NuJ, pq_NuR, pq_shr6, pq_shr7, pq_shr8, lqm1, lq0, lq1, lq806] at *; (try simp (disch := omega) only [pq_bm] at *); all_goals omega)) dX11_tell_13 ?_
    refine pq_aload_n F dX11_tell_16 rfl rfl ?_
    refine pq_get F ha (by decide) lk_X11_235 (pq_kp f43 (by decide)) dX11_tell_17 ?_
    refine pq_iload_n F dX11_tell_20 rfl rfl ?_
    refine pq_iald F hfm (by decide) (by decide) rfl (fun n1_21 n2_21 => (by focus ((try clear kf); simp only [vp_in_iff, Int32.lt_iff_toInt_lt, Int32.le_iff_toInt_le, ← Int32.toInt_inj, Int32.toInt_add, Int32.toInt_sub, Int32.toInt_mul, Int32.toInt_neg, pq_NuO, pq_NuI, pq_NuJ, pq_NuR, pq_shr6, pq_shr7, pq_shr8, lqm1, lq0, lq1, lq806] at *; (try simp (disch := omega) only [pq_bm] at *); all_goals omega))) dX11_tell_21 (fun x21 e21 l21 u21 => ?_)
    have x21e : x21 = 0 := e21.trans kf
    subst x21e
    refine pq_istore_n F dX11_tell_22 rfl (by decide) ?_
    refine pq_goto (tgt := 2) F dX11_tell_23 (by decide) ?_
    refine pq_iload_n F dX11_tell_2 rfl rfl ?_
    refine pq_if_eq (tgt := 26) F dX11_tell_3 (by decide) (fun c3 => ?_) (fun c3 => ?_)
    · skip
      refine pq_aload_n F dX11_tell_26 rfl rfl ?_
      refine pq_get F ha (by decide) lk_X11_276 pq_ks dX11_tell_27 ?_
      refine pq_istore_n F dX11_tell_30 rfl (by decide) ?_
      refine pq_iload_n F dX11_tell_31 rfl rfl ?_
      refine pq_istore_n F dX11_tell_32 rfl (by decide) ?_
      refine pq_iload_n F dX11_tell_33 rfl rfl ?_
      refine pq_if_eq (tgt := 62) F dX11_tell_34 (by decide) (fun c34 => ?_) (fun c34 => ?_)
      · exact absurd c34 (by decide)
      · skip
        refine pq_iinc (v := -1) F dX11_tell_37 rfl (by decide) (by decide) ?_
        refine pq_aload_n F dX11_tell_40 rfl rfl ?_
        refine pq_getR F ha (by decide) lk_X11_229 rfl dX11_tell_41 (fun r41 e41 h41 => ?_)
        refine pq_iload_n F dX11_tell_44 rfl rfl ?_
        refine pq_aload_n F dX11_tell_45 rfl rfl ?_
        refine pq_getR F ha (by decide) lk_X11_238 rfl dX11_tell_46 (fun r46 e46 h46 => ?_)
        refine pq_iload_n F dX11_tell_49 rfl rfl ?_
        refine pq_bald F h46 (by decide) (by decide) rfl (fun n1_50 n2_50 => (by focus ((try clear kf); simp only [vp_in_iff, Int32.lt_iff_toInt_lt, Int32.le_iff_toInt_le, ← Int32.toInt_inj, Int32.toInt_add, Int32.toInt_sub, Int32.toInt_mul, Int32.toInt_neg, pq_NuO, pq_NuI, pq_NuJ, pq_NuR, pq_shr6, pq_shr7, pq_shr8, lqm1, lq0, lq1, lq806] at *; (try simp (disch := omega) only [pq_bm] at *); all_goals omega))) dX11_tell_50 (fun x50 e50 l50 u50 => ?_)
        refine pq_bast F h41 (by decide) (by decide) rfl (fun n1_51 n2_51 => (by focus ((try clear kf); simp only [vp_in_iff, Int32.lt_iff_toInt_lt, Int32.le_iff_toInt_le, ← Int32.toInt_inj, Int32.toInt_add, Int32.toInt_sub, Int32.toInt_mul, Int32.toInt_neg, pq_NuO, pq_NuI, pq_NuJ, pq_NuR, pq_shr6, pq_shr7, pq_shr8, lqm1, lq0, lq1, lq806] at *; (try simp (disch := omega) only [pq_bm] at *); all_goals omega))) (pq_nb _) dX11_tell_51 ?_
        refine pq_aload_n F dX11_tell_52 rfl rfl ?_
        refine pq_get F ha (by decide) lk_X11_235 (pq_kp f43 (by decide)) dX11_tell_53 ?_
        refine pq_iload_n F dX11_tell_56 rfl rfl ?_
        refine pq_iald F hfm (by decide) (by decide) rfl (fun n1_57 n2_57 => (by focus ((try clear kf); simp only [vp_in_iff, Int32.lt_iff_toInt_lt, Int32.le_iff_toInt_le, ← Int32.toInt_inj, Int32.toInt_add, Int32.toInt_sub, Int32.toInt_mul, Int32.toInt_neg, pq_NuO, pq_NuI, pq_NuJ, pq_NuR, pq_shr6, pq_shr7, pq_shr8, lqm1, lq0, lq1, lq806] at *; (try simp (disch := omega) only [pq_bm] at *); all_goals omega))) dX11_tell_57 (fun x57 e57 l57 u57 => ?_)
        have x57e : x57 = 0 := e57.trans (by simp only [pq_IuO, pq_IuJ, pq_Iu, pq_JuO, pq_JuI, pq_Ju, pq_RuO, pq_RuJ, pq_RuI, if_true, if_false]; first | exact kf | (have nft := pq_nrole hfm h41 (by decide); simp only [pq_IuO, pq_IuJ, pq_Iu, pq_JuO, pq_JuI, pq_Ju, pq_RuO, pq_RuJ, pq_RuI, if_true, if_false, nft]; exact kf))
        subst x57e
        refine pq_istore_n F dX11_tell_58 rfl (by decide) ?_
        refine pq_goto (tgt := 33) F dX11_tell_59 (by decide) ?_
        refine pq_iload_n F dX11_tell_33 rfl rfl ?_
        refine pq_if_eq (tgt := 62) F dX11_tell_34 (by decide) (fun c34 => ?_) (fun c34 => ?_)
        · skip
          refine pq_aload_n F dX11_tell_62 rfl rfl ?_
          refine pq_get F ha (by decide) lk_X11_276 pq_ks dX11_tell_63 ?_
          exact pq_iret F hr hlk hA (Nat.le_refl _) (Nat.le_refl _) (⟨((pq_Fr.rf.uO ha (by decide)).uI h41 (by first | decide | exact List.mem_cons_self)), _, rfl, rfl⟩) dX11_tell_66
        · exact absurd rfl c34
    · exact absurd rfl c3

