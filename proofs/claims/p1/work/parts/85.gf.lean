set_option maxHeartbeats 4000000 in
set_option maxRecDepth 100000 in
theorem k_X7_writeY (l : Launch) (D : va_G) (cy : Nat → ClassId) (S : HS) (a : Nat) (ha : pq_R S a 10) (lv : Int32) (og tx0 : Nat) (fe3 : hO S a 3 = .ref og) (hog : pq_R S og 165) (fe5 : hO S a 5 = .int 2) (fe6 : hO S a 6 = .ref tx0) (htx0 : pq_R S tx0 103) (fe7 : hO S a 7 = .int 0) (l1 : hN S og = 2) (zo : hI S og 1 = 0) (hlv : lv = 1) : pq_C l D cy yX7_writeText cX7_writeText 4 (none) 1 1 1 S [.ref a, .int lv] (fun v S2 => v = none ∧ pq_Fr [(10, 7), (10, 6), (103, 0)] S S2 ∧ (hO S2 a 7 = .int 1)) := by
  refine pq_start (by decide) (Nat.le_of_ble_eq_true rfl) ?_
  intro p e s m args below meth c A F hr hlk hnm hA
  have lqm1 : (-1 : Int32).toInt = -1 := rfl
  have lq0 : (0 : Int32).toInt = 0 := rfl
  have lq1 : (1 : Int32).toInt = 1 := rfl
  have lq2 : (2 : Int32).toInt = 2 := rfl
  have lq7 : (7 : Int32).toInt = 7 := rfl
  have lq127 : (127 : Int32).toInt = 127 := rfl
  subst hlv
  refine pq_lenF htx0 (by decide) rfl (fun lt1 lt2 => ?_)
  refine pq_iload_n F dX7_writeText_0 rfl rfl ?_
  refine pq_istore_n F dX7_writeText_1 rfl (by decide) ?_
  refine pq_iload_n F dX7_writeText_2 rfl rfl ?_
  refine pq_if_le (tgt := 40) F dX7_writeText_3 (by decide) (fun c3 => ?_) (fun c3 => ?_)
  · exact False.elim (by focus ((try clear zo); simp only [vp_in_iff, Int32.lt_iff_toInt_lt, Int32.le_iff_toInt_le, ← Int32.toInt_inj, Int32.toInt_add, Int32.toInt_sub, Int32.toInt_mul, Int32.toInt_neg, pq_NuO, pq_NuI, pq_NuJ, pq_NuR, pq_shr6, pq_shr7, pq_shr8, lqm1, lq0, lq1, lq2, lq7, lq127] at *; (try simp (disch := omega) only [pq_bm] at *); all_goals omega))
  · skip
    refine pq_aload_n F dX7_writeText_6 rfl rfl ?_
    refine pq_get F ha (by decide) lk_X7_29 fe7 dX7_writeText_7 ?_
    refine pq_aload_n F dX7_writeText_10 rfl rfl ?_
    refine pq_get F ha (by decide) lk_X7_50 fe5 dX7_writeText_11 ?_
    refine pq_icmp_ge (tgt := 40) F dX7_writeText_14 (by decide) (fun c14 => ?_) (fun c14 => ?_)
    · exact False.elim (by focus ((try clear zo); simp only [vp_in_iff, Int32.lt_iff_toInt_lt, Int32.le_iff_toInt_le, ← Int32.toInt_inj, Int32.toInt_add, Int32.toInt_sub, Int32.toInt_mul, Int32.toInt_neg, pq_NuO, pq_NuI, pq_NuJ, pq_NuR, pq_shr6, pq_shr7, pq_shr8, lqm1, lq0, lq1, lq2, lq7, lq127] at *; (try simp (disch := omega) only [pq_bm] at *); all_goals omega))
    · skip
      refine pq_aload_n F dX7_writeText_17 rfl rfl ?_
      refine pq_dup F dX7_writeText_18 rfl ?_
      refine pq_get F ha (by decide) lk_X7_29 fe7 dX7_writeText_19 ?_
      refine pq_iconst (v := 1) F dX7_writeText_22 (by decide) ?_
      refine pq_iadd F dX7_writeText_23 ?_
      refine pq_putI F ha (by decide) lp_X7_29 rfl (by focus ((try clear zo); simp only [vp_in_iff, Int32.lt_iff_toInt_lt, Int32.le_iff_toInt_le, ← Int32.toInt_inj, Int32.toInt_add, Int32.toInt_sub, Int32.toInt_mul, Int32.toInt_neg, pq_NuO, pq_NuI, pq_NuJ, pq_NuR, pq_shr6, pq_shr7, pq_shr8, lqm1, lq0, lq1, lq2, lq7, lq127] at *; (try simp (disch := omega) only [pq_bm] at *); all_goals omega)) (by focus ((try clear zo); simp only [vp_in_iff, Int32.lt_iff_toInt_lt, Int32.le_iff_toInt_le, ← Int32.toInt_inj, Int32.toInt_add, Int32.toInt_sub, Int32.toInt_mul, Int32.toInt_neg, pq_NuO, pq_NuI, pq_NuJ, pq_NuR, pq_shr6, pq_shr7, pq_shr8, lqm1, lq0, lq1, lq2, lq7, lq127] at *; (try simp (disch := omega) only [pq_bm] at *); all_goals omega)) dX7_writeText_24 ?_
      refine pq_aload_n F dX7_writeText_27 rfl rfl ?_
      refine pq_get F ha (by decide) lk_X7_18 (pq_kp fe3 (by decide)) dX7_writeText_28 ?_
      refine pq_iload_n F dX7_writeText_31 rfl rfl ?_
      refine pq_iald F hog (by decide) (by decide) rfl (fun n1_32 n2_32 => (by focus ((try clear zo); simp only [vp_in_iff, Int32.lt_iff_toInt_lt, Int32.le_iff_toInt_le, ← Int32.toInt_inj, Int32.toInt_add, Int32.toInt_sub, Int32.toInt_mul, Int32.toInt_neg, pq_NuO, pq_NuI, pq_NuJ, pq_NuR, pq_shr6, pq_shr7, pq_shr8, lqm1, lq0, lq1, lq2, lq7, lq127] at *; (try simp (disch := omega) only [pq_bm] at *); all_goals omega))) dX7_writeText_32 (fun x32 e32 l32 u32 => ?_)
      have x32e : x32 = 0 := e32.trans zo
      subst x32e
      have z35 : ((0 : Int32) >>> (7 &&& 31)).toInt = 0 := (by decide)
      refine pq_bipush (v := 7) F dX7_writeText_33 (by decide) ?_
      refine pq_ishr F dX7_writeText_35 ?_
      refine pq_istore_n F dX7_writeText_36 rfl (by decide) ?_
      refine pq_goto (tgt := 2) F dX7_writeText_37 (by decide) ?_
      refine pq_iload_n F dX7_writeText_2 rfl rfl ?_
      refine pq_if_le (tgt := 40) F dX7_writeText_3 (by decide) (fun c3 => ?_) (fun c3 => ?_)
      · skip
        refine pq_aload_n F dX7_writeText_40 rfl rfl ?_
        refine pq_get F ha (by decide) lk_X7_25 (pq_kp fe6 (by decide)) dX7_writeText_41 ?_
        refine pq_alen F htx0 (by decide) rfl dX7_writeText_44 (fun l44 u44 => ?_)
        have nq44 := nI_toInt (n := hN _ tx0) (Nat.lt_of_le_of_lt u44 (by decide))
        refine pq_aload_n F dX7_writeText_45 rfl rfl ?_
        refine pq_get F ha (by decide) lk_X7_29 pq_ks dX7_writeText_46 ?_
        refine pq_icmp_ge (tgt := 72) F dX7_writeText_49 (by decide) (fun c49 => ?_) (fun c49 => ?_)
        · skip
          refine pq_iload_n F dX7_writeText_72 rfl rfl ?_
          refine pq_istore_n F dX7_writeText_73 rfl (by decide) ?_
          refine pq_aload_n F dX7_writeText_74 rfl rfl ?_
          refine pq_get F ha (by decide) lk_X7_29 pq_ks dX7_writeText_75 ?_
          refine pq_iconst (v := 1) F dX7_writeText_78 (by decide) ?_
          refine pq_isub F dX7_writeText_79 ?_
          refine pq_istore_n F dX7_writeText_80 rfl (by decide) ?_
          refine pq_iload_n F dX7_writeText_81 rfl rfl ?_
          refine pq_if_lt (tgt := 117) F dX7_writeText_82 (by decide) (fun c82 => ?_) (fun c82 => ?_)
          · exact False.elim (by focus ((try clear zo); simp only [vp_in_iff, Int32.lt_iff_toInt_lt, Int32.le_iff_toInt_le, ← Int32.toInt_inj, Int32.toInt_add, Int32.toInt_sub, Int32.toInt_mul, Int32.toInt_neg, pq_NuO, pq_NuI, pq_NuJ, pq_NuR, pq_shr6, pq_shr7, pq_shr8, lqm1, lq0, lq1, lq2, lq7, lq127] at *; (try simp (disch := omega) only [pq_bm] at *); all_goals omega))
          · skip
            refine pq_aload_n F dX7_writeText_85 rfl rfl ?_
            refine pq_get F ha (by decide) lk_X7_25 (pq_kp fe6 (by decide)) dX7_writeText_86 ?_
            refine pq_iload_n F dX7_writeText_89 rfl rfl ?_
            refine pq_aload_n F dX7_writeText_90 rfl rfl ?_
            refine pq_get F ha (by decide) lk_X7_18 (pq_kp fe3 (by decide)) dX7_writeText_91 ?_
            refine pq_iload_n F dX7_writeText_94 rfl rfl ?_
            refine pq_iald F hog (by decide) (by decide) rfl (fun n1_95 n2_95 => (by focus ((try clear zo); simp only [vp_in_iff, Int32.lt_iff_toInt_lt, Int32.le_iff_toInt_le, ← Int32.toInt_inj, Int32.toInt_add, Int32.toInt_sub, Int32.toInt_mul, Int32.toInt_neg, pq_NuO, pq_NuI, pq_NuJ, pq_NuR, pq_shr6, pq_shr7, pq_shr8, lqm1, lq0, lq1, lq2, lq7, lq127] at *; (try simp (disch := omega) only [pq_bm] at *); all_goals omega))) dX7_writeText_95 (fun x95 e95 l95 u95 => ?_)
            refine pq_bipush (v := 127) F dX7_writeText_96 (by decide) ?_
            refine pq_iand F dX7_writeText_98 ?_
            refine pq_i2b F dX7_writeText_99 ?_
            refine pq_bast F htx0 (by decide) (by decide) rfl (fun n1_100 n2_100 => (by focus ((try clear zo); simp only [vp_in_iff, Int32.lt_iff_toInt_lt, Int32.le_iff_toInt_le, ← Int32.toInt_inj, Int32.toInt_add, Int32.toInt_sub, Int32.toInt_mul, Int32.toInt_neg, pq_NuO, pq_NuI, pq_NuJ, pq_NuR, pq_shr6, pq_shr7, pq_shr8, lqm1, lq0, lq1, lq2, lq7, lq127] at *; (try simp (disch := omega) only [pq_bm] at *); all_goals omega))) (pq_nb _) dX7_writeText_100 ?_
            refine pq_aload_n F dX7_writeText_101 rfl rfl ?_
            refine pq_get F ha (by decide) lk_X7_18 (pq_kp fe3 (by decide)) dX7_writeText_102 ?_
            refine pq_iload_n F dX7_writeText_105 rfl rfl ?_
            refine pq_iald F hog (by decide) (by decide) rfl (fun n1_106 n2_106 => (by focus ((try clear zo); simp only [vp_in_iff, Int32.lt_iff_toInt_lt, Int32.le_iff_toInt_le, ← Int32.toInt_inj, Int32.toInt_add, Int32.toInt_sub, Int32.toInt_mul, Int32.toInt_neg, pq_NuO, pq_NuI, pq_NuJ, pq_NuR, pq_shr6, pq_shr7, pq_shr8, lqm1, lq0, lq1, lq2, lq7, lq127] at *; (try simp (disch := omega) only [pq_bm] at *); all_goals omega))) dX7_writeText_106 (fun x106 e106 l106 u106 => ?_)
            refine pq_bipush (v := 7) F dX7_writeText_107 (by decide) ?_
            refine pq_ishr F dX7_writeText_109 ?_
            refine pq_istore_n F dX7_writeText_110 rfl (by decide) ?_
            refine pq_iinc (v := -1) F dX7_writeText_111 rfl (by decide) (by decide) ?_
            refine pq_goto (tgt := 81) F dX7_writeText_114 (by decide) ?_
            refine pq_iload_n F dX7_writeText_81 rfl rfl ?_
            refine pq_if_lt (tgt := 117) F dX7_writeText_82 (by decide) (fun c82 => ?_) (fun c82 => ?_)
            · skip
              exact pq_vret F hr hlk hA (by show _ ≤ 1; first | exact Nat.le_of_ble_eq_true rfl | omega) (by show _ ≤ 1; focus ((try clear zo); simp only [vp_in_iff, Int32.lt_iff_toInt_lt, Int32.le_iff_toInt_le, ← Int32.toInt_inj, Int32.toInt_add, Int32.toInt_sub, Int32.toInt_mul, Int32.toInt_neg, pq_NuO, pq_NuI, pq_NuJ, pq_NuR, pq_shr6, pq_shr7, pq_shr8, lqm1, lq0, lq1, lq2, lq7, lq127] at *; (try simp (disch := omega) only [pq_bm] at *); all_goals omega)) (⟨rfl, ((pq_Fr.rf.uO ha (by decide)).uI htx0 (by first | decide | exact List.mem_cons_self)), pq_ks⟩) dX7_writeText_117
            · exact False.elim (by focus ((try clear zo); simp only [vp_in_iff, Int32.lt_iff_toInt_lt, Int32.le_iff_toInt_le, ← Int32.toInt_inj, Int32.toInt_add, Int32.toInt_sub, Int32.toInt_mul, Int32.toInt_neg, pq_NuO, pq_NuI, pq_NuJ, pq_NuR, pq_shr6, pq_shr7, pq_shr8, lqm1, lq0, lq1, lq2, lq7, lq127] at *; (try simp (disch := omega) only [pq_bm] at *); all_goals omega))
        · skip
          refine pq_aload_n F dX7_writeText_52 rfl rfl ?_
          refine pq_aload_n F dX7_writeText_53 rfl rfl ?_
          refine pq_get F ha (by decide) lk_X7_29 pq_ks dX7_writeText_54 ?_
          refine pq_iconst (v := 2) F dX7_writeText_57 (by decide) ?_
          refine pq_aload_n F dX7_writeText_58 rfl rfl ?_
          refine pq_get F ha (by decide) lk_X7_25 (pq_kp fe6 (by decide)) dX7_writeText_59 ?_
          refine pq_alen F htx0 (by decide) rfl dX7_writeText_62 (fun l62 u62 => ?_)
          have nq62 := nI_toInt (n := hN _ tx0) (Nat.lt_of_le_of_lt u62 (by decide))
          refine pq_imul F dX7_writeText_63 ?_
          refine pq_mmax F mx_X7_74 ⟨Nat.le_of_ble_eq_true rfl, Nat.le_of_ble_eq_true rfl⟩ (Nat.zero_le _) (Nat.zero_le _) dX7_writeText_64 (fun y64 yl64_0 yl64_1 yl64_2 => ?_)
          have cy64 := pq_cl (x := y64) (by focus ((try clear zo); simp only [vp_in_iff, Int32.lt_iff_toInt_lt, Int32.le_iff_toInt_le, ← Int32.toInt_inj, Int32.toInt_add, Int32.toInt_sub, Int32.toInt_mul, Int32.toInt_neg, pq_NuO, pq_NuI, pq_NuJ, pq_NuR, pq_shr6, pq_shr7, pq_shr8, lqm1, lq0, lq1, lq2, lq7, lq127] at *; (try simp (disch := omega) only [pq_bm] at *); all_goals omega))
          refine pq_newB F (r := 103) (n := y64.toNatClampNeg) (by decide) (by decide) ac_byte rfl (by decide) (by focus ((try clear zo); simp only [vp_in_iff, Int32.lt_iff_toInt_lt, Int32.le_iff_toInt_le, ← Int32.toInt_inj, Int32.toInt_add, Int32.toInt_sub, Int32.toInt_mul, Int32.toInt_neg, pq_NuO, pq_NuI, pq_NuJ, pq_NuR, pq_shr6, pq_shr7, pq_shr8, lqm1, lq0, lq1, lq2, lq7, lq127] at *; (try simp (disch := omega) only [pq_bm] at *); all_goals omega)) rfl ⟨(by focus ((try clear zo); simp only [vp_in_iff, Int32.lt_iff_toInt_lt, Int32.le_iff_toInt_le, ← Int32.toInt_inj, Int32.toInt_add, Int32.toInt_sub, Int32.toInt_mul, Int32.toInt_neg, pq_NuO, pq_NuI, pq_NuJ, pq_NuR, pq_shr6, pq_shr7, pq_shr8, lqm1, lq0, lq1, lq2, lq7, lq127] at *; (try simp (disch := omega) only [pq_bm] at *); all_goals omega)), (by focus ((try clear zo); simp only [vp_in_iff, Int32.lt_iff_toInt_lt, Int32.le_iff_toInt_le, ← Int32.toInt_inj, Int32.toInt_add, Int32.toInt_sub, Int32.toInt_mul, Int32.toInt_neg, pq_NuO, pq_NuI, pq_NuJ, pq_NuR, pq_shr6, pq_shr7, pq_shr8, lqm1, lq0, lq1, lq2, lq7, lq127] at *; (try simp (disch := omega) only [pq_bm] at *); all_goals omega))⟩ (by focus ((try clear zo); simp only [vp_in_iff, Int32.lt_iff_toInt_lt, Int32.le_iff_toInt_le, ← Int32.toInt_inj, Int32.toInt_add, Int32.toInt_sub, Int32.toInt_mul, Int32.toInt_neg, pq_NuO, pq_NuI, pq_NuJ, pq_NuR, pq_shr6, pq_shr7, pq_shr8, lqm1, lq0, lq1, lq2, lq7, lq127] at *; (try simp (disch := omega) only [pq_bm] at *); all_goals omega)) (Nat.le_refl _) (by show 0 + y64.toNatClampNeg ≤ 1; focus ((try clear zo); simp only [vp_in_iff, Int32.lt_iff_toInt_lt, Int32.le_iff_toInt_le, ← Int32.toInt_inj, Int32.toInt_add, Int32.toInt_sub, Int32.toInt_mul, Int32.toInt_neg, pq_NuO, pq_NuI, pq_NuJ, pq_NuR, pq_shr6, pq_shr7, pq_shr8, lqm1, lq0, lq1, lq2, lq7, lq127] at *; (try simp (disch := omega) only [pq_bm] at *); all_goals omega)) dX7_writeText_67 (fun q67 nq67 h67 => ?_)
          have ha_67 := pq_nR (r := 103) (n := y64.toNatClampNeg) (ds := (fun _ => Value.null)) nq67 ha
          have hog_67 := pq_nR (r := 103) (n := y64.toNatClampNeg) (ds := (fun _ => Value.null)) nq67 hog
          have htx0_67 := pq_nR (r := 103) (n := y64.toNatClampNeg) (ds := (fun _ => Value.null)) nq67 htx0
          have hM3 := pq_nN (S := pq_uO S a 7 (.int (0 + 1))) (q := q67) (r := 103) (n := y64.toNatClampNeg) (ds := fun _ => Value.null)
          have hM4 : hN (pq_nw (pq_uO S a 7 (.int (0 + 1))) q67 103 y64.toNatClampNeg (fun _ => Value.null)) og = 2 := (pq_nM (S := pq_uO S a 7 (.int (0 + 1))) nq67 (show pq_R (pq_uO S a 7 (.int (0 + 1))) og 165 from hog)).trans l1
          refine pq_put F ha_67 (by decide) lp_X7_25 rfl rfl (⟨by decide, _, rfl, h67⟩) dX7_writeText_69 ?_
          refine pq_iload_n F dX7_writeText_72 rfl rfl ?_
          refine pq_istore_n F dX7_writeText_73 rfl (by decide) ?_
          refine pq_aload_n F dX7_writeText_74 rfl rfl ?_
          refine pq_get F ha_67 (by decide) lk_X7_29 (pq_kp (pq_nO nq67 ha pq_ks) (by decide)) dX7_writeText_75 ?_
          refine pq_iconst (v := 1) F dX7_writeText_78 (by decide) ?_
          refine pq_isub F dX7_writeText_79 ?_
          refine pq_istore_n F dX7_writeText_80 rfl (by decide) ?_
          refine pq_iload_n F dX7_writeText_81 rfl rfl ?_
          refine pq_if_lt (tgt := 117) F dX7_writeText_82 (by decide) (fun c82 => ?_) (fun c82 => ?_)
          · exact False.elim (by focus ((try clear zo); simp only [vp_in_iff, Int32.lt_iff_toInt_lt, Int32.le_iff_toInt_le, ← Int32.toInt_inj, Int32.toInt_add, Int32.toInt_sub, Int32.toInt_mul, Int32.toInt_neg, pq_NuO, pq_NuI, pq_NuJ, pq_NuR, pq_shr6, pq_shr7, pq_shr8, lqm1, lq0, lq1, lq2, lq7, lq127] at *; (try simp (disch := omega) only [pq_bm] at *); all_goals omega))
          · skip
            refine pq_aload_n F dX7_writeText_85 rfl rfl ?_
            refine pq_get F ha_67 (by decide) lk_X7_25 pq_ks dX7_writeText_86 ?_
            refine pq_iload_n F dX7_writeText_89 rfl rfl ?_
            refine pq_aload_n F dX7_writeText_90 rfl rfl ?_
            refine pq_get F ha_67 (by decide) lk_X7_18 (pq_kp (pq_nO nq67 ha (pq_kp fe3 (by decide))) (by decide)) dX7_writeText_91 ?_
            refine pq_iload_n F dX7_writeText_94 rfl rfl ?_
            refine pq_iald F hog_67 (by decide) (by decide) rfl (fun n1_95 n2_95 => (by focus ((try clear zo); simp only [vp_in_iff, Int32.lt_iff_toInt_lt, Int32.le_iff_toInt_le, ← Int32.toInt_inj, Int32.toInt_add, Int32.toInt_sub, Int32.toInt_mul, Int32.toInt_neg, pq_NuO, pq_NuI, pq_NuJ, pq_NuR, pq_shr6, pq_shr7, pq_shr8, lqm1, lq0, lq1, lq2, lq7, lq127] at *; (try simp (disch := omega) only [pq_bm] at *); all_goals omega))) dX7_writeText_95 (fun x95 e95 l95 u95 => ?_)
            refine pq_bipush (v := 127) F dX7_writeText_96 (by decide) ?_
            refine pq_iand F dX7_writeText_98 ?_
            refine pq_i2b F dX7_writeText_99 ?_
            refine pq_bast F h67 (by decide) (by decide) rfl (fun n1_100 n2_100 => (by focus ((try clear zo); simp only [vp_in_iff, Int32.lt_iff_toInt_lt, Int32.le_iff_toInt_le, ← Int32.toInt_inj, Int32.toInt_add, Int32.toInt_sub, Int32.toInt_mul, Int32.toInt_neg, pq_NuO, pq_NuI, pq_NuJ, pq_NuR, pq_shr6, pq_shr7, pq_shr8, lqm1, lq0, lq1, lq2, lq7, lq127] at *; (try simp (disch := omega) only [pq_bm] at *); all_goals omega))) (pq_nb _) dX7_writeText_100 ?_
            refine pq_aload_n F dX7_writeText_101 rfl rfl ?_
            refine pq_get F ha_67 (by decide) lk_X7_18 (pq_kp (pq_nO nq67 ha (pq_kp fe3 (by decide))) (by decide)) dX7_writeText_102 ?_
            refine pq_iload_n F dX7_writeText_105 rfl rfl ?_
            refine pq_iald F hog_67 (by decide) (by decide) rfl (fun n1_106 n2_106 => (by focus ((try clear zo); simp only [vp_in_iff, Int32.lt_iff_toInt_lt, Int32.le_iff_toInt_le, ← Int32.toInt_inj, Int32.toInt_add, Int32.toInt_sub, Int32.toInt_mul, Int32.toInt_neg, pq_NuO, pq_NuI, pq_NuJ, pq_NuR, pq_shr6, pq_shr7, pq_shr8, lqm1, lq0, lq1, lq2, lq7, lq127] at *; (try simp (disch := omega) only [pq_bm] at *); all_goals omega))) dX7_writeText_106 (fun x106 e106 l106 u106 => ?_)
            refine pq_bipush (v := 7) F dX7_writeText_107 (by decide) ?_
            refine pq_ishr F dX7_writeText_109 ?_
            refine pq_istore_n F dX7_writeText_110 rfl (by decide) ?_
            refine pq_iinc (v := -1) F dX7_writeText_111 rfl (by decide) (by decide) ?_
            refine pq_goto (tgt := 81) F dX7_writeText_114 (by decide) ?_
            refine pq_iload_n F dX7_writeText_81 rfl rfl ?_
            refine pq_if_lt (tgt := 117) F dX7_writeText_82 (by decide) (fun c82 => ?_) (fun c82 => ?_)
            · skip
              exact pq_vret F hr hlk hA (by show _ ≤ 1; first | exact Nat.le_of_ble_eq_true rfl | omega) (by show _ ≤ 1; focus ((try clear zo); simp only [vp_in_iff, Int32.lt_iff_toInt_lt, Int32.le_iff_toInt_le, ← Int32.toInt_inj, Int32.toInt_add, Int32.toInt_sub, Int32.toInt_mul, Int32.toInt_neg, pq_NuO, pq_NuI, pq_NuJ, pq_NuR, pq_shr6, pq_shr7, pq_shr8, lqm1, lq0, lq1, lq2, lq7, lq127] at *; (try simp (disch := omega) only [pq_bm] at *); all_goals omega)) (⟨rfl, ((((pq_Fr.rf.uO ha (by decide)).nw nq67).uO ha_67 (by decide)).uI h67 (by first | decide | exact List.mem_cons_self)), (pq_kp (pq_nO nq67 ha pq_ks) (by decide))⟩) dX7_writeText_117
            · exact False.elim (by focus ((try clear zo); simp only [vp_in_iff, Int32.lt_iff_toInt_lt, Int32.le_iff_toInt_le, ← Int32.toInt_inj, Int32.toInt_add, Int32.toInt_sub, Int32.toInt_mul, Int32.toInt_neg, pq_NuO, pq_NuI, pq_NuJ, pq_NuR, pq_shr6, pq_shr7, pq_shr8, lqm1, lq0, lq1, lq2, lq7, lq127] at *; (try simp (disch := omega) only [pq_bm] at *); all_goals omega))
      · exact False.elim (by focus ((try clear zo); simp only [vp_in_iff, Int32.lt_iff_toInt_lt, Int32.le_iff_toInt_le, ← Int32.toInt_inj, Int32.toInt_add, Int32.toInt_sub, Int32.toInt_mul, Int32.toInt_neg, pq_NuO, pq_NuI, pq_NuJ, pq_NuR, pq_shr6, pq_shr7, pq_shr8, lqm1, lq0, lq1, lq2, lq7, lq127] at *; (try simp (disch := omega) only [pq_bm] at *); all_goals omega))

