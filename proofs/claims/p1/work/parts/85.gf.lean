set_option maxHeartbeats 4000000 in
set_option maxRecDepth 100000 in
theorem k_X7_writeY (l : Launch) (D : va_G) (cy : Nat → ClassId) (S : HS) (a : Nat) (ha : pq_R S a 10) (lv : Int32) (og tx0 : Nat) (fe3 : hO S a 3 = .ref og) (hog : pq_R S og 165) (fe5 : hO S a 5 = .int 2) (fe6 : hO S a 6 = .ref tx0) (htx0 : pq_R S tx0 103) (fe7 : hO S a 7 = .int 0) (l1 : hN S og = 2) (zo : hI S og 1 = 0) (hlv : lv = 1) : pq_C l D cy yX7_writeText cX7_writeText 4 (none) 1 1 1 S [.ref a, .int lv] (fun v S2 => v = none ∧ pq_Fr [(10, 7), (10, 6), (103, 0)] S S2 ∧ (hO S2 a 7 = .int 1)) := by
  refine pq_start (by decide) (Nat.le_of_ble_eq_true rfl) ?_
  intro p e s m args below meth c A F hr hlk hnm hA
  have lqm1 : (-1 : Int32).toInt = -1 := rfl
  have lq0 : (0 : Int32).toInt = 0 := rfl
  have lq1 : (1 : Int32).toInt = 1 := rfl
  have lq2 : (2 : Int32).toInt = 2 := rfl
  have lq7 : (7 : Int32).toInt = 7 := rfl
  have lq127 : (127 : Int32).toInt = 127 := rfl
  subst hlv
  refine pq_lenF htx0 (by decide) rfl (fun lt1 lt2 => ?_)
  refine pq_iload_n F dX7_writeText_0 rfl rfl ?_
  refine pq_istore_n F dX7_writeText_1 rfl (by decide) ?_
  refine pq_iload_n F dX7_writeText_2 rfl rfl ?_
  refine pq_if_le (tgt := 40) F dX7_writeText_3 (by decide) (fun c3 => ?_) (fun c3 => ?_)
  · exact False.elim (by focus ((try clear zo); simp only [vp_in_iff, Int32.lt_iff_toInt_lt, Int32.le_iff_toInt_le, ← Int32.toInt_inj, Int32.toInt_add, Int32.toInt_sub, Int32.toInt_mul, Int32.toInt_neg, pq_NuO, pq_NuI, pq_NuJ, pq_NuR, pq_shr6, pq_shr7, pq_shr8, lqm1, lq0, lq1, lq2, lq7, lq127] at *; (try simp (disch := omega) only [pq_bm] at *); all_goals omega))
  · skip
    refine pq_aload_n F dX7_writeText_6 rfl rfl ?_
    refine pq_get F ha (by decide) lk_X7_29 fe7 dX7_writeText_7 ?_
    refine pq_aload_n F dX7_writeText_10 rfl rfl ?_
    refine pq_get F ha (by decide) lk_X7_50 fe5 dX7_writeText_11 ?_
    refine pq_icmp_ge (tgt := 40) F dX7_writeText_14 (by decide) (fun c14 => ?_) (fun c14 => ?_)
    · exact False.elim (by focus ((try clear zo); simp only [vp_in_iff, Int32.lt_iff_toInt_lt, Int32.le_iff_toInt_le, ← Int32.toInt_inj, Int32.toInt_add, Int32.toInt_sub, Int32.toInt_mul, Int32.toInt_neg, pq_NuO, pq_NuI, pq_NuJ, pq_NuR, pq_shr6, pq_shr7, pq_shr8, lqm1, lq0, lq1, lq2, lq7, lq127] at *; (try simp (disch := omega) only [pq_bm] at *); all_goals omega))
    · skip
      refine pq_aload_n F dX7_writeText_17 rfl rfl ?_
      refine pq_dup F dX7_writeText_18 rfl ?_
      refine pq_get F ha (by decide) lk_X7_29 fe7 dX7_writeText_19 ?_
      refine pq_iconst (v := 1) F dX7_writeText_22 (by decide) ?_
      refine pq_iadd F dX7_writeText_23 ?_
      refine pq_putI F ha (by decide) lp_X7_29 rfl (by focus ((try clear zo); simp only [vp_in_iff, Int32.lt_iff_toInt_lt, Int32.le_iff_toInt_le, ← Int32.toInt_inj, Int32.toInt_add, Int32.toInt_sub, Int32.toInt_mul, Int32.toInt_neg, pq_NuO, pq_NuI, pq_NuJ, pq_NuR, pq_shr6, pq_shr7, pq_shr8, lqm1, lq0, lq1, lq2, lq7, lq127] at *; (try simp (disch := omega) only [pq_bm] at *); all_goals omega)) (by focus ((try clear zo); simp only [vp_in_iff, Int32.lt_iff_toInt_lt, Int32.le_iff_toInt_le, ← Int32.toInt_inj, Int32.toInt_add, Int32.toInt_sub, Int32.toInt_mul, Int32.toInt_neg, pq_NuO, pq_NuI, pq_NuJ, pq_NuR, pq_shr6, pq_shr7, pq_shr8, lqm1, lq0, lq1, lq2, lq7, lq127] at *; (try simp (disch := omega) only [pq_bm] at *); all_goals omega)) dX7_writeText_24 ?_
      refine pq_aload_n F dX7_writeText_27 rfl rfl ?_
      refine pq_get F ha (by decide) lk_X7_18 (pq_kp fe3 (by decide)) dX7_writeText_28 ?_
      refine pq_iload_n F dX7_writeText_31 rfl rfl ?_
      refine pq_iald F hog (by decide) (by decide) rfl (fun n1_32 n2_32 => (by focus ((try clear zo); simp only [vp_in_iff, Int32.lt_iff_toInt_lt, Int32.le_iff_toInt_le, ← Int32.toInt_inj, Int32.toInt_add, Int32.toInt_sub, Int32.toInt_mul, Int32.toInt_neg, pq_NuO, pq_NuI, pq_NuJ, pq_NuR, pq_shr6, pq_shr7, pq_shr8, lqm1, lq0, lq1, lq2, lq7, lq127] at *; (try simp (disch := omega) only [pq_bm] at *); all_goals omega))) dX7_writeText_32 (fun x32 e32 l32 u32 => ?_)
      have x32e : x32 = 0 := e32.trans zo
      subst x32e
      have z35 : ((0 : Int32) >>> (7 &&& 31)).toInt = 0 := (by decide)
      refine pq_bipush (v := 7) F dX7_writeText_33 (by decide) ?_
      refine pq_ishr F dX7_writeText_35 ?_
      refine pq_istore_n F dX7_writeText_36 rfl (by decide) ?_
      refine pq_goto (tgt := 2) F dX7_writeText_37 (by decide) ?_
      refine pq_iload_n F dX7_writeText_2 rfl rfl ?_
      refine pq_if_le (tgt := 40) F dX7_writeText_3 (by decide) (fun c3 => ?_) (fun c3 => ?_)
      · skip
        refine pq_aload_n F dX7_writeText_40 rfl rfl ?_
        refine pq_get F ha (by decide) lk_X7_25 (pq_kp fe6 (by decide)) dX7_writeText_41 ?_
        refine pq_alen F htx0 (by decide) rfl dX7_writeText_44 (fun l44 u44 => ?_)
        have nq44 := nI_toInt (n := hN _ tx0) (Nat.lt_of_le_of_lt u44 (by decide))
        refine pq_aload_n F dX7_writeText_45 rfl rfl ?_
        refine pq_get F ha (by decide) lk_X7_29 pq_ks dX7_writeText_46 ?_
        refine pq_icmp_ge (tgt := 72) F dX7_writeText_49 (by decide) (fun c49 => ?_) (fun c49 => ?_)
        · skip
          refine pq_iload_n F dX7_writeText_72 rfl rfl ?_
          refine pq_istore_n F dX7_writeText_73 rfl (by decide) ?_
          refine pq_aload_n F dX7_writeText_74 rfl rfl ?_
          refine pq_get F ha (by decide) lk_X7_29 pq_ks dX7_writeText_75 ?_
          refine pq_iconst (v := 1) F dX7_writeText_78 (by decide) ?_
          refine pq_isub F dX7_writeText_79 ?_
          refine pq_istore_n F dX7_writeText_80 rfl (by decide) ?_
          refine pq_iload_n F dX7_writeText_81 rfl rfl ?_
          refine pq_if_lt (tgt := 117) F dX7_writeText_82 (by decide) (fun c82 => ?_) (fun c82 => ?_)
          · exact False.elim (by focus ((try clear zo); simp only [vp_in_iff, Int32.lt_iff_toInt_lt, Int32.le_iff_toInt_le, ← Int32.toInt_inj, Int32.toInt_add, Int32.toInt_sub, Int32.toInt_mul, Int32.toInt_neg, pq_NuO, pq_NuI, pq_NuJ, pq_NuR, pq_shr6, pq_shr7, pq_shr8, lqm1, lq0, lq1, lq2, lq7, lq127] at *; (try simp (disch := omega) only [pq_bm] at *); all_goals omega))
          · skip
            refine pq_aload_n F dX7_writeText_85 rfl rfl ?_
            refine pq_get F ha (by decide) lk_X7_25 (pq_kp fe6 (by decide)) dX7_writeText_86 ?_
            refine pq_iload_n F dX7_writeText_89 rfl rfl ?_
            refine pq_aload_n F dX7_writeText_90 rfl rfl ?_
            refine pq_get F ha (by decide) lk_X7_18 (pq_kp fe3 (by decide)) dX7_writeText_91 ?_
            refine pq_iload_n F dX7_writeText_94 rfl rfl ?_
            refine pq_iald F hog (by decide) (by decide) rfl (fun n1_95 n2_95 => (by focus ((try clear zo); simp only [vp_in_iff, Int32.lt_iff_toInt_lt, Int32.le_iff_toInt_le, ← Int32.toInt_inj, Int32.toInt_add, Int32.toInt_sub, Int32.toInt_mul, Int32.toInt_neg, pq_NuO, pq_NuI, pq_NuJ, pq_NuR, pq_shr6, pq_shr7, pq_shr8, lqm1, lq0, lq1, lq2, lq7, lq127] at *; (try simp (disch := omega) only [pq_bm] at *); all_goals omega))) dX7_writeText_95 (fun x95 e95 l95 u95 => ?_)
            refine pq_bipush (v := 127) F dX7_writeText_96 (by decide) ?_
            refine pq_iand F dX7_writeText_98 ?_
            refine pq_i2b F dX7_writeText_99 ?_
            refine pq_bast F htx0 (by decide) (by decide) rfl (fun n1_100 n2_100 => (by focus ((try clear zo); simp only [vp_in_iff, Int32.lt_iff_toInt_lt, Int32.le_iff_toInt_le, ← Int32.toInt_inj, Int32.toInt_add, Int32.toInt_sub, Int32.toInt_mul, Int32.toInt_neg, pq_NuO, pq_NuI, pq_NuJ, pq_NuR, pq_shr6, pq_shr7, pq_shr8, lqm1, lq0, lq1, lq2, lq7, lq127] at *; (try simp (disch := omega) only [pq_bm] at *); all_goals omega))) (pq_nb _) dX7_writeText_100 ?_
            refine pq_aload_n F dX7_writeText_101 rfl rfl ?_
            refine pq_get F ha (by decide) lk_X7_18 (pq_kp fe3 (by decide)) dX7_writeText_102 ?_
            refine pq_iload_n F dX7_writeText_105 rfl rfl ?_
            refine pq_iald F hog (by decide) (by decide) rfl (fun n1_106 n2_106 => (by focus ((try clear zo); simp only [vp_in_iff, Int32.lt_iff_toInt_lt, Int32.le_iff_toInt_le, ← Int32.toInt_inj, Int32.toInt_add, Int32.toInt_sub, Int32.toInt_mul, Int32.toInt_neg, pq_NuO, pq_NuI, pq_NuJ, pq_NuR, pq_shr6, pq_shr7, pq_shr8, lqm1, lq0, lq1, lq2, lq7, lq127] at *; (try simp (disch := omega) only [pq_bm] at *); all_goals omega))) dX7_writeText_106 (fun x106 e106 l106 u106 => ?_)
            refine pq_bipush (v := 7) F dX7_writeText_107 (by decide) ?_
            refine pq_ishr F dX7_writeText_109 ?_
            refine pq_istore_n F dX7_writeText_110 rfl (by decide) ?_
            refine pq_iinc (v := -1) F dX7_writeText_111 rfl (by decide) (by decide) ?_
            refine pq_goto (tgt := 81) F dX7_writeText_114 (by decide) ?_
            refine pq_iload_n F dX7_writeText_81 rfl rfl ?_
            refine pq_if_lt (tgt := 117) F dX7_writeText_82 (by decide) (fun c82 => ?_) (fun c82 => ?_)
            · skip
              exact pq_vret F hr hlk hA (by show _ ≤ 1; first | exact Nat.le_of_ble_eq_true rfl | omega) (by show _ ≤ 1; focus ((try clear zo); simp only [vp_in_iff, Int32.lt_iff_toInt_lt, Int32.le_iff_toInt_le, ← Int32.toInt_inj, Int32.toInt_add, Int32.toInt_sub, Int32.toInt_mul, Int32.toInt_neg, pq_NuO, pq_NuI, pq_NuJ, pq_NuR, pq_shr6, pq_shr7, pq_shr8, lqm1, lq0, lq1, lq2, lq7, lq127] at *; (try simp (disch := omega) only [pq_bm] at *); all_goals omega)) (⟨rfl, ((pq_Fr.rf.uO ha (by decide)).uI htx0 (by first | decide | exact List.mem_cons_self)), pq_ks⟩) dX7_writeText_117
            · exact False.elim (by focus ((try clear zo); simp only [vp_in_iff, Int32.lt_iff_toInt_lt, Int32.le_iff_toInt_le, ← Int32.toInt_inj, Int32.toInt_add, Int32.toInt_sub, Int32.toInt_mul, Int32.toInt_neg, pq_NuO, pq_NuI, pq_NuJ, pq_NuR, pq_shr6, pq_shr7, pq_shr8, lqm1, lq0, lq1, lq2, lq7, lq127] at *; (try simp (disch := omega) only [pq_bm] at *); all_goals omega))
        · skip
          refine pq_aload_n F dX7_writeText_52 rfl rfl ?_
          refine pq_aload_n F dX7_writeText_53 rfl rfl ?_
          refine pq_get F ha (by decide) lk_X7_29 pq_ks dX7_writeText_54 ?_
          refine pq_iconst (v := 2) F dX7_writeText_57 (by decide) ?_
          refine pq_aload_n F dX7_writeText_58 rfl rfl ?_
          refine pq_get F ha (by decide) lk_X7_25 (pq_kp fe6 (by decide)) dX7_writeText_59 ?_
          refine pq_alen F htx0 (by decide) rfl dX7_writeText_62 (fun l62 u62 => ?_)
          have nq62 := nI_toInt (n := hN _ tx0) (Nat.lt_of_le_of_lt u62 (by decide))
          refine pq_imul F dX7_writeText_63 ?_
          refine pq_mmax F mx_X7_74 ⟨Nat.le_of_ble_eq_true rfl, Nat.le_of_ble_eq_true rfl⟩ (Nat.zero_le _) (Nat.zero_le _) dX7_writeText_64 (fun y64 yl64_0 yl64_1 yl64_2 => ?_)
          have cy64 := pq_cl (x := y64) (by focus ((try clear zo); simp only [vp_in_iff, Int32.lt_iff_toInt_lt, Int32.le_iff_toInt_le, ← Int32.toInt_inj, Int32.toInt_add, Int32.toInt_sub, Int32.toInt_mul, Int32.toInt_neg, pq_NuO, pq_NuI, pq_NuJ, pq_NuR, pq_shr6, pq_shr7, pq_shr8, lqm1, lq0, lq1, lq2, lq7, lq127] at *; (try simp (disch := omega) only [pq_bm] at *); all_goals omega))
          refine pq_newB F (r := 103) (n := y64.toNatClampNeg) (by decide) (by decide) ac_byte rfl (by decide) (by focus ((try clear zo); simp only [vp_in_iff, Int32.lt_iff_toInt_lt, Int32.le_iff_toInt_le, ← Int32.toInt_inj, Int32.toInt_add, Int32.toInt_sub, Int32.toInt_mul, Int32.toInt_neg, pq_NuO, pq_NuI, pq_NuJ, pq_NuR, pq_shr6, pq_shr7, pq_shr8, lqm1, lq0, lq1, lq2, lq7, lq127] at *; (try simp (disch := omega) only [pq_bm] at *); all_goals omega)) rfl ⟨(by focus ((try clear zo); simp only [vp_in_iff, Int32.lt_iff_toInt_lt, Int32.le_iff_toInt_le, ← Int32.toInt_inj, Int32.toInt_add, Int32.toInt_sub, Int32.toInt_mul, Int32.toInt_neg, pq_NuO, pq_NuI, pq_NuJ, pq_NuR, pq_shr6, pq_shr7, pq_shr8, lqm1, lq0, lq1, lq2, lq7, lq127] at *; (try simp (disch := omega) only [pq_bm] at *); all_goals omega)), (by focus ((try clear zo); simp only [vp_in_iff, Int32.lt_iff_toInt_lt, Int32.le_iff_toInt_le, ← Int32.toInt_inj, Int32.toInt_add, Int32.toInt_sub, Int32.toInt_mul, Int32.toInt_neg, pq_NuO, pq_NuI, pq_NuJ, pq_NuR, pq_shr6, pq_shr7, pq_shr8, lqm1, lq0, lq1, lq2, lq7, lq127] at *; (try simp (disch := omega) only [pq_bm] at *); all_goals omega))⟩ (by focus ((try clear zo); simp only [vp_in_iff, Int32.lt_iff_toInt_lt, Int32.le_iff_toInt_le, ← Int32.toInt_inj, Int32.toInt_add, Int32.toInt_sub, Int32.toInt_mul, Int32.toInt_neg, pq_NuO, pq_NuI, pq_NuJ, pq_NuR, pq_shr6, pq_shr7, pq_shr8, lqm1, lq0, lq1, lq2, lq7, lq127] at *; (try simp (disch := omega) only [pq_bm] at *); all_goals omega)) (Nat.le_refl _) (by show 0 + y64.toNatClampNeg ≤ 1; focus ((try clear zo); simp only [vp_in_iff, Int32.lt_iff_toInt_lt, Int32.le_iff_toInt_le, ← Int32.toInt_inj, Int32.toInt_add, Int32.toInt_sub, Int32.toInt_mul, Int32.toInt_neg, pq_NuO, pq_NuI, pq_NuJ, pq_NuR, pq_shr6, pq_shr7, pq_shr8, lqm1, lq0, lq1, lq2, lq7, lq127] at *; (try simp (disch := omega) only [pq_bm] at *); all_goals omega)) dX7_writeText_67 (fun q67 nq67 h67 => ?_)
          have ha_67 := pq_nR (r := 103) (n := y64.toNatClampNeg) (ds := (fun _ => Value.null)) nq67 ha
          have hog_67 := pq_nR (r := 103) (n := y64.toNatClampNeg) (ds := (fun _ => Value.null)) nq67 hog
          have htx0_67 := pq_nR (r := 103) (n := y64.toNatClampNeg) (ds := (fun _ => Value.null)) nq67 htx0
          have hM3 := pq_nN (S := pq_uO S a 7 (.int (0 + 1))) (q := q67) (r := 103) (n := y64.toNatClampNeg) (ds := fun _ => Value.null)
          have hM4 : hN (pq_nw (pq_uO S a 7 (.int (0 + 1))) q67 103 y64.toNatClampNeg (fun _ => Value.null)) og = 2 := (pq_nM (S := pq_uO S a 7 (.int (0 + 1))) nq67 (show pq_R (pq_uO S a 7 (.int (0 + 1))) og 165 from hog)).trans l1
          refine pq_put F ha_67 (by decide) lp_X7_25 rfl rfl (⟨by decide, _, rfl, h67⟩) dX7_writeText_69 ?_
          refine pq_iload_n F dX7_writeText_72 rfl rfl ?_
          refine pq_istore_n F dX7_writeText_73 rfl (by decide) ?_
          refine pq_aload_n F dX7_writeText_74 rfl rfl ?_
          refine pq_get F ha_67 (by decide) lk_X7_29 (pq_kp (pq_nO nq67 ha pq_ks) (by decide)) dX7_writeText_75 ?_
          refine pq_iconst (v := 1) F dX7_writeText_78 (by decide) ?_
          refine pq_isub F dX7_writeText_79 ?_
          refine pq_istore_n F dX7_writeText_80 rfl (by decide) ?_
          refine pq_iload_n F dX7_writeText_81 rfl rfl ?_
          refine pq_if_lt (tgt := 117) F dX7_writeText_82 (by decide) (fun c82 => ?_) (fun c82 => ?_)
          · exact False.elim (by focus ((try clear zo); simp only [vp_in_iff, Int32.lt_iff_toInt_lt, Int32.le_iff_toInt_le, ← Int32.toInt_inj, Int32.toInt_add, Int32.toInt_sub, Int32.toInt_mul, Int32.toInt_neg, pq_NuO, pq_NuI, pq_NuJ, pq_NuR, pq_shr6, pq_shr7, pq_shr8, lqm1, lq0, lq1, lq2, lq7, lq127] at *; (try simp (disch := omega) only [pq_bm] at *); all_goals omega))
          · skip
            refine pq_aload_n F dX7_writeText_85 rfl rfl ?_
            refine pq_get F ha_67 (by decide) lk_X7_25 pq_ks dX7_writeText_86 ?_
            refine pq_iload_n F dX7_writeText_89 rfl rfl ?_
            refine pq_aload_n F dX7_writeText_90 rfl rfl ?_
            refine pq_get F ha_67 (by decide) lk_X7_18 (pq_kp (pq_nO nq67 ha (pq_kp fe3 (by decide))) (by decide)) dX7_writeText_91 ?_
            refine pq_iload_n F dX7_writeText_94 rfl rfl ?_
            refine pq_iald F hog_67 (by decide) (by decide) rfl (fun n1_95 n2_95 => (by focus ((try clear zo); simp only [vp_in_iff, Int32.lt_iff_toInt_lt, Int32.le_iff_toInt_le, ← Int32.toInt_inj, Int32.toInt_add, Int32.toInt_sub, Int32.toInt_mul, Int32.toInt_neg, pq_NuO, pq_NuI, pq_NuJ, pq_NuR, pq_shr6, pq_shr7, pq_shr8, lqm1, lq0, lq1, lq2, lq7, lq127] at *; (try simp (disch := omega) only [pq_bm] at *); all_goals omega))) dX7_writeText_95 (fun x95 e95 l95 u95 => ?_)
            refine pq_bipush (v := 127) F dX7_writeText_96 (by decide) ?_
            refine pq_iand F dX7_writeText_98 ?_
            refine pq_i2b F dX7_writeText_99 ?_
            refine pq_bast F h67 (by decide) (by decide) rfl (fun n1_100 n2_100 => (by focus ((try clear zo); simp only [vp_in_iff, Int32.lt_iff_toInt_lt, Int32.le_iff_toInt_le, ← Int32.toInt_inj, Int32.toInt_add, Int32.toInt_sub, Int32.toInt_mul, Int32.toInt_neg, pq_NuO, pq_NuI, pq_NuJ, pq_NuR, pq_shr6, pq_shr7, pq_shr8, lqm1, lq0, lq1, lq2, lq7, lq127] at *; (try simp (disch := omega) only [pq_bm] at *); all_goals omega))) (pq_nb _) dX7_writeText_100 ?_
            refine pq_aload_n F dX7_writeText_101 rfl rfl ?_
            refine pq_get F ha_67 (by decide) lk_X7_18 (pq_kp (pq_nO nq67 ha (pq_kp fe3 (by decide))) (by decide)) dX7_writeText_102 ?_
            refine pq_iload_n F dX7_writeText_105 rfl rfl ?_
            refine pq_iald F hog_67 (by decide) (by decide) rfl (fun n1_106 n2_106 => (by focus ((try clear zo); simp only [vp_in_iff, Int32.lt_iff_toInt_lt, Int32.le_iff_toInt_le, ← Int32.toInt_inj, Int32.toInt_add, Int32.toInt_sub, Int32.toInt_mul, Int32.toInt_neg, pq_NuO, pq_NuI, pq_NuJ, pq_NuR, pq_shr6, pq_shr7, pq_shr8, lqm1, lq0, lq1, lq2, lq7, lq127] at *; (try simp (disch := omega) only [pq_bm] at *); all_goals omega))) dX7_writeText_106 (fun x106 e106 l106 u106 => ?_)
            refine pq_bipush (v := 7) F dX7_writeText_107 (by decide) ?_
            refine pq_ishr F dX7_writeText_109 ?_
            refine pq_istore_n F dX7_writeText_110 rfl (by decide) ?_
            refine pq_iinc (v := -1) F dX7_writeText_111 rfl (by decide) (by decide) ?_
            refine pq_goto (tgt := 81) F dX7_writeText_114 (by decide) ?_
            refine pq_iload_n F dX7_writeText_81 rfl rfl ?_
            refine pq_if_lt (tgt := 117) F dX7_writeText_82 (by decide) (fun c82 => ?_) (fun c82 => ?_)
            · skip
              exact pq_vret F hr hlk hA (by show _ ≤ 1; first | exact Nat.le_of_ble_eq_true rfl | omega) (by show _ ≤ 1; focus ((try clear zo); simp only [vp_in_iff, Int32.lt_iff_toInt_lt, Int32.le_iff_toInt_le, ← Int32.toInt_inj, Int32.toInt_add, Int32.toInt_sub, Int32.toInt_mul, Int32.toInt_neg, pq_NuO, pq_NuI, pq_NuJ, pq_NuR, pq_shr6, pq_shr7, pq_shr8, lqm1, lq0, lq1, lq2, lq7, lq127] at *; (try simp (disch := omega) only [pq_bm] at *); all_goals omega)) (⟨rfl, ((((pq_Fr.rf.uO ha (by decide)).nw nq67).uO ha_67 (by decide)).uI h67 (by first | decide | exact List.mem_cons_self)), (pq_kp (pq_nO nq67 ha pq_ks) (by decide))⟩) dX7_writeText_117
            · exact False.elim (by focus ((try clear zo); simp only [vp_in_iff, Int32.lt_iff_toInt_lt, Int32.le_iff_toInt_le, ← Int32.toInt_inj, Int32.toInt_add, Int32.toInt_sub, Int32.toInt_mul, Int32.toInt_neg, pq_NuO, pq_NuI, pq_NuJ, pq_NuR, pq_shr6, pq_shr7, pq_shr8, lqm1, lq0, lq1, lq2, lq7, lq127] at *; (try simp (disch := omega) only [pq_bm] at *); all_goals omega))
      · exact False.elim (by focus ((try clear zo); simp only [vp_in_iff, Int32.lt_iff_toInt_lt, Int32.le_iff_toInt_le, ← Int32.toInt_inj, Int32.toInt_add, Int32.toInt_sub, Int32.toInt_mul, Int32.toInt_neg, pq_NuO, pq_NuI, pq_NuJ, pq_NuR, pq_shr6, pq_shr7, pq_shr8, lqm1, lq0, lq1, lq2, lq7, lq127] at *; (try simp (disch := omega) only [pq_bm] at *); all_goals omega))

theorem pf_w1 {kd y : Int32} (h1 : y.toInt = 1 → pq_IW kd 1 1) (h : ¬ y = 0) (hb : 0 ≤ y.toInt ∧ y.toInt ≤ 1) : kd = 3 := by
  have e1 : (1 : Int32).toInt = 1 := rfl
  have hy : y.toInt = 1 := by
    have : y.toInt ≠ 0 := fun z => h (Int32.toInt_inj.mp z)
    omega
  have z := h1 hy
  unfold pq_IW at z
  rw [e1] at z
  exact Int32.toInt_inj.mp (by have e3 : (3 : Int32).toInt = 3 := rfl; rw [e3]; omega)
theorem pf_w0 {kd y : Int32} (h2 : pq_IW kd 1 1 → y.toInt = 1) (h : y = 0) : ¬ kd = 3 := fun z => by
  have hy := h2 (by unfold pq_IW; subst z; exact Or.inr (Or.inr (Or.inr (Or.inl ⟨rfl, rfl, rfl⟩))))
  rw [h] at hy
  exact absurd hy (by decide)
set_option maxHeartbeats 4000000 in
set_option maxRecDepth 100000 in
theorem k_X7_findY (l : Launch) (D : va_G) (cy : Nat → ClassId) (S : HS) (a : Nat) (ha : pq_R S a 10) (ta : Nat) (hta : pq_R S ta 3) (tb : Nat) (htb : pq_R S tb 33) (kd : Int32) (hkd0 : 0 ≤ kd.toInt) (hkd1 : kd.toInt ≤ 4) (koA stA acA koB stB acB : Nat) (xa0 : hO S ta 0 = .ref koA) (ka0 : pq_R S koA 150) (xa3 : hO S ta 3 = .ref stA) (ka3 : pq_R S stA 152) (xa2 : hO S ta 2 = .ref acA) (ka2 : pq_R S acA 206) (xa4 : hO S ta 4 = .int 1) (xb0 : hO S tb 0 = .ref koB) (kb0 : pq_R S koB 153) (xb3 : hO S tb 3 = .ref stB) (kb3 : pq_R S stB 155) (xb2 : hO S tb 2 = .ref acB) (kb2 : pq_R S acB 207) (xb4 : hO S tb 4 = .int 1) (xak : ∀ i, i < 128 → hI S koA i = 0) (xas : hI S stA 0 = 0) (xac : hI S acA 0 = 0) (xbk : ∀ i, i < 128 → hI S koB i = 0) (xbs : hI S stB 0 = 0) (xbc : hI S acB 0 = 0) (xa5 : hO S ta 5 = .int 1) (xa6 : hO S ta 6 = .int 0) (xa7 : hO S ta 7 = .int 1) (xb5 : hO S tb 5 = .int 1) (xb6 : hO S tb 6 = .int 0) (xb7 : hO S tb 7 = .int 1) (pr og sn lb tx0 : Nat) (fe2 : hO S a 2 = .ref pr) (hpr : pq_R S pr 164) (fe3 : hO S a 3 = .ref og) (hog : pq_R S og 165) (fe4 : hO S a 4 = .ref sn) (hsn : pq_R S sn 196) (fe0 : hO S a 0 = .ref lb) (hlb : pq_R S lb 163) (fe6 : hO S a 6 = .ref tx0) (htx0 : pq_R S tx0 103) (l0 : hN S pr = 0) (l1 : hN S og = 0) (l2 : hN S sn = 0) : pq_C l D cy yX7_find cX7_find 6 (some .int) 3 4 9 S [.ref a, .ref ta, .ref tb, .int kd] (fun v S2 => pq_Fr [(10, 7), (10, 1), (163, 0), (10, 2), (10, 3), (10, 4), (10, 5), (164, 0), (165, 0), (196, 0), (10, 6), (103, 0)] S S2 ∧ ∃ x : Int32, v = some (.int x) ∧ (x = (if kd = 3 then 0 else if kd = 4 then 1 else -1))) := by
  refine pq_start (by decide) (Nat.le_of_ble_eq_true rfl) ?_
  intro p e s m args below meth c A F hr hlk hnm hA
  have lqm1 : (-1 : Int32).toInt = -1 := rfl
  have lq0 : (0 : Int32).toInt = 0 := rfl
  have lq1 : (1 : Int32).toInt = 1 := rfl
  have lq2 : (2 : Int32).toInt = 2 := rfl
  have lq3 : (3 : Int32).toInt = 3 := rfl
  have lq4 : (4 : Int32).toInt = 4 := rfl
  refine pq_aload_n F dX7_find_0 rfl rfl ?_
  refine pq_iconst (v := 0) F dX7_find_1 (by decide) ?_
  refine pq_putI F ha (by decide) lp_X7_29 rfl (by focus ((try clear xak); (try clear xas); (try clear xac); (try clear xbk); (try clear xbs); (try clear xbc); (try clear p14); (try clear p25); (try clear p31); (try clear p70); (try clear q6); (try clear q7); (try clear q8); (try clear z5); (try clear z6); (try clear z7); (try clear z8); (try clear xak25); (try clear xak31); (try clear xak70); (try clear xas25); (try clear xas31); (try clear xas70); (try clear xac25); (try clear xac31); (try clear xac70); (try clear xbk25); (try clear xbk31); (try clear xbk70); (try clear xbs25); (try clear xbs31); (try clear xbs70); (try clear xbc25); (try clear xbc31); (try clear xbc70); simp only [vp_in_iff, Int32.lt_iff_toInt_lt, Int32.le_iff_toInt_le, ← Int32.toInt_inj, Int32.toInt_add, Int32.toInt_sub, Int32.toInt_mul, Int32.toInt_neg, pq_NuO, pq_NuI, pq_NuJ, pq_NuR, pq_shr6, pq_shr7, pq_shr8, lqm1, lq0, lq1, lq2, lq3, lq4] at *; (try simp (disch := omega) only [pq_bm] at *); all_goals omega)) (by focus ((try clear xak); (try clear xas); (try clear xac); (try clear xbk); (try clear xbs); (try clear xbc); (try clear p14); (try clear p25); (try clear p31); (try clear p70); (try clear q6); (try clear q7); (try clear q8); (try clear z5); (try clear z6); (try clear z7); (try clear z8); (try clear xak25); (try clear xak31); (try clear xak70); (try clear xas25); (try clear xas31); (try clear xas70); (try clear xac25); (try clear xac31); (try clear xac70); (try clear xbk25); (try clear xbk31); (try clear xbk70); (try clear xbs25); (try clear xbs31); (try clear xbs70); (try clear xbc25); (try clear xbc31); (try clear xbc70); simp only [vp_in_iff, Int32.lt_iff_toInt_lt, Int32.le_iff_toInt_le, ← Int32.toInt_inj, Int32.toInt_add, Int32.toInt_sub, Int32.toInt_mul, Int32.toInt_neg, pq_NuO, pq_NuI, pq_NuJ, pq_NuR, pq_shr6, pq_shr7, pq_shr8, lqm1, lq0, lq1, lq2, lq3, lq4] at *; (try simp (disch := omega) only [pq_bm] at *); all_goals omega)) dX7_find_2 ?_
  refine pq_iload_n F dX7_find_5 rfl rfl ?_
  refine pq_aload_n F dX7_find_6 rfl rfl ?_
  refine pq_get F hta (by decide) lk_X7_33 (pq_ko xa7 hta ha (by decide)) dX7_find_7 ?_
  refine pq_aload_n F dX7_find_10 rfl rfl ?_
  refine pq_get F htb (by decide) lk_X7_33 (pq_ko xb7 htb ha (by decide)) dX7_find_11 ?_
  refine pq_callS (As := [_, _, _]) F (k_X7_isWanted l D cy _ _ _ ?_ ?_ _ ?_ ?_) ml_X7_39 (Nat.le_of_ble_eq_true rfl) ⟨Nat.le_of_ble_eq_true rfl, Nat.le_of_ble_eq_true rfl⟩ ⟨by decide, by decide⟩ dX7_find_14 (fun v14 S14 w14 => ?_)
  · focus ((try clear xak); (try clear xas); (try clear xac); (try clear xbk); (try clear xbs); (try clear xbc); (try clear p14); (try clear p25); (try clear p31); (try clear p70); (try clear q6); (try clear q7); (try clear q8); (try clear z5); (try clear z6); (try clear z7); (try clear z8); (try clear xak25); (try clear xak31); (try clear xak70); (try clear xas25); (try clear xas31); (try clear xas70); (try clear xac25); (try clear xac31); (try clear xac70); (try clear xbk25); (try clear xbk31); (try clear xbk70); (try clear xbs25); (try clear xbs31); (try clear xbs70); (try clear xbc25); (try clear xbc31); (try clear xbc70); simp only [vp_in_iff, Int32.lt_iff_toInt_lt, Int32.le_iff_toInt_le, ← Int32.toInt_inj, Int32.toInt_add, Int32.toInt_sub, Int32.toInt_mul, Int32.toInt_neg, pq_NuO, pq_NuI, pq_NuJ, pq_NuR, pq_shr6, pq_shr7, pq_shr8, lqm1, lq0, lq1, lq2, lq3, lq4] at *; (try simp (disch := omega) only [pq_bm] at *); all_goals omega)
  · focus ((try clear xak); (try clear xas); (try clear xac); (try clear xbk); (try clear xbs); (try clear xbc); (try clear p14); (try clear p25); (try clear p31); (try clear p70); (try clear q6); (try clear q7); (try clear q8); (try clear z5); (try clear z6); (try clear z7); (try clear z8); (try clear xak25); (try clear xak31); (try clear xak70); (try clear xas25); (try clear xas31); (try clear xas70); (try clear xac25); (try clear xac31); (try clear xac70); (try clear xbk25); (try clear xbk31); (try clear xbk70); (try clear xbs25); (try clear xbs31); (try clear xbs70); (try clear xbc25); (try clear xbc31); (try clear xbc70); simp only [vp_in_iff, Int32.lt_iff_toInt_lt, Int32.le_iff_toInt_le, ← Int32.toInt_inj, Int32.toInt_add, Int32.toInt_sub, Int32.toInt_mul, Int32.toInt_neg, pq_NuO, pq_NuI, pq_NuJ, pq_NuR, pq_shr6, pq_shr7, pq_shr8, lqm1, lq0, lq1, lq2, lq3, lq4] at *; (try simp (disch := omega) only [pq_bm] at *); all_goals omega)
  · focus ((try clear xak); (try clear xas); (try clear xac); (try clear xbk); (try clear xbs); (try clear xbc); (try clear p14); (try clear p25); (try clear p31); (try clear p70); (try clear q6); (try clear q7); (try clear q8); (try clear z5); (try clear z6); (try clear z7); (try clear z8); (try clear xak25); (try clear xak31); (try clear xak70); (try clear xas25); (try clear xas31); (try clear xas70); (try clear xac25); (try clear xac31); (try clear xac70); (try clear xbk25); (try clear xbk31); (try clear xbk70); (try clear xbs25); (try clear xbs31); (try clear xbs70); (try clear xbc25); (try clear xbc31); (try clear xbc70); simp only [vp_in_iff, Int32.lt_iff_toInt_lt, Int32.le_iff_toInt_le, ← Int32.toInt_inj, Int32.toInt_add, Int32.toInt_sub, Int32.toInt_mul, Int32.toInt_neg, pq_NuO, pq_NuI, pq_NuJ, pq_NuR, pq_shr6, pq_shr7, pq_shr8, lqm1, lq0, lq1, lq2, lq3, lq4] at *; (try simp (disch := omega) only [pq_bm] at *); all_goals omega)
  · focus ((try clear xak); (try clear xas); (try clear xac); (try clear xbk); (try clear xbs); (try clear xbc); (try clear p14); (try clear p25); (try clear p31); (try clear p70); (try clear q6); (try clear q7); (try clear q8); (try clear z5); (try clear z6); (try clear z7); (try clear z8); (try clear xak25); (try clear xak31); (try clear xak70); (try clear xas25); (try clear xas31); (try clear xas70); (try clear xac25); (try clear xac31); (try clear xac70); (try clear xbk25); (try clear xbk31); (try clear xbk70); (try clear xbs25); (try clear xbs31); (try clear xbs70); (try clear xbc25); (try clear xbc31); (try clear xbc70); simp only [vp_in_iff, Int32.lt_iff_toInt_lt, Int32.le_iff_toInt_le, ← Int32.toInt_inj, Int32.toInt_add, Int32.toInt_sub, Int32.toInt_mul, Int32.toInt_neg, pq_NuO, pq_NuI, pq_NuJ, pq_NuR, pq_shr6, pq_shr7, pq_shr8, lqm1, lq0, lq1, lq2, lq3, lq4] at *; (try simp (disch := omega) only [pq_bm] at *); all_goals omega)
  obtain ⟨u14, y14, rfl, yl14_0, yl14_1, p14⟩ := w14
  rw [u14]
  try rw [u14] at p14
  refine pq_if_eq (tgt := 22) F dX7_find_17 (by decide) (fun c17 => ?_) (fun c17 => ?_)
  · skip
    have k3 := pf_w0 p14.2 c17
    refine pq_aload_n F dX7_find_22 rfl rfl ?_
    refine pq_aload_n F dX7_find_23 rfl rfl ?_
    refine pq_aload_n F dX7_find_24 rfl rfl ?_
    refine pq_callV (As := [_, _]) F (k_X7_joinY l D cy _ _ ?_ _ ?_ _ ?_ koA koB (pq_ko xa0 hta ha (by decide)) ka0 (pq_ko xb0 htb ha (by decide)) kb0 xak xbk lb (pq_kp fe0 (by decide)) hlb) ml_X7_43 ha (by decide) rfl (Nat.le_of_ble_eq_true rfl) ⟨Nat.le_of_ble_eq_true rfl, Nat.le_of_ble_eq_true rfl⟩ ⟨by decide, by decide⟩ dX7_find_25 (fun v25 S25 w25 => ?_)
    · exact ha
    · exact hta
    · exact htb
    obtain ⟨rfl, hF25, p25⟩ := w25
    have ha_25 := (hF25.1 _ _ ha (by decide)).1
    have hta_25 := (hF25.1 _ _ hta (by decide)).1
    have htb_25 := (hF25.1 _ _ htb (by decide)).1
    have ka0_25 := (hF25.1 _ _ ka0 (by decide)).1
    have ec25_0_hta_25 := hF25.O hta (by decide) (by decide) (pq_ko xa0 hta ha (by decide))
    have ka3_25 := (hF25.1 _ _ ka3 (by decide)).1
    have ec25_3_hta_25 := hF25.O hta (by decide) (by decide) (pq_ko xa3 hta ha (by decide))
    have ka2_25 := (hF25.1 _ _ ka2 (by decide)).1
    have ec25_2_hta_25 := hF25.O hta (by decide) (by decide) (pq_ko xa2 hta ha (by decide))
    have ec25_4_hta_25 := hF25.O hta (by decide) (by decide) (pq_ko xa4 hta ha (by decide))
    have ec25_5_hta_25 := hF25.O hta (by decide) (by decide) (pq_ko xa5 hta ha (by decide))
    have ec25_6_hta_25 := hF25.O hta (by decide) (by decide) (pq_ko xa6 hta ha (by decide))
    have ec25_7_hta_25 := hF25.O hta (by decide) (by decide) (pq_ko xa7 hta ha (by decide))
    have kb0_25 := (hF25.1 _ _ kb0 (by decide)).1
    have ec25_0_htb_25 := hF25.O htb (by decide) (by decide) (pq_ko xb0 htb ha (by decide))
    have kb3_25 := (hF25.1 _ _ kb3 (by decide)).1
    have ec25_3_htb_25 := hF25.O htb (by decide) (by decide) (pq_ko xb3 htb ha (by decide))
    have kb2_25 := (hF25.1 _ _ kb2 (by decide)).1
    have ec25_2_htb_25 := hF25.O htb (by decide) (by decide) (pq_ko xb2 htb ha (by decide))
    have ec25_4_htb_25 := hF25.O htb (by decide) (by decide) (pq_ko xb4 htb ha (by decide))
    have ec25_5_htb_25 := hF25.O htb (by decide) (by decide) (pq_ko xb5 htb ha (by decide))
    have ec25_6_htb_25 := hF25.O htb (by decide) (by decide) (pq_ko xb6 htb ha (by decide))
    have ec25_7_htb_25 := hF25.O htb (by decide) (by decide) (pq_ko xb7 htb ha (by decide))
    have hpr_25 := (hF25.1 _ _ hpr (by decide)).1
    have ec25_2_ha_25 := hF25.O ha (by decide) (by decide) (pq_kp fe2 (by decide))
    have hog_25 := (hF25.1 _ _ hog (by decide)).1
    have ec25_3_ha_25 := hF25.O ha (by decide) (by decide) (pq_kp fe3 (by decide))
    have hsn_25 := (hF25.1 _ _ hsn (by decide)).1
    have ec25_4_ha_25 := hF25.O ha (by decide) (by decide) (pq_kp fe4 (by decide))
    have hlb_25 := (hF25.1 _ _ hlb (by decide)).1
    have ec25_0_ha_25 := hF25.O ha (by decide) (by decide) (pq_kp fe0 (by decide))
    have htx0_25 := (hF25.1 _ _ htx0 (by decide)).1
    have ec25_6_ha_25 := hF25.O ha (by decide) (by decide) (pq_kp fe6 (by decide))
    have ec25_7_ha_25 := hF25.O ha (by decide) (by decide) pq_ks
    have xak25 : ∀ i, i < 128 → hI S25 koA i = 0 := (fun i hi => (congrFun (hF25.I ka0 (by decide) (by decide)) i).trans (xak i hi))
    have xas25 : hI S25 stA 0 = 0 := (congrFun (hF25.I ka3 (by decide) (by decide)) 0).trans xas
    have xac25 : hI S25 acA 0 = 0 := (congrFun (hF25.I ka2 (by decide) (by decide)) 0).trans xac
    have xbk25 : ∀ i, i < 128 → hI S25 koB i = 0 := (fun i hi => (congrFun (hF25.I kb0 (by decide) (by decide)) i).trans (xbk i hi))
    have xbs25 : hI S25 stB 0 = 0 := (congrFun (hF25.I kb3 (by decide) (by decide)) 0).trans xbs
    have xbc25 : hI S25 acB 0 = 0 := (congrFun (hF25.I kb2 (by decide) (by decide)) 0).trans xbc
    obtain ⟨j1, j2⟩ := p25
    refine pq_aload_n F dX7_find_28 rfl rfl ?_
    refine pq_aload_n F dX7_find_29 rfl rfl ?_
    refine pq_aload_n F dX7_find_30 rfl rfl ?_
    refine pq_callV (As := [_, _]) F (k_X7_beginY l D cy _ _ ?_ _ ?_ _ ?_ pr og sn ec25_2_ha_25 hpr_25 ec25_3_ha_25 hog_25 ec25_4_ha_25 hsn_25 ((hF25.1 pr 164 hpr (by decide)).2.trans l0) ((hF25.1 og 165 hog (by decide)).2.trans l1) ((hF25.1 sn 196 hsn (by decide)).2.trans l2) ec25_5_hta_25 ec25_5_htb_25 ec25_6_hta_25 ec25_6_htb_25) ml_X7_47 ha_25 (by decide) rfl (Nat.le_of_ble_eq_true rfl) ⟨Nat.le_of_ble_eq_true rfl, Nat.le_of_ble_eq_true rfl⟩ ⟨Nat.le_of_ble_eq_true rfl, Nat.le_of_ble_eq_true rfl⟩ dX7_find_31 (fun v31 S31 w31 => ?_)
    · exact ha_25
    · exact hta_25
    · exact htb_25
    obtain ⟨rfl, hF31, p31⟩ := w31
    have ha_31 := (hF31.1 _ _ ha_25 (by decide)).1
    have hta_31 := (hF31.1 _ _ hta_25 (by decide)).1
    have htb_31 := (hF31.1 _ _ htb_25 (by decide)).1
    have ka0_31 := (hF31.1 _ _ ka0_25 (by decide)).1
    have ec31_0_hta_31 := hF31.O hta_25 (by decide) (by decide) ec25_0_hta_25
    have ka3_31 := (hF31.1 _ _ ka3_25 (by decide)).1
    have ec31_3_hta_31 := hF31.O hta_25 (by decide) (by decide) ec25_3_hta_25
    have ka2_31 := (hF31.1 _ _ ka2_25 (by decide)).1
    have ec31_2_hta_31 := hF31.O hta_25 (by decide) (by decide) ec25_2_hta_25
    have ec31_4_hta_31 := hF31.O hta_25 (by decide) (by decide) ec25_4_hta_25
    have ec31_5_hta_31 := hF31.O hta_25 (by decide) (by decide) ec25_5_hta_25
    have ec31_6_hta_31 := hF31.O hta_25 (by decide) (by decide) ec25_6_hta_25
    have ec31_7_hta_31 := hF31.O hta_25 (by decide) (by decide) ec25_7_hta_25
    have kb0_31 := (hF31.1 _ _ kb0_25 (by decide)).1
    have ec31_0_htb_31 := hF31.O htb_25 (by decide) (by decide) ec25_0_htb_25
    have kb3_31 := (hF31.1 _ _ kb3_25 (by decide)).1
    have ec31_3_htb_31 := hF31.O htb_25 (by decide) (by decide) ec25_3_htb_25
    have kb2_31 := (hF31.1 _ _ kb2_25 (by decide)).1
    have ec31_2_htb_31 := hF31.O htb_25 (by decide) (by decide) ec25_2_htb_25
    have ec31_4_htb_31 := hF31.O htb_25 (by decide) (by decide) ec25_4_htb_25
    have ec31_5_htb_31 := hF31.O htb_25 (by decide) (by decide) ec25_5_htb_25
    have ec31_6_htb_31 := hF31.O htb_25 (by decide) (by decide) ec25_6_htb_25
    have ec31_7_htb_31 := hF31.O htb_25 (by decide) (by decide) ec25_7_htb_25
    have hlb_31 := (hF31.1 _ _ hlb_25 (by decide)).1
    have ec31_0_ha_31 := hF31.O ha_25 (by decide) (by decide) ec25_0_ha_25
    have htx0_31 := (hF31.1 _ _ htx0_25 (by decide)).1
    have ec31_6_ha_31 := hF31.O ha_25 (by decide) (by decide) ec25_6_ha_25
    have ec31_7_ha_31 := hF31.O ha_25 (by decide) (by decide) ec25_7_ha_25
    have ec31_1_ha_31 := hF31.O ha_25 (by decide) (by decide) j1
    have xak31 : ∀ i, i < 128 → hI S31 koA i = 0 := (fun i hi => (congrFun (hF31.I ka0_25 (by decide) (by decide)) i).trans (xak25 i hi))
    have xas31 : hI S31 stA 0 = 0 := (congrFun (hF31.I ka3_25 (by decide) (by decide)) 0).trans xas25
    have xac31 : hI S31 acA 0 = 0 := (congrFun (hF31.I ka2_25 (by decide) (by decide)) 0).trans xac25
    have xbk31 : ∀ i, i < 128 → hI S31 koB i = 0 := (fun i hi => (congrFun (hF31.I kb0_25 (by decide) (by decide)) i).trans (xbk25 i hi))
    have xbs31 : hI S31 stB 0 = 0 := (congrFun (hF31.I kb3_25 (by decide) (by decide)) 0).trans xbs25
    have xbc31 : hI S31 acB 0 = 0 := (congrFun (hF31.I kb2_25 (by decide) (by decide)) 0).trans xbc25
    obtain ⟨pr2, og2, sn2, q0, q4, q5, q6, q7, q8⟩ := p31
    have zl31 : hI S31 lb 0 = 0 := (congrFun (hF31.I hlb_25 (by decide) (by decide)) 0).trans j2
    refine pq_iconst (v := -1) F dX7_find_34 (by decide) ?_
    refine pq_istore F dX7_find_35 (by decide) ?_
    refine pq_iconst (v := 0) F dX7_find_37 (by decide) ?_
    refine pq_istore F dX7_find_38 (by decide) ?_
    refine pq_iload F dX7_find_40 rfl ?_
    refine pq_aload_n F dX7_find_42 rfl rfl ?_
    refine pq_get F ha_31 (by decide) lk_X7_50 q4 dX7_find_43 ?_
    refine pq_icmp_ge (tgt := 81) F dX7_find_46 (by decide) (fun c46 => ?_) (fun c46 => ?_)
    · exact False.elim (by focus ((try clear xak); (try clear xas); (try clear xac); (try clear xbk); (try clear xbs); (try clear xbc); (try clear p14); (try clear p25); (try clear p31); (try clear p70); (try clear q6); (try clear q7); (try clear q8); (try clear z5); (try clear z6); (try clear z7); (try clear z8); (try clear xak25); (try clear xak31); (try clear xak70); (try clear xas25); (try clear xas31); (try clear xas70); (try clear xac25); (try clear xac31); (try clear xac70); (try clear xbk25); (try clear xbk31); (try clear xbk70); (try clear xbs25); (try clear xbs31); (try clear xbs70); (try clear xbc25); (try clear xbc31); (try clear xbc70); simp only [vp_in_iff, Int32.lt_iff_toInt_lt, Int32.le_iff_toInt_le, ← Int32.toInt_inj, Int32.toInt_add, Int32.toInt_sub, Int32.toInt_mul, Int32.toInt_neg, pq_NuO, pq_NuI, pq_NuJ, pq_NuR, pq_shr6, pq_shr7, pq_shr8, lqm1, lq0, lq1, lq2, lq3, lq4] at *; (try simp (disch := omega) only [pq_bm] at *); all_goals omega))
    · skip
      refine pq_iload F dX7_find_49 rfl ?_
      refine pq_aload_n F dX7_find_51 rfl rfl ?_
      refine pq_get F ha_31 (by decide) lk_X7_15 q0.1.1 dX7_find_52 ?_
      refine pq_alen F q0.1.2 (by decide) rfl dX7_find_55 (fun l55 u55 => ?_)
      have nq55 := nI_toInt (n := hN _ pr2) (Nat.lt_of_le_of_lt u55 (by decide))
      refine pq_icmp_ge (tgt := 81) F dX7_find_56 (by decide) (fun c56 => ?_) (fun c56 => ?_)
      · exact False.elim (by focus ((try clear xak); (try clear xas); (try clear xac); (try clear xbk); (try clear xbs); (try clear xbc); (try clear p14); (try clear p25); (try clear p31); (try clear p70); (try clear q6); (try clear q7); (try clear q8); (try clear z5); (try clear z6); (try clear z7); (try clear z8); (try clear xak25); (try clear xak31); (try clear xak70); (try clear xas25); (try clear xas31); (try clear xas70); (try clear xac25); (try clear xac31); (try clear xac70); (try clear xbk25); (try clear xbk31); (try clear xbk70); (try clear xbs25); (try clear xbs31); (try clear xbs70); (try clear xbc25); (try clear xbc31); (try clear xbc70); simp only [vp_in_iff, Int32.lt_iff_toInt_lt, Int32.le_iff_toInt_le, ← Int32.toInt_inj, Int32.toInt_add, Int32.toInt_sub, Int32.toInt_mul, Int32.toInt_neg, pq_NuO, pq_NuI, pq_NuJ, pq_NuR, pq_shr6, pq_shr7, pq_shr8, lqm1, lq0, lq1, lq2, lq3, lq4] at *; (try simp (disch := omega) only [pq_bm] at *); all_goals omega))
      · skip
        refine pq_iload F dX7_find_59 rfl ?_
        refine pq_if_ge (tgt := 81) F dX7_find_61 (by decide) (fun c61 => ?_) (fun c61 => ?_)
        · exact False.elim (by focus ((try clear xak); (try clear xas); (try clear xac); (try clear xbk); (try clear xbs); (try clear xbc); (try clear p14); (try clear p25); (try clear p31); (try clear p70); (try clear q6); (try clear q7); (try clear q8); (try clear z5); (try clear z6); (try clear z7); (try clear z8); (try clear xak25); (try clear xak31); (try clear xak70); (try clear xas25); (try clear xas31); (try clear xas70); (try clear xac25); (try clear xac31); (try clear xac70); (try clear xbk25); (try clear xbk31); (try clear xbk70); (try clear xbs25); (try clear xbs31); (try clear xbs70); (try clear xbc25); (try clear xbc31); (try clear xbc70); simp only [vp_in_iff, Int32.lt_iff_toInt_lt, Int32.le_iff_toInt_le, ← Int32.toInt_inj, Int32.toInt_add, Int32.toInt_sub, Int32.toInt_mul, Int32.toInt_neg, pq_NuO, pq_NuI, pq_NuJ, pq_NuR, pq_shr6, pq_shr7, pq_shr8, lqm1, lq0, lq1, lq2, lq3, lq4] at *; (try simp (disch := omega) only [pq_bm] at *); all_goals omega))
        · skip
          refine pq_aload_n F dX7_find_64 rfl rfl ?_
          refine pq_iload F dX7_find_65 rfl ?_
          refine pq_aload_n F dX7_find_67 rfl rfl ?_
          refine pq_aload_n F dX7_find_68 rfl rfl ?_
          refine pq_iload_n F dX7_find_69 rfl rfl ?_
          refine pq_callV (As := [_, _, _, _]) F (k_X7_visitY1 l D cy _ _ ?_ _ _ ?_ _ ?_ _ pr2 og2 sn2 lb q0.1.1 q0.1.2 q0.2.1.1 q0.2.1.2 q0.2.2.1 q0.2.2.2 ec31_0_ha_31 hlb_31 ec31_1_ha_31 q5.1 q5.2.1 q5.2.2 zl31 koA stA acA koB stB acB ec31_0_hta_31 ka0_31 ec31_3_hta_31 ka3_31 ec31_2_hta_31 ka2_31 ec31_4_hta_31 ec31_0_htb_31 kb0_31 ec31_3_htb_31 kb3_31 ec31_2_htb_31 kb2_31 ec31_4_htb_31 xak31 xas31 xac31 xbk31 xbs31 xbc31 q4 q6 q8 rfl hkd0 hkd1) ml_X7_53 ha_31 (by decide) rfl (Nat.le_of_ble_eq_true rfl) ⟨Nat.le_of_ble_eq_true rfl, Nat.le_of_ble_eq_true rfl⟩ ⟨by decide, by decide⟩ dX7_find_70 (fun v70 S70 w70 => ?_)
          · exact ha_31
          · exact hta_31
          · exact htb_31
          obtain ⟨hF70, y70, rfl, p70⟩ := w70
          have ha_70 := (hF70.1 _ _ ha_31 (by decide)).1
          have hta_70 := (hF70.1 _ _ hta_31 (by decide)).1
          have htb_70 := (hF70.1 _ _ htb_31 (by decide)).1
          have ka0_70 := (hF70.1 _ _ ka0_31 (by decide)).1
          have ec70_0_hta_70 := hF70.O hta_31 (by decide) (by decide) ec31_0_hta_31
          have ka3_70 := (hF70.1 _ _ ka3_31 (by decide)).1
          have ec70_3_hta_70 := hF70.O hta_31 (by decide) (by decide) ec31_3_hta_31
          have ka2_70 := (hF70.1 _ _ ka2_31 (by decide)).1
          have ec70_2_hta_70 := hF70.O hta_31 (by decide) (by decide) ec31_2_hta_31
          have ec70_4_hta_70 := hF70.O hta_31 (by decide) (by decide) ec31_4_hta_31
          have ec70_5_hta_70 := hF70.O hta_31 (by decide) (by decide) ec31_5_hta_31
          have ec70_6_hta_70 := hF70.O hta_31 (by decide) (by decide) ec31_6_hta_31
          have ec70_7_hta_70 := hF70.O hta_31 (by decide) (by decide) ec31_7_hta_31
          have kb0_70 := (hF70.1 _ _ kb0_31 (by decide)).1
          have ec70_0_htb_70 := hF70.O htb_31 (by decide) (by decide) ec31_0_htb_31
          have kb3_70 := (hF70.1 _ _ kb3_31 (by decide)).1
          have ec70_3_htb_70 := hF70.O htb_31 (by decide) (by decide) ec31_3_htb_31
          have kb2_70 := (hF70.1 _ _ kb2_31 (by decide)).1
          have ec70_2_htb_70 := hF70.O htb_31 (by decide) (by decide) ec31_2_htb_31
          have ec70_4_htb_70 := hF70.O htb_31 (by decide) (by decide) ec31_4_htb_31
          have ec70_5_htb_70 := hF70.O htb_31 (by decide) (by decide) ec31_5_htb_31
          have ec70_6_htb_70 := hF70.O htb_31 (by decide) (by decide) ec31_6_htb_31
          have ec70_7_htb_70 := hF70.O htb_31 (by decide) (by decide) ec31_7_htb_31
          have hlb_70 := (hF70.1 _ _ hlb_31 (by decide)).1
          have ec70_0_ha_70 := hF70.O ha_31 (by decide) (by decide) ec31_0_ha_31
          have htx0_70 := (hF70.1 _ _ htx0_31 (by decide)).1
          have ec70_6_ha_70 := hF70.O ha_31 (by decide) (by decide) ec31_6_ha_31
          have ec70_7_ha_70 := hF70.O ha_31 (by decide) (by decide) ec31_7_ha_31
          have ec70_1_ha_70 := hF70.O ha_31 (by decide) (by decide) ec31_1_ha_31
          have hz_70 := (hF70.1 _ _ q0.1.2 (by decide)).1
          have ec70_2_ha_70 := hF70.O ha_31 (by decide) (by decide) q0.1.1
          have hz_70z := (hF70.1 _ _ q0.2.1.2 (by decide)).1
          have ec70_3_ha_70 := hF70.O ha_31 (by decide) (by decide) q0.2.1.1
          have hz_70zz := (hF70.1 _ _ q0.2.2.2 (by decide)).1
          have ec70_4_ha_70 := hF70.O ha_31 (by decide) (by decide) q0.2.2.1
          have xak70 : ∀ i, i < 128 → hI S70 koA i = 0 := (fun i hi => (congrFun (hF70.I ka0_31 (by decide) (by decide)) i).trans (xak31 i hi))
          have xas70 : hI S70 stA 0 = 0 := (congrFun (hF70.I ka3_31 (by decide) (by decide)) 0).trans xas31
          have xac70 : hI S70 acA 0 = 0 := (congrFun (hF70.I ka2_31 (by decide) (by decide)) 0).trans xac31
          have xbk70 : ∀ i, i < 128 → hI S70 koB i = 0 := (fun i hi => (congrFun (hF70.I kb0_31 (by decide) (by decide)) i).trans (xbk31 i hi))
          have xbs70 : hI S70 stB 0 = 0 := (congrFun (hF70.I kb3_31 (by decide) (by decide)) 0).trans xbs31
          have xbc70 : hI S70 acB 0 = 0 := (congrFun (hF70.I kb2_31 (by decide) (by decide)) 0).trans xbc31
          obtain ⟨yv, z5, z6, z7, z8⟩ := p70
          have nn70 : hN S70 pr2 = 2 := (hF70.1 pr2 164 q0.1.2 (by decide)).2.trans q5.1
          refine pq_istore F dX7_find_73 (by decide) ?_
          by_cases k4 : kd = 4
          · skip
            refine pq_iinc (v := 1) F dX7_find_75 rfl (by decide) (by decide) ?_
            refine pq_goto (tgt := 40) F dX7_find_78 (by decide) ?_
            have yv1 : y70 = 1 := yv.trans (if_pos k4)
            subst yv1
            refine pq_iload F dX7_find_40 rfl ?_
            refine pq_aload_n F dX7_find_42 rfl rfl ?_
            refine pq_get F ha_70 (by decide) lk_X7_50 z5 dX7_find_43 ?_
            refine pq_icmp_ge (tgt := 81) F dX7_find_46 (by decide) (fun c46 => ?_) (fun c46 => ?_)
            · exact False.elim (by focus ((try clear xak); (try clear xas); (try clear xac); (try clear xbk); (try clear xbs); (try clear xbc); (try clear p14); (try clear p25); (try clear p31); (try clear p70); (try clear q6); (try clear q7); (try clear q8); (try clear z5); (try clear z6); (try clear z7); (try clear z8); (try clear xak25); (try clear xak31); (try clear xak70); (try clear xas25); (try clear xas31); (try clear xas70); (try clear xac25); (try clear xac31); (try clear xac70); (try clear xbk25); (try clear xbk31); (try clear xbk70); (try clear xbs25); (try clear xbs31); (try clear xbs70); (try clear xbc25); (try clear xbc31); (try clear xbc70); simp only [vp_in_iff, Int32.lt_iff_toInt_lt, Int32.le_iff_toInt_le, ← Int32.toInt_inj, Int32.toInt_add, Int32.toInt_sub, Int32.toInt_mul, Int32.toInt_neg, pq_NuO, pq_NuI, pq_NuJ, pq_NuR, pq_shr6, pq_shr7, pq_shr8, lqm1, lq0, lq1, lq2, lq3, lq4] at *; (try simp (disch := omega) only [pq_bm] at *); all_goals omega))
            · skip
              refine pq_iload F dX7_find_49 rfl ?_
              refine pq_aload_n F dX7_find_51 rfl rfl ?_
              refine pq_get F ha_70 (by decide) lk_X7_15 ec70_2_ha_70 dX7_find_52 ?_
              refine pq_alen F hz_70 (by decide) rfl dX7_find_55 (fun l55 u55 => ?_)
              have nq55 := nI_toInt (n := hN _ pr2) (Nat.lt_of_le_of_lt u55 (by decide))
              refine pq_icmp_ge (tgt := 81) F dX7_find_56 (by decide) (fun c56 => ?_) (fun c56 => ?_)
              · exact False.elim (by focus ((try clear xak); (try clear xas); (try clear xac); (try clear xbk); (try clear xbs); (try clear xbc); (try clear p14); (try clear p25); (try clear p31); (try clear p70); (try clear q6); (try clear q7); (try clear q8); (try clear z5); (try clear z6); (try clear z7); (try clear z8); (try clear xak25); (try clear xak31); (try clear xak70); (try clear xas25); (try clear xas31); (try clear xas70); (try clear xac25); (try clear xac31); (try clear xac70); (try clear xbk25); (try clear xbk31); (try clear xbk70); (try clear xbs25); (try clear xbs31); (try clear xbs70); (try clear xbc25); (try clear xbc31); (try clear xbc70); simp only [vp_in_iff, Int32.lt_iff_toInt_lt, Int32.le_iff_toInt_le, ← Int32.toInt_inj, Int32.toInt_add, Int32.toInt_sub, Int32.toInt_mul, Int32.toInt_neg, pq_NuO, pq_NuI, pq_NuJ, pq_NuR, pq_shr6, pq_shr7, pq_shr8, lqm1, lq0, lq1, lq2, lq3, lq4] at *; (try simp (disch := omega) only [pq_bm] at *); all_goals omega))
              · skip
                refine pq_iload F dX7_find_59 rfl ?_
                refine pq_if_ge (tgt := 81) F dX7_find_61 (by decide) (fun c61 => ?_) (fun c61 => ?_)
                · skip
                  refine pq_iload F dX7_find_81 rfl ?_
                  refine pq_if_ge (tgt := 88) F dX7_find_83 (by decide) (fun c83 => ?_) (fun c83 => ?_)
                  · skip
                    refine pq_aload_n F dX7_find_88 rfl rfl ?_
                    refine pq_iload F dX7_find_89 rfl ?_
                    refine pq_callV (As := [_]) F (k_X7_writeY l D cy _ _ ?_ _ og2 tx0 (hF70.O ha_31 (by decide) (by decide) q0.2.1.1) (hF70.R q0.2.1.2 (by decide)) z5 ec70_6_ha_70 htx0_70 ec70_7_ha_70 ((hF70.1 og2 165 q0.2.1.2 (by decide)).2.trans q5.2.1) z7 rfl) ml_X7_57 ha_70 (by decide) rfl (Nat.le_of_ble_eq_true rfl) ⟨Nat.le_of_ble_eq_true rfl, Nat.le_of_ble_eq_true rfl⟩ ⟨Nat.le_of_ble_eq_true rfl, Nat.le_of_ble_eq_true rfl⟩ dX7_find_91 (fun v91 S91 w91 => ?_)
                    · exact ha_70
                    obtain ⟨rfl, hF91, p91⟩ := w91
                    have ha_91 := (hF91.1 _ _ ha_70 (by decide)).1
                    have hta_91 := (hF91.1 _ _ hta_70 (by decide)).1
                    have htb_91 := (hF91.1 _ _ htb_70 (by decide)).1
                    have ka0_91 := (hF91.1 _ _ ka0_70 (by decide)).1
                    have ec91_0_hta_91 := hF91.O hta_70 (by decide) (by decide) ec70_0_hta_70
                    have ka3_91 := (hF91.1 _ _ ka3_70 (by decide)).1
                    have ec91_3_hta_91 := hF91.O hta_70 (by decide) (by decide) ec70_3_hta_70
                    have ka2_91 := (hF91.1 _ _ ka2_70 (by decide)).1
                    have ec91_2_hta_91 := hF91.O hta_70 (by decide) (by decide) ec70_2_hta_70
                    have ec91_4_hta_91 := hF91.O hta_70 (by decide) (by decide) ec70_4_hta_70
                    have ec91_5_hta_91 := hF91.O hta_70 (by decide) (by decide) ec70_5_hta_70
                    have ec91_6_hta_91 := hF91.O hta_70 (by decide) (by decide) ec70_6_hta_70
                    have ec91_7_hta_91 := hF91.O hta_70 (by decide) (by decide) ec70_7_hta_70
                    have kb0_91 := (hF91.1 _ _ kb0_70 (by decide)).1
                    have ec91_0_htb_91 := hF91.O htb_70 (by decide) (by decide) ec70_0_htb_70
                    have kb3_91 := (hF91.1 _ _ kb3_70 (by decide)).1
                    have ec91_3_htb_91 := hF91.O htb_70 (by decide) (by decide) ec70_3_htb_70
                    have kb2_91 := (hF91.1 _ _ kb2_70 (by decide)).1
                    have ec91_2_htb_91 := hF91.O htb_70 (by decide) (by decide) ec70_2_htb_70
                    have ec91_4_htb_91 := hF91.O htb_70 (by decide) (by decide) ec70_4_htb_70
                    have ec91_5_htb_91 := hF91.O htb_70 (by decide) (by decide) ec70_5_htb_70
                    have ec91_6_htb_91 := hF91.O htb_70 (by decide) (by decide) ec70_6_htb_70
                    have ec91_7_htb_91 := hF91.O htb_70 (by decide) (by decide) ec70_7_htb_70
                    have hlb_91 := (hF91.1 _ _ hlb_70 (by decide)).1
                    have ec91_0_ha_91 := hF91.O ha_70 (by decide) (by decide) ec70_0_ha_70
                    have ec91_1_ha_91 := hF91.O ha_70 (by decide) (by decide) ec70_1_ha_70
                    have hz_91 := (hF91.1 _ _ hz_70 (by decide)).1
                    have ec91_2_ha_91 := hF91.O ha_70 (by decide) (by decide) ec70_2_ha_70
                    have hz_70z_91 := (hF91.1 _ _ hz_70z (by decide)).1
                    have ec91_3_ha_91 := hF91.O ha_70 (by decide) (by decide) ec70_3_ha_70
                    have hz_70zz_91 := (hF91.1 _ _ hz_70zz (by decide)).1
                    have ec91_4_ha_91 := hF91.O ha_70 (by decide) (by decide) ec70_4_ha_70
                    have ec91_5_ha_91 := hF91.O ha_70 (by decide) (by decide) z5
                    refine pq_aload_n F dX7_find_94 rfl rfl ?_
                    refine pq_get F ha_91 (by decide) lk_X7_29 p91 dX7_find_95 ?_
                    exact pq_iret F hr hlk hA (Nat.le_of_ble_eq_true rfl) (Nat.le_of_ble_eq_true rfl) (⟨(((((pq_Fr.rf.uO ha (by decide)).cm hF25 (by decide)).cm hF31 (by decide)).cm hF70 (by decide)).cm hF91 (by decide)), _, rfl, (by rw [if_neg k3, if_pos k4])⟩) dX7_find_98
                  · exact False.elim (by focus ((try clear xak); (try clear xas); (try clear xac); (try clear xbk); (try clear xbs); (try clear xbc); (try clear p14); (try clear p25); (try clear p31); (try clear p70); (try clear q6); (try clear q7); (try clear q8); (try clear z5); (try clear z6); (try clear z7); (try clear z8); (try clear xak25); (try clear xak31); (try clear xak70); (try clear xas25); (try clear xas31); (try clear xas70); (try clear xac25); (try clear xac31); (try clear xac70); (try clear xbk25); (try clear xbk31); (try clear xbk70); (try clear xbs25); (try clear xbs31); (try clear xbs70); (try clear xbc25); (try clear xbc31); (try clear xbc70); simp only [vp_in_iff, Int32.lt_iff_toInt_lt, Int32.le_iff_toInt_le, ← Int32.toInt_inj, Int32.toInt_add, Int32.toInt_sub, Int32.toInt_mul, Int32.toInt_neg, pq_NuO, pq_NuI, pq_NuJ, pq_NuR, pq_shr6, pq_shr7, pq_shr8, lqm1, lq0, lq1, lq2, lq3, lq4] at *; (try simp (disch := omega) only [pq_bm] at *); all_goals omega))
                · exact False.elim (by focus ((try clear xak); (try clear xas); (try clear xac); (try clear xbk); (try clear xbs); (try clear xbc); (try clear p14); (try clear p25); (try clear p31); (try clear p70); (try clear q6); (try clear q7); (try clear q8); (try clear z5); (try clear z6); (try clear z7); (try clear z8); (try clear xak25); (try clear xak31); (try clear xak70); (try clear xas25); (try clear xas31); (try clear xas70); (try clear xac25); (try clear xac31); (try clear xac70); (try clear xbk25); (try clear xbk31); (try clear xbk70); (try clear xbs25); (try clear xbs31); (try clear xbs70); (try clear xbc25); (try clear xbc31); (try clear xbc70); simp only [vp_in_iff, Int32.lt_iff_toInt_lt, Int32.le_iff_toInt_le, ← Int32.toInt_inj, Int32.toInt_add, Int32.toInt_sub, Int32.toInt_mul, Int32.toInt_neg, pq_NuO, pq_NuI, pq_NuJ, pq_NuR, pq_shr6, pq_shr7, pq_shr8, lqm1, lq0, lq1, lq2, lq3, lq4] at *; (try simp (disch := omega) only [pq_bm] at *); all_goals omega))
          · skip
            refine pq_iinc (v := 1) F dX7_find_75 rfl (by decide) (by decide) ?_
            refine pq_goto (tgt := 40) F dX7_find_78 (by decide) ?_
            have yv1 : y70 = -1 := yv.trans (if_neg k4)
            subst yv1
            refine pq_iload F dX7_find_40 rfl ?_
            refine pq_aload_n F dX7_find_42 rfl rfl ?_
            refine pq_get F ha_70 (by decide) lk_X7_50 z5 dX7_find_43 ?_
            refine pq_icmp_ge (tgt := 81) F dX7_find_46 (by decide) (fun c46 => ?_) (fun c46 => ?_)
            · exact False.elim (by focus ((try clear xak); (try clear xas); (try clear xac); (try clear xbk); (try clear xbs); (try clear xbc); (try clear p14); (try clear p25); (try clear p31); (try clear p70); (try clear q6); (try clear q7); (try clear q8); (try clear z5); (try clear z6); (try clear z7); (try clear z8); (try clear xak25); (try clear xak31); (try clear xak70); (try clear xas25); (try clear xas31); (try clear xas70); (try clear xac25); (try clear xac31); (try clear xac70); (try clear xbk25); (try clear xbk31); (try clear xbk70); (try clear xbs25); (try clear xbs31); (try clear xbs70); (try clear xbc25); (try clear xbc31); (try clear xbc70); simp only [vp_in_iff, Int32.lt_iff_toInt_lt, Int32.le_iff_toInt_le, ← Int32.toInt_inj, Int32.toInt_add, Int32.toInt_sub, Int32.toInt_mul, Int32.toInt_neg, pq_NuO, pq_NuI, pq_NuJ, pq_NuR, pq_shr6, pq_shr7, pq_shr8, lqm1, lq0, lq1, lq2, lq3, lq4] at *; (try simp (disch := omega) only [pq_bm] at *); all_goals omega))
            · skip
              refine pq_iload F dX7_find_49 rfl ?_
              refine pq_aload_n F dX7_find_51 rfl rfl ?_
              refine pq_get F ha_70 (by decide) lk_X7_15 ec70_2_ha_70 dX7_find_52 ?_
              refine pq_alen F hz_70 (by decide) rfl dX7_find_55 (fun l55 u55 => ?_)
              have nq55 := nI_toInt (n := hN _ pr2) (Nat.lt_of_le_of_lt u55 (by decide))
              refine pq_icmp_ge (tgt := 81) F dX7_find_56 (by decide) (fun c56 => ?_) (fun c56 => ?_)
              · exact False.elim (by focus ((try clear xak); (try clear xas); (try clear xac); (try clear xbk); (try clear xbs); (try clear xbc); (try clear p14); (try clear p25); (try clear p31); (try clear p70); (try clear q6); (try clear q7); (try clear q8); (try clear z5); (try clear z6); (try clear z7); (try clear z8); (try clear xak25); (try clear xak31); (try clear xak70); (try clear xas25); (try clear xas31); (try clear xas70); (try clear xac25); (try clear xac31); (try clear xac70); (try clear xbk25); (try clear xbk31); (try clear xbk70); (try clear xbs25); (try clear xbs31); (try clear xbs70); (try clear xbc25); (try clear xbc31); (try clear xbc70); simp only [vp_in_iff, Int32.lt_iff_toInt_lt, Int32.le_iff_toInt_le, ← Int32.toInt_inj, Int32.toInt_add, Int32.toInt_sub, Int32.toInt_mul, Int32.toInt_neg, pq_NuO, pq_NuI, pq_NuJ, pq_NuR, pq_shr6, pq_shr7, pq_shr8, lqm1, lq0, lq1, lq2, lq3, lq4] at *; (try simp (disch := omega) only [pq_bm] at *); all_goals omega))
              · skip
                refine pq_iload F dX7_find_59 rfl ?_
                refine pq_if_ge (tgt := 81) F dX7_find_61 (by decide) (fun c61 => ?_) (fun c61 => ?_)
                · exact False.elim (by focus ((try clear xak); (try clear xas); (try clear xac); (try clear xbk); (try clear xbs); (try clear xbc); (try clear p14); (try clear p25); (try clear p31); (try clear p70); (try clear q6); (try clear q7); (try clear q8); (try clear z5); (try clear z6); (try clear z7); (try clear z8); (try clear xak25); (try clear xak31); (try clear xak70); (try clear xas25); (try clear xas31); (try clear xas70); (try clear xac25); (try clear xac31); (try clear xac70); (try clear xbk25); (try clear xbk31); (try clear xbk70); (try clear xbs25); (try clear xbs31); (try clear xbs70); (try clear xbc25); (try clear xbc31); (try clear xbc70); simp only [vp_in_iff, Int32.lt_iff_toInt_lt, Int32.le_iff_toInt_le, ← Int32.toInt_inj, Int32.toInt_add, Int32.toInt_sub, Int32.toInt_mul, Int32.toInt_neg, pq_NuO, pq_NuI, pq_NuJ, pq_NuR, pq_shr6, pq_shr7, pq_shr8, lqm1, lq0, lq1, lq2, lq3, lq4] at *; (try simp (disch := omega) only [pq_bm] at *); all_goals omega))
                · skip
                  refine pq_aload_n F dX7_find_64 rfl rfl ?_
                  refine pq_iload F dX7_find_65 rfl ?_
                  refine pq_aload_n F dX7_find_67 rfl rfl ?_
                  refine pq_aload_n F dX7_find_68 rfl rfl ?_
                  refine pq_iload_n F dX7_find_69 rfl rfl ?_
                  refine pq_callV (As := [_, _, _, _]) F (k_X7_visitY2 l D cy _ _ ?_ _ _ ?_ _ ?_ _ pr2 og2 sn2 lb (hF70.O ha_31 (by decide) (by decide) q0.1.1) (hF70.R q0.1.2 (by decide)) (hF70.O ha_31 (by decide) (by decide) q0.2.1.1) (hF70.R q0.2.1.2 (by decide)) (hF70.O ha_31 (by decide) (by decide) q0.2.2.1) (hF70.R q0.2.2.2 (by decide)) ec70_0_ha_70 hlb_70 ec70_1_ha_70 ((hF70.1 pr2 164 q0.1.2 (by decide)).2.trans q5.1) ((hF70.1 og2 165 q0.2.1.2 (by decide)).2.trans q5.2.1) (by rw [(hF70.1 sn2 196 q0.2.2.2 (by decide)).2]; exact q5.2.2) ((congrFun (hF70.I hlb_31 (by decide) (by decide)) 0).trans zl31) koA stA acA koB stB acB ec70_0_hta_70 ka0_70 ec70_3_hta_70 ka3_70 ec70_2_hta_70 ka2_70 ec70_4_hta_70 ec70_0_htb_70 kb0_70 ec70_3_htb_70 kb3_70 ec70_2_htb_70 kb2_70 ec70_4_htb_70 xak70 xas70 xac70 xbk70 xbs70 xbc70 z6 z8 rfl) ml_X7_53 ha_70 (by decide) rfl (Nat.le_of_ble_eq_true rfl) ⟨Nat.le_of_ble_eq_true rfl, Nat.le_of_ble_eq_true rfl⟩ ⟨by decide, by decide⟩ dX7_find_70 (fun v70 S70 w70 => ?_)
                  · exact ha_70
                  · exact hta_70
                  · exact htb_70
                  obtain ⟨u70, y70, rfl, p70⟩ := w70
                  rw [u70]
                  try rw [u70] at p70
                  have yv2 := p70
                  refine pq_istore F dX7_find_73 (by decide) ?_
                  refine pq_iinc (v := 1) F dX7_find_75 rfl (by decide) (by decide) ?_
                  refine pq_goto (tgt := 40) F dX7_find_78 (by decide) ?_
                  subst yv2
                  refine pq_iload F dX7_find_40 rfl ?_
                  refine pq_aload_n F dX7_find_42 rfl rfl ?_
                  refine pq_get F ha_70 (by decide) lk_X7_50 z5 dX7_find_43 ?_
                  refine pq_icmp_ge (tgt := 81) F dX7_find_46 (by decide) (fun c46 => ?_) (fun c46 => ?_)
                  · skip
                    refine pq_iload F dX7_find_81 rfl ?_
                    refine pq_if_ge (tgt := 88) F dX7_find_83 (by decide) (fun c83 => ?_) (fun c83 => ?_)
                    · exact False.elim (by focus ((try clear xak); (try clear xas); (try clear xac); (try clear xbk); (try clear xbs); (try clear xbc); (try clear p14); (try clear p25); (try clear p31); (try clear p70); (try clear q6); (try clear q7); (try clear q8); (try clear z5); (try clear z6); (try clear z7); (try clear z8); (try clear xak25); (try clear xak31); (try clear xak70); (try clear xas25); (try clear xas31); (try clear xas70); (try clear xac25); (try clear xac31); (try clear xac70); (try clear xbk25); (try clear xbk31); (try clear xbk70); (try clear xbs25); (try clear xbs31); (try clear xbs70); (try clear xbc25); (try clear xbc31); (try clear xbc70); simp only [vp_in_iff, Int32.lt_iff_toInt_lt, Int32.le_iff_toInt_le, ← Int32.toInt_inj, Int32.toInt_add, Int32.toInt_sub, Int32.toInt_mul, Int32.toInt_neg, pq_NuO, pq_NuI, pq_NuJ, pq_NuR, pq_shr6, pq_shr7, pq_shr8, lqm1, lq0, lq1, lq2, lq3, lq4] at *; (try simp (disch := omega) only [pq_bm] at *); all_goals omega))
                    · skip
                      refine pq_iconst (v := -1) F dX7_find_86 (by decide) ?_
                      exact pq_iret F hr hlk hA (Nat.le_of_ble_eq_true rfl) (Nat.le_of_ble_eq_true rfl) (⟨((((pq_Fr.rf.uO ha (by decide)).cm hF25 (by decide)).cm hF31 (by decide)).cm hF70 (by decide)), _, rfl, (by rw [if_neg k3, if_neg k4])⟩) dX7_find_87
                  · exact False.elim (by focus ((try clear xak); (try clear xas); (try clear xac); (try clear xbk); (try clear xbs); (try clear xbc); (try clear p14); (try clear p25); (try clear p31); (try clear p70); (try clear q6); (try clear q7); (try clear q8); (try clear z5); (try clear z6); (try clear z7); (try clear z8); (try clear xak25); (try clear xak31); (try clear xak70); (try clear xas25); (try clear xas31); (try clear xas70); (try clear xac25); (try clear xac31); (try clear xac70); (try clear xbk25); (try clear xbk31); (try clear xbk70); (try clear xbs25); (try clear xbs31); (try clear xbs70); (try clear xbc25); (try clear xbc31); (try clear xbc70); simp only [vp_in_iff, Int32.lt_iff_toInt_lt, Int32.le_iff_toInt_le, ← Int32.toInt_inj, Int32.toInt_add, Int32.toInt_sub, Int32.toInt_mul, Int32.toInt_neg, pq_NuO, pq_NuI, pq_NuJ, pq_NuR, pq_shr6, pq_shr7, pq_shr8, lqm1, lq0, lq1, lq2, lq3, lq4] at *; (try simp (disch := omega) only [pq_bm] at *); all_goals omega))
  · skip
    refine pq_iconst (v := 0) F dX7_find_20 (by decide) ?_
    exact pq_iret F hr hlk hA (Nat.le_of_ble_eq_true rfl) (Nat.le_of_ble_eq_true rfl) (⟨(pq_Fr.rf.uO ha (by decide)), 0, rfl, (by rw [if_pos (pf_w1 p14.1 c17 ⟨yl14_0, yl14_1⟩)])⟩) dX7_find_21

