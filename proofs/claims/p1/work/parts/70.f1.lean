def pf_us (x : Int64) (y : Int32) : Int64 := (x.toUInt64 >>> (y.toInt64.toUInt64 &&& Int64.toUInt64 63)).toInt64
def pf_mh (f : Nat → Int64) : Nat → Int64
  | 0 => 17
  | k + 1 => 31 * pf_mh f k + (f k ^^^ pf_us (f k) 29)
def pf_mx (f : Nat → Int64) : Int32 := (pf_mh f 7 ^^^ pf_us (pf_mh f 7) 17).toInt32 &&& 1023
theorem pf_mhc {f g : Nat → Int64} : ∀ (k : Nat), (∀ i, i < k → f i = g i) → pf_mh f k = pf_mh g k
  | 0, _ => rfl
  | k + 1, h => by
    show 31 * pf_mh f k + (f k ^^^ pf_us (f k) 29) = 31 * pf_mh g k + (g k ^^^ pf_us (g k) 29)
    rw [pf_mhc k (fun i hi => h i (by omega)), h k (Nat.lt_succ_self k)]
theorem pf_mxc {f g : Nat → Int64} (h : ∀ i, i < 7 → f i = g i) : pf_mx f = pf_mx g := by unfold pf_mx; rw [pf_mhc 7 h]
set_option maxHeartbeats 4000000 in
set_option maxRecDepth 100000 in
theorem k_X11_beginF (l : Launch) (D : va_G) (cy : Nat → ClassId) (S : HS) (a : Nat) (ha : pq_R S a 14) (st : Nat) (x : Int32) (f21 : hO S a 21 = .ref st) (hst : pq_R S st 127) (f6 : hO S a 6 = .int 1) (f23 : hO S a 23 = .int x) : pq_C l D cy yX11_begin cX11_begin 1 (none) 1 0 0 S [.ref a] (fun v S2 => v = none ∧ pq_Fr [(14, 23), (14, 24)] S S2 ∧ (hO S2 a 23 = .int (x + 1) ∧ hO S2 a 24 = .int 0)) := by
  refine pq_start (by decide) (Nat.le_of_ble_eq_true rfl) ?_
  intro p e s m args below meth c A F hr hlk hnm hA
  have lqm1 : (-1 : Int32).toInt = -1 := rfl
  have lq0 : (0 : Int32).toInt = 0 := rfl
  have lq1 : (1 : Int32).toInt = 1 := rfl
  have lq2 : (2 : Int32).toInt = 2 := rfl
  refine pq_lenF hst (by decide) rfl (fun ls1 ls2 => ?_)
  refine pq_aload_n F dX11_begin_0 rfl rfl ?_
  refine pq_get F ha (by decide) lk_X11_115 f21 dX11_begin_1 ?_
  refine pq_alen F hst (by decide) rfl dX11_begin_4 (fun l4 u4 => ?_)
  have nq4 := nI_toInt (n := hN _ st) (Nat.lt_of_le_of_lt u4 (by decide))
  refine pq_aload_n F dX11_begin_5 rfl rfl ?_
  refine pq_get F ha (by decide) lk_X11_7 f6 dX11_begin_6 ?_
  refine pq_iconst (v := 1) F dX11_begin_9 (by decide) ?_
  refine pq_iadd F dX11_begin_10 ?_
  refine pq_icmp_ge (tgt := 43) F dX11_begin_11 (by decide) (fun c11 => ?_) (fun c11 => ?_)
  · skip
    refine pq_aload_n F dX11_begin_43 rfl rfl ?_
    refine pq_dup F dX11_begin_44 rfl ?_
    refine pq_get F ha (by decide) lk_X11_118 f23 dX11_begin_45 ?_
    refine pq_iconst (v := 1) F dX11_begin_48 (by decide) ?_
    refine pq_iadd F dX11_begin_49 ?_
    refine pq_putI F ha (by decide) lp_X11_118 rfl (pq_any1 _) (pq_any2 _) dX11_begin_50 ?_
    refine pq_aload_n F dX11_begin_53 rfl rfl ?_
    refine pq_iconst (v := 0) F dX11_begin_54 (by decide) ?_
    refine pq_putI F ha (by decide) lp_X11_124 rfl (pq_any1 _) (pq_any2 _) dX11_begin_55 ?_
    exact pq_vret F hr hlk hA (Nat.le_refl _) (Nat.le_refl _) (⟨rfl, ((pq_Fr.rf.uO ha (by decide)).uO ha (by decide)), (pq_kp pq_ks (by decide)), pq_ks⟩) dX11_begin_58
  · exact False.elim (by focus (simp only [vp_in_iff, Int32.lt_iff_toInt_lt, Int32.le_iff_toInt_le, ← Int32.toInt_inj, Int32.toInt_add, Int32.toInt_sub, Int32.toInt_mul, Int32.toInt_neg, pq_NuO, pq_NuI, pq_NuJ, pq_NuR, pq_shr6, pq_shr7, pq_shr8, lqm1, lq0, lq1, lq2] at *; (try simp (disch := omega) only [pq_bm] at *); all_goals omega))

set_option maxHeartbeats 4000000 in
set_option maxRecDepth 100000 in
theorem k_X11_reachF (l : Launch) (D : va_G) (cy : Nat → ClassId) (S : HS) (a : Nat) (ha : pq_R S a 14) (iv : Int32) (hiv0 : 0 ≤ iv.toInt) (hiv1 : iv.toInt ≤ 100) (st sk : Nat) (x pl : Int32) (f21 : hO S a 21 = .ref st) (hst : pq_R S st 127) (f22 : hO S a 22 = .ref sk) (hsk : pq_R S sk 128) (f23 : hO S a 23 = .int x) (f24 : hO S a 24 = .int pl) (hp0 : 0 ≤ pl.toInt) (hp1 : pl.toInt ≤ 100) (hne : hI S st iv.toNatClampNeg ≠ x) : pq_C l D cy yX11_reach cX11_reach 2 (none) 1 0 0 S [.ref a, .int iv] (fun v S2 => v = none ∧ pq_Fr [(127, 0), (128, 0), (14, 24)] S S2 ∧ (hO S2 a 24 = .int (pl + 1) ∧ hI S2 sk pl.toNatClampNeg = iv ∧ hI S2 st iv.toNatClampNeg = x)) := by
  refine pq_start (by decide) (Nat.le_of_ble_eq_true rfl) ?_
  intro p e s m args below meth c A F hr hlk hnm hA
  have lqm1 : (-1 : Int32).toInt = -1 := rfl
  have lq0 : (0 : Int32).toInt = 0 := rfl
  have lq1 : (1 : Int32).toInt = 1 := rfl
  refine pq_lenF hst (by decide) rfl (fun ls1 ls2 => ?_)
  refine pq_lenF hsk (by decide) rfl (fun lk1 lk2 => ?_)
  have n1 := pq_nrole hst hsk (by decide)
  refine pq_aload_n F dX11_reach_0 rfl rfl ?_
  refine pq_get F ha (by decide) lk_X11_115 f21 dX11_reach_1 ?_
  refine pq_iload_n F dX11_reach_4 rfl rfl ?_
  refine pq_iald F hst (by decide) (by decide) rfl (fun n1_5 n2_5 => (by focus ((try clear hne); simp only [vp_in_iff, Int32.lt_iff_toInt_lt, Int32.le_iff_toInt_le, ← Int32.toInt_inj, Int32.toInt_add, Int32.toInt_sub, Int32.toInt_mul, Int32.toInt_neg, pq_NuO, pq_NuI, pq_NuJ, pq_NuR, pq_shr6, pq_shr7, pq_shr8, lqm1, lq0, lq1] at *; (try simp (disch := omega) only [pq_bm] at *); all_goals omega))) dX11_reach_5 (fun x5 e5 l5 u5 => ?_)
  refine pq_aload_n F dX11_reach_6 rfl rfl ?_
  refine pq_get F ha (by decide) lk_X11_118 f23 dX11_reach_7 ?_
  refine pq_icmp_ne (tgt := 14) F dX11_reach_10 (by decide) (fun c10 => ?_) (fun c10 => ?_)
  · skip
    refine pq_aload_n F dX11_reach_14 rfl rfl ?_
    refine pq_get F ha (by decide) lk_X11_115 f21 dX11_reach_15 ?_
    refine pq_iload_n F dX11_reach_18 rfl rfl ?_
    refine pq_aload_n F dX11_reach_19 rfl rfl ?_
    refine pq_get F ha (by decide) lk_X11_118 f23 dX11_reach_20 ?_
    refine pq_iast F hst (by decide) (by decide) rfl (fun n1_23 n2_23 => (by focus ((try clear hne); simp only [vp_in_iff, Int32.lt_iff_toInt_lt, Int32.le_iff_toInt_le, ← Int32.toInt_inj, Int32.toInt_add, Int32.toInt_sub, Int32.toInt_mul, Int32.toInt_neg, pq_NuO, pq_NuI, pq_NuJ, pq_NuR, pq_shr6, pq_shr7, pq_shr8, lqm1, lq0, lq1] at *; (try simp (disch := omega) only [pq_bm] at *); all_goals omega))) (⟨pq_any1 _, pq_any2 _⟩) dX11_reach_23 ?_
    refine pq_aload_n F dX11_reach_24 rfl rfl ?_
    refine pq_get F ha (by decide) lk_X11_121 f22 dX11_reach_25 ?_
    refine pq_aload_n F dX11_reach_28 rfl rfl ?_
    refine pq_get F ha (by decide) lk_X11_124 f24 dX11_reach_29 ?_
    refine pq_iload_n F dX11_reach_32 rfl rfl ?_
    refine pq_iast F hsk (by decide) (by decide) rfl (fun n1_33 n2_33 => (by focus ((try clear hne); simp only [vp_in_iff, Int32.lt_iff_toInt_lt, Int32.le_iff_toInt_le, ← Int32.toInt_inj, Int32.toInt_add, Int32.toInt_sub, Int32.toInt_mul, Int32.toInt_neg, pq_NuO, pq_NuI, pq_NuJ, pq_NuR, pq_shr6, pq_shr7, pq_shr8, lqm1, lq0, lq1] at *; (try simp (disch := omega) only [pq_bm] at *); all_goals omega))) (⟨pq_any1 _, pq_any2 _⟩) dX11_reach_33 ?_
    refine pq_aload_n F dX11_reach_34 rfl rfl ?_
    refine pq_dup F dX11_reach_35 rfl ?_
    refine pq_get F ha (by decide) lk_X11_124 f24 dX11_reach_36 ?_
    refine pq_iconst (v := 1) F dX11_reach_39 (by decide) ?_
    refine pq_iadd F dX11_reach_40 ?_
    refine pq_putI F ha (by decide) lp_X11_124 rfl (pq_any1 _) (pq_any2 _) dX11_reach_41 ?_
    exact pq_vret F hr hlk hA (Nat.le_refl _) (Nat.le_refl _) (⟨rfl, (((pq_Fr.rf.uI hst (by first | decide | exact List.mem_cons_self)).uI hsk (by first | decide | exact List.mem_cons_self)).uO ha (by decide)), pq_ks, (by simp only [pq_IuO, pq_IuJ, pq_Iu, pq_JuO, pq_JuI, pq_Ju, pq_RuO, pq_RuJ, pq_RuI, if_true, if_false]; exact pk_us), (by simp only [pq_IuO, pq_IuJ, pq_Iu, pq_JuO, pq_JuI, pq_Ju, pq_RuO, pq_RuJ, pq_RuI, if_true, if_false, n1]; exact pk_us)⟩) dX11_reach_44
  · exact absurd (e5.symm.trans c10) hne

set_option maxHeartbeats 4000000 in
set_option maxRecDepth 100000 in
theorem k_X11_closureF (l : Launch) (D : va_G) (cy : Nat → ClassId) (S : HS) (a : Nat) (ha : pq_R S a 14) (sk ao aa : Nat) (f24 : hO S a 24 = .int 1) (f22 : hO S a 22 = .ref sk) (hsk : pq_R S sk 128) (f4 : hO S a 4 = .ref ao) (hao : pq_R S ao 120) (f5 : hO S a 5 = .ref aa) (haa : pq_R S aa 121) (hs0 : hI S sk 0 = 0) (h3 : hI S ao 0 = 3) : pq_C l D cy yX11_closure cX11_closure 3 (some .int) 1 0 0 S [.ref a] (fun v S2 => pq_Fr [(14, 24), (14, 26)] S S2 ∧ ∃ x : Int32, v = some (.int x) ∧ (x = hI S aa 0 ∧ hO S2 a 26 = .int 0)) := by
  refine pq_start (by decide) (Nat.le_of_ble_eq_true rfl) ?_
  intro p e s m args below meth c A F hr hlk hnm hA
  have lqm1 : (-1 : Int32).toInt = -1 := rfl
  have lq0 : (0 : Int32).toInt = 0 := rfl
  have lq1 : (1 : Int32).toInt = 1 := rfl
  have lq3 : (3 : Int32).toInt = 3 := rfl
  refine pq_lenF hsk (by decide) rfl (fun lk1 lk2 => ?_)
  refine pq_lenF hao (by decide) rfl (fun lo1 lo2 => ?_)
  refine pq_lenF haa (by decide) rfl (fun la1 la2 => ?_)
  refine pq_iconst (v := -1) F dX11_closure_0 (by decide) ?_
  refine pq_istore_n F dX11_closure_1 rfl (by decide) ?_
  refine pq_aload_n F dX11_closure_2 rfl rfl ?_
  refine pq_iconst (v := 0) F dX11_closure_3 (by decide) ?_
  refine pq_putI F ha (by decide) lp_X11_127 rfl (by focus ((try clear hs0); (try clear h3); simp only [vp_in_iff, Int32.lt_iff_toInt_lt, Int32.le_iff_toInt_le, ← Int32.toInt_inj, Int32.toInt_add, Int32.toInt_sub, Int32.toInt_mul, Int32.toInt_neg, pq_NuO, pq_NuI, pq_NuJ, pq_NuR, pq_shr6, pq_shr7, pq_shr8, lqm1, lq0, lq1, lq3] at *; (try simp (disch := omega) only [pq_bm] at *); all_goals omega)) (by focus ((try clear hs0); (try clear h3); simp only [vp_in_iff, Int32.lt_iff_toInt_lt, Int32.le_iff_toInt_le, ← Int32.toInt_inj, Int32.toInt_add, Int32.toInt_sub, Int32.toInt_mul, Int32.toInt_neg, pq_NuO, pq_NuI, pq_NuJ, pq_NuR, pq_shr6, pq_shr7, pq_shr8, lqm1, lq0, lq1, lq3] at *; (try simp (disch := omega) only [pq_bm] at *); all_goals omega)) dX11_closure_4 ?_
  refine pq_aload_n F dX11_closure_7 rfl rfl ?_
  refine pq_get F ha (by decide) lk_X11_124 (pq_kp f24 (by decide)) dX11_closure_8 ?_
  refine pq_if_le (tgt := 138) F dX11_closure_11 (by decide) (fun c11 => ?_) (fun c11 => ?_)
  · exact False.elim (by focus ((try clear hs0); (try clear h3); simp only [vp_in_iff, Int32.lt_iff_toInt_lt, Int32.le_iff_toInt_le, ← Int32.toInt_inj, Int32.toInt_add, Int32.toInt_sub, Int32.toInt_mul, Int32.toInt_neg, pq_NuO, pq_NuI, pq_NuJ, pq_NuR, pq_shr6, pq_shr7, pq_shr8, lqm1, lq0, lq1, lq3] at *; (try simp (disch := omega) only [pq_bm] at *); all_goals omega))
  · skip
    refine pq_aload_n F dX11_closure_14 rfl rfl ?_
    refine pq_dup F dX11_closure_15 rfl ?_
    refine pq_get F ha (by decide) lk_X11_124 (pq_kp f24 (by decide)) dX11_closure_16 ?_
    refine pq_iconst (v := 1) F dX11_closure_19 (by decide) ?_
    refine pq_isub F dX11_closure_20 ?_
    refine pq_putI F ha (by decide) lp_X11_124 rfl (pq_any1 _) (pq_any2 _) dX11_closure_21 ?_
    refine pq_aload_n F dX11_closure_24 rfl rfl ?_
    refine pq_get F ha (by decide) lk_X11_121 (pq_kp (pq_kp f22 (by decide)) (by decide)) dX11_closure_25 ?_
    refine pq_aload_n F dX11_closure_28 rfl rfl ?_
    refine pq_get F ha (by decide) lk_X11_124 pq_ks dX11_closure_29 ?_
    refine pq_iald F hsk (by decide) (by decide) rfl (fun n1_32 n2_32 => (by focus ((try clear hs0); (try clear h3); simp only [vp_in_iff, Int32.lt_iff_toInt_lt, Int32.le_iff_toInt_le, ← Int32.toInt_inj, Int32.toInt_add, Int32.toInt_sub, Int32.toInt_mul, Int32.toInt_neg, pq_NuO, pq_NuI, pq_NuJ, pq_NuR, pq_shr6, pq_shr7, pq_shr8, lqm1, lq0, lq1, lq3] at *; (try simp (disch := omega) only [pq_bm] at *); all_goals omega))) dX11_closure_32 (fun x32 e32 l32 u32 => ?_)
    have ex32 : x32 = 0 := e32.trans hs0
    subst ex32
    refine pq_istore_n F dX11_closure_33 rfl (by decide) ?_
    refine pq_aload_n F dX11_closure_34 rfl rfl ?_
    refine pq_get F ha (by decide) lk_X11_10 (pq_kp (pq_kp f4 (by decide)) (by decide)) dX11_closure_35 ?_
    refine pq_iload_n F dX11_closure_38 rfl rfl ?_
    refine pq_iald F hao (by decide) (by decide) rfl (fun n1_39 n2_39 => (by focus ((try clear hs0); (try clear h3); simp only [vp_in_iff, Int32.lt_iff_toInt_lt, Int32.le_iff_toInt_le, ← Int32.toInt_inj, Int32.toInt_add, Int32.toInt_sub, Int32.toInt_mul, Int32.toInt_neg, pq_NuO, pq_NuI, pq_NuJ, pq_NuR, pq_shr6, pq_shr7, pq_shr8, lqm1, lq0, lq1, lq3] at *; (try simp (disch := omega) only [pq_bm] at *); all_goals omega))) dX11_closure_39 (fun x39 e39 l39 u39 => ?_)
    refine pq_if_ne (tgt := 71) F dX11_closure_40 (by decide) (fun c40 => ?_) (fun c40 => ?_)
    · skip
      refine pq_aload_n F dX11_closure_71 rfl rfl ?_
      refine pq_get F ha (by decide) lk_X11_10 (pq_kp (pq_kp f4 (by decide)) (by decide)) dX11_closure_72 ?_
      refine pq_iload_n F dX11_closure_75 rfl rfl ?_
      refine pq_iald F hao (by decide) (by decide) rfl (fun n1_76 n2_76 => (by focus ((try clear hs0); (try clear h3); simp only [vp_in_iff, Int32.lt_iff_toInt_lt, Int32.le_iff_toInt_le, ← Int32.toInt_inj, Int32.toInt_add, Int32.toInt_sub, Int32.toInt_mul, Int32.toInt_neg, pq_NuO, pq_NuI, pq_NuJ, pq_NuR, pq_shr6, pq_shr7, pq_shr8, lqm1, lq0, lq1, lq3] at *; (try simp (disch := omega) only [pq_bm] at *); all_goals omega))) dX11_closure_76 (fun x76 e76 l76 u76 => ?_)
      refine pq_iconst (v := 3) F dX11_closure_77 (by decide) ?_
      refine pq_icmp_ne (tgt := 106) F dX11_closure_78 (by decide) (fun c78 => ?_) (fun c78 => ?_)
      · exact absurd (e76.trans h3) c78
      · skip
        refine pq_iload_n F dX11_closure_81 rfl rfl ?_
        refine pq_iconst (v := -1) F dX11_closure_82 (by decide) ?_
        refine pq_icmp_eq (tgt := 96) F dX11_closure_83 (by decide) (fun c83 => ?_) (fun c83 => ?_)
        · skip
          refine pq_aload_n F dX11_closure_96 rfl rfl ?_
          refine pq_get F ha (by decide) lk_X11_20 (pq_kp (pq_kp f5 (by decide)) (by decide)) dX11_closure_97 ?_
          refine pq_iload_n F dX11_closure_100 rfl rfl ?_
          refine pq_iald F haa (by decide) (by decide) rfl (fun n1_101 n2_101 => (by focus ((try clear hs0); (try clear h3); simp only [vp_in_iff, Int32.lt_iff_toInt_lt, Int32.le_iff_toInt_le, ← Int32.toInt_inj, Int32.toInt_add, Int32.toInt_sub, Int32.toInt_mul, Int32.toInt_neg, pq_NuO, pq_NuI, pq_NuJ, pq_NuR, pq_shr6, pq_shr7, pq_shr8, lqm1, lq0, lq1, lq3] at *; (try simp (disch := omega) only [pq_bm] at *); all_goals omega))) dX11_closure_101 (fun x101 e101 l101 u101 => ?_)
          refine pq_istore_n F dX11_closure_102 rfl (by decide) ?_
          refine pq_goto (tgt := 135) F dX11_closure_103 (by decide) ?_
          refine pq_goto (tgt := 7) F dX11_closure_135 (by decide) ?_
          refine pq_aload_n F dX11_closure_7 rfl rfl ?_
          refine pq_get F ha (by decide) lk_X11_124 pq_ks dX11_closure_8 ?_
          refine pq_if_le (tgt := 138) F dX11_closure_11 (by decide) (fun c11 => ?_) (fun c11 => ?_)
          · skip
            refine pq_iload_n F dX11_closure_138 rfl rfl ?_
            exact pq_iret F hr hlk hA (Nat.le_refl _) (Nat.le_refl _) (⟨((pq_Fr.rf.uO ha (by decide)).uO ha (by decide)), _, rfl, e101, (pq_kp (pq_ks) (by decide))⟩) dX11_closure_139
          · exact False.elim (by focus ((try clear hs0); (try clear h3); simp only [vp_in_iff, Int32.lt_iff_toInt_lt, Int32.le_iff_toInt_le, ← Int32.toInt_inj, Int32.toInt_add, Int32.toInt_sub, Int32.toInt_mul, Int32.toInt_neg, pq_NuO, pq_NuI, pq_NuJ, pq_NuR, pq_shr6, pq_shr7, pq_shr8, lqm1, lq0, lq1, lq3] at *; (try simp (disch := omega) only [pq_bm] at *); all_goals omega))
        · exact absurd rfl c83
    · exact absurd (c40.symm.trans (e39.trans h3)) (by decide)

set_option maxHeartbeats 4000000 in
set_option maxRecDepth 100000 in
theorem k_X11_closure0 (l : Launch) (D : va_G) (cy : Nat → ClassId) (S : HS) (a : Nat) (ha : pq_R S a 14) (f24 : hO S a 24 = .int 0) : pq_C l D cy yX11_closure cX11_closure 3 (some .int) 1 0 0 S [.ref a] (fun v S2 => pq_Fr [(14, 26)] S S2 ∧ ∃ x : Int32, v = some (.int x) ∧ (x = -1 ∧ hO S2 a 26 = .int 0)) := by
  refine pq_start (by decide) (Nat.le_of_ble_eq_true rfl) ?_
  intro p e s m args below meth c A F hr hlk hnm hA
  have lqm1 : (-1 : Int32).toInt = -1 := rfl
  have lq0 : (0 : Int32).toInt = 0 := rfl
  have lq1 : (1 : Int32).toInt = 1 := rfl
  have lq3 : (3 : Int32).toInt = 3 := rfl
  refine pq_iconst (v := -1) F dX11_closure_0 (by decide) ?_
  refine pq_istore_n F dX11_closure_1 rfl (by decide) ?_
  refine pq_aload_n F dX11_closure_2 rfl rfl ?_
  refine pq_iconst (v := 0) F dX11_closure_3 (by decide) ?_
  refine pq_putI F ha (by decide) lp_X11_127 rfl (by focus (simp only [vp_in_iff, Int32.lt_iff_toInt_lt, Int32.le_iff_toInt_le, ← Int32.toInt_inj, Int32.toInt_add, Int32.toInt_sub, Int32.toInt_mul, Int32.toInt_neg, pq_NuO, pq_NuI, pq_NuJ, pq_NuR, pq_shr6, pq_shr7, pq_shr8, lqm1, lq0, lq1, lq3] at *; (try simp (disch := omega) only [pq_bm] at *); all_goals omega)) (by focus (simp only [vp_in_iff, Int32.lt_iff_toInt_lt, Int32.le_iff_toInt_le, ← Int32.toInt_inj, Int32.toInt_add, Int32.toInt_sub, Int32.toInt_mul, Int32.toInt_neg, pq_NuO, pq_NuI, pq_NuJ, pq_NuR, pq_shr6, pq_shr7, pq_shr8, lqm1, lq0, lq1, lq3] at *; (try simp (disch := omega) only [pq_bm] at *); all_goals omega)) dX11_closure_4 ?_
  refine pq_aload_n F dX11_closure_7 rfl rfl ?_
  refine pq_get F ha (by decide) lk_X11_124 (pq_kp f24 (by decide)) dX11_closure_8 ?_
  refine pq_if_le (tgt := 138) F dX11_closure_11 (by decide) (fun c11 => ?_) (fun c11 => ?_)
  · skip
    refine pq_iload_n F dX11_closure_138 rfl rfl ?_
    exact pq_iret F hr hlk hA (Nat.le_refl _) (Nat.le_refl _) (⟨(pq_Fr.rf.uO ha (by decide)), _, rfl, rfl, pq_ks⟩) dX11_closure_139
  · exact False.elim (by focus (simp only [vp_in_iff, Int32.lt_iff_toInt_lt, Int32.le_iff_toInt_le, ← Int32.toInt_inj, Int32.toInt_add, Int32.toInt_sub, Int32.toInt_mul, Int32.toInt_neg, pq_NuO, pq_NuI, pq_NuJ, pq_NuR, pq_shr6, pq_shr7, pq_shr8, lqm1, lq0, lq1, lq3] at *; (try simp (disch := omega) only [pq_bm] at *); all_goals omega))

set_option maxHeartbeats 4000000 in
set_option maxRecDepth 100000 in
theorem k_X11_mixtureF (l : Launch) (D : va_G) (cy : Nat → ClassId) (S : HS) (a : Nat) (ha : pq_R S a 14) (bt : Nat) (f28 : hO S a 28 = .ref bt) (hbt : pq_R S bt 183) : pq_C l D cy yX11_mixture cX11_mixture 4 (some .int) 1 0 0 S [.ref a] (fun v S2 => S2 = S ∧ ∃ x : Int32, v = some (.int x) ∧ 0 ≤ x.toInt ∧ x.toInt ≤ 1023 ∧ (x = pf_mx (hJ S bt))) := by
  refine pq_start (by decide) (Nat.le_of_ble_eq_true rfl) ?_
  intro p e s m args below meth c A F hr hlk hnm hA
  have lqm1 : (-1 : Int32).toInt = -1 := rfl
  have lq0 : (0 : Int32).toInt = 0 := rfl
  have lq1 : (1 : Int32).toInt = 1 := rfl
  have lq7 : (7 : Int32).toInt = 7 := rfl
  have lq17 : (17 : Int32).toInt = 17 := rfl
  have lq29 : (29 : Int32).toInt = 29 := rfl
  have lq1023 : (1023 : Int32).toInt = 1023 := rfl
  have L6 : ∀  (fu : Nat)  (j_w : Int64) (k : Int32)  (hk0 : 0 ≤ k.toInt) (hk1 : k.toInt ≤ 7) (hw : j_w = pf_mh (hJ S bt) k.toNatClampNeg), (7 - k.toInt).toNat < fu → pq_At p l e (pq_rm 1 0 0) s m args below meth c (pq_Z below args s D cy S 0 0 (fun v S2 => S2 = S ∧ ∃ x : Int32, v = some (.int x) ∧ 0 ≤ x.toInt ∧ x.toInt ≤ 1023 ∧ (x = pf_mx (hJ S bt)))) D cy A 4 0 0 6 S [some (.ref a), some (.long j_w), none, some (.int k)] [] := by
    intro  fu
    induction fu with
    | zero => intro j_w k hk0 hk1 hw hm; exact absurd hm (Nat.not_lt_zero _)
    | succ fu ih =>
      intro j_w k hk0 hk1 hw hm
      refine pq_iload_n F dX11_mixture_6 rfl rfl ?_
      refine pq_bipush (v := 7) F dX11_mixture_7 (by decide) ?_
      refine pq_icmp_ge (tgt := 41) F dX11_mixture_9 (by decide) (fun c9 => ?_) (fun c9 => ?_)
      · skip
        have ek7 : k.toNatClampNeg = 7 := (by have z1 := pq_cl hk0; focus ((try clear hw); simp only [vp_in_iff, Int32.lt_iff_toInt_lt, Int32.le_iff_toInt_le, ← Int32.toInt_inj, Int32.toInt_add, Int32.toInt_sub, Int32.toInt_mul, Int32.toInt_neg, pq_NuO, pq_NuI, pq_NuJ, pq_NuR, pq_shr6, pq_shr7, pq_shr8, lqm1, lq0, lq1, lq7, lq17, lq29, lq1023] at *; (try simp (disch := omega) only [pq_bm] at *); all_goals omega))
        rw [ek7] at hw
        refine pq_lload_n F dX11_mixture_41 rfl rfl ?_
        refine pq_lload_n F dX11_mixture_42 rfl rfl ?_
        refine pq_bipush (v := 17) F dX11_mixture_43 (by decide) ?_
        refine pq_lushr F dX11_mixture_45 ?_
        refine pq_lxor F dX11_mixture_46 ?_
        refine pq_l2i F dX11_mixture_47 ?_
        refine pq_sipush (v := 1023) F dX11_mixture_48 (by decide) ?_
        refine pq_iand F dX11_mixture_51 ?_
        exact pq_iret F hr hlk hA (Nat.le_refl _) (Nat.le_refl _) (⟨rfl, _, rfl, (pq_and1023 _).1, (pq_and1023 _).2, (by unfold pf_mx; rw [← hw]; rfl)⟩) dX11_mixture_52
      · skip
        refine pq_ldc2 F lc_X11_144 dX11_mixture_12 ?_
        refine pq_lload_n F dX11_mixture_15 rfl rfl ?_
        refine pq_lmul F dX11_mixture_16 ?_
        refine pq_aload_n F dX11_mixture_17 rfl rfl ?_
        refine pq_get F ha (by decide) lk_X11_139 f28 dX11_mixture_18 ?_
        refine pq_iload_n F dX11_mixture_21 rfl rfl ?_
        refine pq_lald F hbt (by decide) (by decide) rfl (fun n1_22 n2_22 => (by focus ((try clear hw); simp only [vp_in_iff, Int32.lt_iff_toInt_lt, Int32.le_iff_toInt_le, ← Int32.toInt_inj, Int32.toInt_add, Int32.toInt_sub, Int32.toInt_mul, Int32.toInt_neg, pq_NuO, pq_NuI, pq_NuJ, pq_NuR, pq_shr6, pq_shr7, pq_shr8, lqm1, lq0, lq1, lq7, lq17, lq29, lq1023] at *; (try simp (disch := omega) only [pq_bm] at *); all_goals omega))) dX11_mixture_22 (fun x22 e22 => ?_)
        refine pq_aload_n F dX11_mixture_23 rfl rfl ?_
        refine pq_get F ha (by decide) lk_X11_139 f28 dX11_mixture_24 ?_
        refine pq_iload_n F dX11_mixture_27 rfl rfl ?_
        refine pq_lald F hbt (by decide) (by decide) rfl (fun n1_28 n2_28 => (by focus ((try clear hw); simp only [vp_in_iff, Int32.lt_iff_toInt_lt, Int32.le_iff_toInt_le, ← Int32.toInt_inj, Int32.toInt_add, Int32.toInt_sub, Int32.toInt_mul, Int32.toInt_neg, pq_NuO, pq_NuI, pq_NuJ, pq_NuR, pq_shr6, pq_shr7, pq_shr8, lqm1, lq0, lq1, lq7, lq17, lq29, lq1023] at *; (try simp (disch := omega) only [pq_bm] at *); all_goals omega))) dX11_mixture_28 (fun x28 e28 => ?_)
        refine pq_bipush (v := 29) F dX11_mixture_29 (by decide) ?_
        refine pq_lushr F dX11_mixture_31 ?_
        refine pq_lxor F dX11_mixture_32 ?_
        refine pq_ladd F dX11_mixture_33 ?_
        refine pq_lstore_n F dX11_mixture_34 rfl (by decide) ?_
        refine pq_iinc (v := 1) F dX11_mixture_35 rfl (by decide) (by decide) ?_
        refine pq_goto (tgt := 6) F dX11_mixture_38 (by decide) ?_
        exact pq_fgm [true, true, false, true] (ih _ _ (by focus ((try clear hw); simp only [vp_in_iff, Int32.lt_iff_toInt_lt, Int32.le_iff_toInt_le, ← Int32.toInt_inj, Int32.toInt_add, Int32.toInt_sub, Int32.toInt_mul, Int32.toInt_neg, pq_NuO, pq_NuI, pq_NuJ, pq_NuR, pq_shr6, pq_shr7, pq_shr8, lqm1, lq0, lq1, lq7, lq17, lq29, lq1023] at *; (try simp (disch := omega) only [pq_bm] at *); all_goals omega)) (by focus ((try clear hw); simp only [vp_in_iff, Int32.lt_iff_toInt_lt, Int32.le_iff_toInt_le, ← Int32.toInt_inj, Int32.toInt_add, Int32.toInt_sub, Int32.toInt_mul, Int32.toInt_neg, pq_NuO, pq_NuI, pq_NuJ, pq_NuR, pq_shr6, pq_shr7, pq_shr8, lqm1, lq0, lq1, lq7, lq17, lq29, lq1023] at *; (try simp (disch := omega) only [pq_bm] at *); all_goals omega)) (by have z1 := pq_cl hk0; have z2 := pq_cl (x := k + 1) (by focus ((try clear hw); simp only [vp_in_iff, Int32.lt_iff_toInt_lt, Int32.le_iff_toInt_le, ← Int32.toInt_inj, Int32.toInt_add, Int32.toInt_sub, Int32.toInt_mul, Int32.toInt_neg, pq_NuO, pq_NuI, pq_NuJ, pq_NuR, pq_shr6, pq_shr7, pq_shr8, lqm1, lq0, lq1, lq7, lq17, lq29, lq1023] at *; (try simp (disch := omega) only [pq_bm] at *); all_goals omega)); rw [show (k + 1).toNatClampNeg = k.toNatClampNeg + 1 by (clear hw; focus ((try clear hw); simp only [vp_in_iff, Int32.lt_iff_toInt_lt, Int32.le_iff_toInt_le, ← Int32.toInt_inj, Int32.toInt_add, Int32.toInt_sub, Int32.toInt_mul, Int32.toInt_neg, pq_NuO, pq_NuI, pq_NuJ, pq_NuR, pq_shr6, pq_shr7, pq_shr8, lqm1, lq0, lq1, lq7, lq17, lq29, lq1023] at *; (try simp (disch := omega) only [pq_bm] at *); all_goals omega))]; show _ = 31 * pf_mh (hJ S bt) k.toNatClampNeg + (hJ S bt k.toNatClampNeg ^^^ pf_us (hJ S bt k.toNatClampNeg) 29); rw [← hw, e22, e28]; rfl) (by focus ((try clear hw); simp only [vp_in_iff, Int32.lt_iff_toInt_lt, Int32.le_iff_toInt_le, ← Int32.toInt_inj, Int32.toInt_add, Int32.toInt_sub, Int32.toInt_mul, Int32.toInt_neg, pq_NuO, pq_NuI, pq_NuJ, pq_NuR, pq_shr6, pq_shr7, pq_shr8, lqm1, lq0, lq1, lq7, lq17, lq29, lq1023] at *; (try simp (disch := omega) only [pq_bm] at *); all_goals omega)))
  refine pq_ldc2 F lc_X11_142 dX11_mixture_0 ?_
  refine pq_lstore_n F dX11_mixture_3 rfl (by decide) ?_
  refine pq_iconst (v := 0) F dX11_mixture_4 (by decide) ?_
  refine pq_istore_n F dX11_mixture_5 rfl (by decide) ?_
  exact pq_fgm [true, true, false, true] (L6  100000 _ _  (by focus ((try clear hw); simp only [vp_in_iff, Int32.lt_iff_toInt_lt, Int32.le_iff_toInt_le, ← Int32.toInt_inj, Int32.toInt_add, Int32.toInt_sub, Int32.toInt_mul, Int32.toInt_neg, pq_NuO, pq_NuI, pq_NuJ, pq_NuR, pq_shr6, pq_shr7, pq_shr8, lqm1, lq0, lq1, lq7, lq17, lq29, lq1023] at *; (try simp (disch := omega) only [pq_bm] at *); all_goals omega)) (by focus ((try clear hw); simp only [vp_in_iff, Int32.lt_iff_toInt_lt, Int32.le_iff_toInt_le, ← Int32.toInt_inj, Int32.toInt_add, Int32.toInt_sub, Int32.toInt_mul, Int32.toInt_neg, pq_NuO, pq_NuI, pq_NuJ, pq_NuR, pq_shr6, pq_shr7, pq_shr8, lqm1, lq0, lq1, lq7, lq17, lq29, lq1023] at *; (try simp (disch := omega) only [pq_bm] at *); all_goals omega)) rfl (by focus ((try clear hw); simp only [vp_in_iff, Int32.lt_iff_toInt_lt, Int32.le_iff_toInt_le, ← Int32.toInt_inj, Int32.toInt_add, Int32.toInt_sub, Int32.toInt_mul, Int32.toInt_neg, pq_NuO, pq_NuI, pq_NuJ, pq_NuR, pq_shr6, pq_shr7, pq_shr8, lqm1, lq0, lq1, lq7, lq17, lq29, lq1023] at *; (try simp (disch := omega) only [pq_bm] at *); all_goals omega)))

