set_option maxHeartbeats 4000000 in
set_option maxRecDepth 100000 in
theorem k_X7_visitY1 (l : Launch) (D : va_G) (cy : Nat → ClassId) (S : HS) (a : Nat) (ha : pq_R S a 10) (iv : Int32) (ta : Nat) (hta : pq_R S ta 3) (tb : Nat) (htb : pq_R S tb 33) (kd : Int32) (pr og sn lb : Nat) (fe2 : hO S a 2 = .ref pr) (hpr : pq_R S pr 164) (fe3 : hO S a 3 = .ref og) (hog : pq_R S og 165) (fe4 : hO S a 4 = .ref sn) (hsn : pq_R S sn 196) (fe0 : hO S a 0 = .ref lb) (hlb : pq_R S lb 163) (fe1 : hO S a 1 = .int 1) (l0 : hN S pr = 2) (l1 : hN S og = 2) (l2 : 4 ≤ hN S sn) (zl : hI S lb 0 = 0) (koA stA acA koB stB acB : Nat) (xa0 : hO S ta 0 = .ref koA) (ka0 : pq_R S koA 150) (xa3 : hO S ta 3 = .ref stA) (ka3 : pq_R S stA 152) (xa2 : hO S ta 2 = .ref acA) (ka2 : pq_R S acA 206) (xa4 : hO S ta 4 = .int 1) (xb0 : hO S tb 0 = .ref koB) (kb0 : pq_R S koB 153) (xb3 : hO S tb 3 = .ref stB) (kb3 : pq_R S stB 155) (xb2 : hO S tb 2 = .ref acB) (kb2 : pq_R S acB 207) (xb4 : hO S tb 4 = .int 1) (xak : ∀ i, i < 128 → hI S koA i = 0) (xas : hI S stA 0 = 0) (xac : hI S acA 0 = 0) (xbk : ∀ i, i < 128 → hI S koB i = 0) (xbs : hI S stB 0 = 0) (xbc : hI S acB 0 = 0) (fe5 : hO S a 5 = .int 1) (zp : hI S pr 0 = 0) (zs : hJ S sn 0 = 0) (hiv : iv = 0) (hk0 : 0 ≤ kd.toInt) (hk1 : kd.toInt ≤ 4) : pq_C l D cy yX7_visitFrom cX7_visitFrom 12 (some .int) 2 0 0 S [.ref a, .int iv, .ref ta, .ref tb, .int kd] (fun v S2 => pq_Fr [(196, 0), (164, 0), (165, 0), (10, 5)] S S2 ∧ ∃ x : Int32, v = some (.int x) ∧ (x = (if kd = 4 then 1 else -1) ∧ hO S2 a 5 = .int 2 ∧ hI S2 pr 1 = 0 ∧ hI S2 og 1 = 0 ∧ pq_bs (hJ S2 sn) 0)) := by
  refine pq_start (by decide) (Nat.le_of_ble_eq_true rfl) ?_
  intro p e s m args below meth c A F hr hlk hnm hA
  have lqm1 : (-1 : Int32).toInt = -1 := rfl
  have lq0 : (0 : Int32).toInt = 0 := rfl
  have lq1 : (1 : Int32).toInt = 1 := rfl
  have lq2 : (2 : Int32).toInt = 2 := rfl
  have lq4 : (4 : Int32).toInt = 4 := rfl
  have lq7 : (7 : Int32).toInt = 7 := rfl
  have lq8 : (8 : Int32).toInt = 8 := rfl
  have lq255 : (255 : Int32).toInt = 255 := rfl
  subst hiv
  refine pq_lenF hsn (by decide) rfl (fun ls1 ls2 => ?_)
  refine pq_aload_n F dX7_visitFrom_0 rfl rfl ?_
  refine pq_get F ha (by decide) lk_X7_15 fe2 dX7_visitFrom_1 ?_
  refine pq_iload_n F dX7_visitFrom_4 rfl rfl ?_
  refine pq_iald F hpr (by decide) (by decide) rfl (fun n1_5 n2_5 => (by focus ((try clear xak); (try clear xas); (try clear xac); (try clear xbk); (try clear xbs); (try clear xbc); (try clear zl); (try clear zp); (try clear zs); (try clear p49); (try clear p59); (try clear p81); (try clear g106); (try clear hbs); simp only [vp_in_iff, Int32.lt_iff_toInt_lt, Int32.le_iff_toInt_le, ← Int32.toInt_inj, Int32.toInt_add, Int32.toInt_sub, Int32.toInt_mul, Int32.toInt_neg, pq_NuO, pq_NuI, pq_NuJ, pq_NuR, pq_shr6, pq_shr7, pq_shr8, lqm1, lq0, lq1, lq2, lq4, lq7, lq8, lq255] at *; (try simp (disch := omega) only [pq_bm] at *); all_goals omega))) dX7_visitFrom_5 (fun x5 e5 l5 u5 => ?_)
  have x5e : x5 = 0 := e5.trans zp
  subst x5e
  refine pq_bipush (v := 8) F dX7_visitFrom_6 (by decide) ?_
  refine pq_ishr F dX7_visitFrom_8 ?_
  skip
  refine pq_istore F dX7_visitFrom_9 (by decide) ?_
  refine pq_aload_n F dX7_visitFrom_11 rfl rfl ?_
  refine pq_get F ha (by decide) lk_X7_15 fe2 dX7_visitFrom_12 ?_
  refine pq_iload_n F dX7_visitFrom_15 rfl rfl ?_
  refine pq_iald F hpr (by decide) (by decide) rfl (fun n1_16 n2_16 => (by focus ((try clear xak); (try clear xas); (try clear xac); (try clear xbk); (try clear xbs); (try clear xbc); (try clear zl); (try clear zp); (try clear zs); (try clear p49); (try clear p59); (try clear p81); (try clear g106); (try clear hbs); simp only [vp_in_iff, Int32.lt_iff_toInt_lt, Int32.le_iff_toInt_le, ← Int32.toInt_inj, Int32.toInt_add, Int32.toInt_sub, Int32.toInt_mul, Int32.toInt_neg, pq_NuO, pq_NuI, pq_NuJ, pq_NuR, pq_shr6, pq_shr7, pq_shr8, lqm1, lq0, lq1, lq2, lq4, lq7, lq8, lq255] at *; (try simp (disch := omega) only [pq_bm] at *); all_goals omega))) dX7_visitFrom_16 (fun x16 e16 l16 u16 => ?_)
  have x16e : x16 = 0 := e16.trans zp
  subst x16e
  refine pq_sipush (v := 255) F dX7_visitFrom_17 (by decide) ?_
  refine pq_iand F dX7_visitFrom_20 ?_
  refine pq_istore F dX7_visitFrom_21 (by decide) ?_
  refine pq_iconst (v := 0) F dX7_visitFrom_23 (by decide) ?_
  refine pq_istore F dX7_visitFrom_24 (by decide) ?_
  refine pq_iload F dX7_visitFrom_26 rfl ?_
  refine pq_aload_n F dX7_visitFrom_28 rfl rfl ?_
  refine pq_get F ha (by decide) lk_X7_61 fe1 dX7_visitFrom_29 ?_
  refine pq_icmp_ge (tgt := 181) F dX7_visitFrom_32 (by decide) (fun c32 => ?_) (fun c32 => ?_)
  · exact False.elim (by focus ((try clear xak); (try clear xas); (try clear xac); (try clear xbk); (try clear xbs); (try clear xbc); (try clear zl); (try clear zp); (try clear zs); (try clear p49); (try clear p59); (try clear p81); (try clear g106); (try clear hbs); simp only [vp_in_iff, Int32.lt_iff_toInt_lt, Int32.le_iff_toInt_le, ← Int32.toInt_inj, Int32.toInt_add, Int32.toInt_sub, Int32.toInt_mul, Int32.toInt_neg, pq_NuO, pq_NuI, pq_NuJ, pq_NuR, pq_shr6, pq_shr7, pq_shr8, lqm1, lq0, lq1, lq2, lq4, lq7, lq8, lq255] at *; (try simp (disch := omega) only [pq_bm] at *); all_goals omega))
  · skip
    refine pq_aload_n F dX7_visitFrom_35 rfl rfl ?_
    refine pq_get F ha (by decide) lk_X7_9 fe0 dX7_visitFrom_36 ?_
    refine pq_iload F dX7_visitFrom_39 rfl ?_
    refine pq_iald F hlb (by decide) (by decide) rfl (fun n1_41 n2_41 => (by focus ((try clear xak); (try clear xas); (try clear xac); (try clear xbk); (try clear xbs); (try clear xbc); (try clear zl); (try clear zp); (try clear zs); (try clear p49); (try clear p59); (try clear p81); (try clear g106); (try clear hbs); simp only [vp_in_iff, Int32.lt_iff_toInt_lt, Int32.le_iff_toInt_le, ← Int32.toInt_inj, Int32.toInt_add, Int32.toInt_sub, Int32.toInt_mul, Int32.toInt_neg, pq_NuO, pq_NuI, pq_NuJ, pq_NuR, pq_shr6, pq_shr7, pq_shr8, lqm1, lq0, lq1, lq2, lq4, lq7, lq8, lq255] at *; (try simp (disch := omega) only [pq_bm] at *); all_goals omega))) dX7_visitFrom_41 (fun x41 e41 l41 u41 => ?_)
    have x41e : x41 = 0 := e41.trans zl
    subst x41e
    refine pq_istore F dX7_visitFrom_42 (by decide) ?_
    refine pq_aload_n F dX7_visitFrom_44 rfl rfl ?_
    refine pq_iload F dX7_visitFrom_45 rfl ?_
    refine pq_iload F dX7_visitFrom_47 rfl ?_
    refine pq_callV (As := [_, _]) F (k_X0_stepOfYA l D cy _ _ ?_ _ _ koA stA xa0 ka0 xa3 ka3 xa4 xak xas (by decide) rfl) ml_X7_89 hta (by decide) rfl (Nat.le_of_ble_eq_true rfl) ⟨Nat.le_of_ble_eq_true rfl, Nat.le_of_ble_eq_true rfl⟩ ⟨by decide, by decide⟩ dX7_visitFrom_49 (fun v49 S49 w49 => ?_)
    · exact hta
    obtain ⟨u49, y49, rfl, yl49_0, yl49_1, p49⟩ := w49
    rw [u49]
    try rw [u49] at p49
    subst p49
    refine pq_istore F dX7_visitFrom_52 (by decide) ?_
    refine pq_aload_n F dX7_visitFrom_54 rfl rfl ?_
    refine pq_iload F dX7_visitFrom_55 rfl ?_
    refine pq_iload F dX7_visitFrom_57 rfl ?_
    refine pq_callV (As := [_, _]) F (k_X0_stepOfYB l D cy _ _ ?_ _ _ koB stB xb0 kb0 xb3 kb3 xb4 xbk xbs (by decide) rfl) ml_X7_89 htb (by decide) rfl (Nat.le_of_ble_eq_true rfl) ⟨Nat.le_of_ble_eq_true rfl, Nat.le_of_ble_eq_true rfl⟩ ⟨by decide, by decide⟩ dX7_visitFrom_59 (fun v59 S59 w59 => ?_)
    · exact htb
    obtain ⟨u59, y59, rfl, yl59_0, yl59_1, p59⟩ := w59
    rw [u59]
    try rw [u59] at p59
    subst p59
    refine pq_istore F dX7_visitFrom_62 (by decide) ?_
    refine pq_iload F dX7_visitFrom_64 rfl ?_
    refine pq_bipush (v := 8) F dX7_visitFrom_66 (by decide) ?_
    refine pq_ishl F dX7_visitFrom_68 ?_
    refine pq_iload F dX7_visitFrom_69 rfl ?_
    refine pq_ior F dX7_visitFrom_71 ?_
    have z71 : ((0 : Int32) <<< (8 &&& 31) ||| 0) = 0 := (by decide)
    rw [z71]
    refine pq_istore F dX7_visitFrom_72 (by decide) ?_
    refine pq_aload_n F dX7_visitFrom_74 rfl rfl ?_
    refine pq_get F ha (by decide) lk_X7_21 fe4 dX7_visitFrom_75 ?_
    refine pq_iconst (v := 0) F dX7_visitFrom_78 (by decide) ?_
    refine pq_iload F dX7_visitFrom_79 rfl ?_
    refine pq_lenF hsn (by decide) rfl (fun lna81_0 lnb81_0 => ?_)
    refine pq_callS (As := [_, _, _]) F (k_X10_hasBitY l D cy _ _ 196 ?_ ?_ ?_ _ _ (by omega) (by omega) zs rfl rfl) ml_X7_92 (Nat.le_of_ble_eq_true rfl) ⟨Nat.le_of_ble_eq_true rfl, Nat.le_of_ble_eq_true rfl⟩ ⟨by decide, by decide⟩ dX7_visitFrom_81 (fun v81 S81 w81 => ?_)
    · exact hsn
    · first | decide | omega
    · first | decide | omega
    obtain ⟨u81, y81, rfl, yl81_0, yl81_1, p81⟩ := w81
    rw [u81]
    try rw [u81] at p81
    refine pq_if_ne (tgt := 175) F dX7_visitFrom_84 (by decide) (fun c84 => ?_) (fun c84 => ?_)
    · exact absurd p81 c84
    · skip
      refine pq_aload_n F dX7_visitFrom_87 rfl rfl ?_
      refine pq_get F ha (by decide) lk_X7_50 fe5 dX7_visitFrom_88 ?_
      refine pq_aload_n F dX7_visitFrom_91 rfl rfl ?_
      refine pq_get F ha (by decide) lk_X7_15 fe2 dX7_visitFrom_92 ?_
      refine pq_alen F hpr (by decide) rfl dX7_visitFrom_95 (fun l95 u95 => ?_)
      have nq95 := nI_toInt (n := hN _ pr) (Nat.lt_of_le_of_lt u95 (by decide))
      refine pq_icmp_ge (tgt := 175) F dX7_visitFrom_96 (by decide) (fun c96 => ?_) (fun c96 => ?_)
      · exact False.elim (by focus ((try clear xak); (try clear xas); (try clear xac); (try clear xbk); (try clear xbs); (try clear xbc); (try clear zl); (try clear zp); (try clear zs); (try clear p49); (try clear p59); (try clear p81); (try clear g106); (try clear hbs); simp only [vp_in_iff, Int32.lt_iff_toInt_lt, Int32.le_iff_toInt_le, ← Int32.toInt_inj, Int32.toInt_add, Int32.toInt_sub, Int32.toInt_mul, Int32.toInt_neg, pq_NuO, pq_NuI, pq_NuJ, pq_NuR, pq_shr6, pq_shr7, pq_shr8, lqm1, lq0, lq1, lq2, lq4, lq7, lq8, lq255] at *; (try simp (disch := omega) only [pq_bm] at *); all_goals omega))
      · skip
        refine pq_aload_n F dX7_visitFrom_99 rfl rfl ?_
        refine pq_get F ha (by decide) lk_X7_21 fe4 dX7_visitFrom_100 ?_
        refine pq_iconst (v := 0) F dX7_visitFrom_103 (by decide) ?_
        refine pq_iload F dX7_visitFrom_104 rfl ?_
        refine pq_lenF hsn (by decide) rfl (fun lna106_0 lnb106_0 => ?_)
        refine pq_callS (As := [_, _, _]) F (k_X10_addBitS l D cy _ _ 196 ?_ ?_ ?_ _ ?_ ?_ _ ?_ ?_ ?_) ml_X7_96 (Nat.le_of_ble_eq_true rfl) ⟨Nat.le_of_ble_eq_true rfl, Nat.le_of_ble_eq_true rfl⟩ ⟨by decide, by decide⟩ dX7_visitFrom_106 (fun v106 S106 w106 => ?_)
        · exact hsn
        · first | decide | omega
        · first | decide | omega
        · focus ((try clear xak); (try clear xas); (try clear xac); (try clear xbk); (try clear xbs); (try clear xbc); (try clear zl); (try clear zp); (try clear zs); (try clear p49); (try clear p59); (try clear p81); (try clear g106); (try clear hbs); simp only [vp_in_iff, Int32.lt_iff_toInt_lt, Int32.le_iff_toInt_le, ← Int32.toInt_inj, Int32.toInt_add, Int32.toInt_sub, Int32.toInt_mul, Int32.toInt_neg, pq_NuO, pq_NuI, pq_NuJ, pq_NuR, pq_shr6, pq_shr7, pq_shr8, lqm1, lq0, lq1, lq2, lq4, lq7, lq8, lq255] at *; (try simp (disch := omega) only [pq_bm] at *); all_goals omega)
        · focus ((try clear xak); (try clear xas); (try clear xac); (try clear xbk); (try clear xbs); (try clear xbc); (try clear zl); (try clear zp); (try clear zs); (try clear p49); (try clear p59); (try clear p81); (try clear g106); (try clear hbs); simp only [vp_in_iff, Int32.lt_iff_toInt_lt, Int32.le_iff_toInt_le, ← Int32.toInt_inj, Int32.toInt_add, Int32.toInt_sub, Int32.toInt_mul, Int32.toInt_neg, pq_NuO, pq_NuI, pq_NuJ, pq_NuR, pq_shr6, pq_shr7, pq_shr8, lqm1, lq0, lq1, lq2, lq4, lq7, lq8, lq255] at *; (try simp (disch := omega) only [pq_bm] at *); all_goals omega)
        · focus ((try clear xak); (try clear xas); (try clear xac); (try clear xbk); (try clear xbs); (try clear xbc); (try clear zl); (try clear zp); (try clear zs); (try clear p49); (try clear p59); (try clear p81); (try clear g106); (try clear hbs); simp only [vp_in_iff, Int32.lt_iff_toInt_lt, Int32.le_iff_toInt_le, ← Int32.toInt_inj, Int32.toInt_add, Int32.toInt_sub, Int32.toInt_mul, Int32.toInt_neg, pq_NuO, pq_NuI, pq_NuJ, pq_NuR, pq_shr6, pq_shr7, pq_shr8, lqm1, lq0, lq1, lq2, lq4, lq7, lq8, lq255] at *; (try simp (disch := omega) only [pq_bm] at *); all_goals omega)
        · focus ((try clear xak); (try clear xas); (try clear xac); (try clear xbk); (try clear xbs); (try clear xbc); (try clear zl); (try clear zp); (try clear zs); (try clear p49); (try clear p59); (try clear p81); (try clear g106); (try clear hbs); simp only [vp_in_iff, Int32.lt_iff_toInt_lt, Int32.le_iff_toInt_le, ← Int32.toInt_inj, Int32.toInt_add, Int32.toInt_sub, Int32.toInt_mul, Int32.toInt_neg, pq_NuO, pq_NuI, pq_NuJ, pq_NuR, pq_shr6, pq_shr7, pq_shr8, lqm1, lq0, lq1, lq2, lq4, lq7, lq8, lq255] at *; (try simp (disch := omega) only [pq_bm] at *); all_goals omega)
        · focus ((try clear xak); (try clear xas); (try clear xac); (try clear xbk); (try clear xbs); (try clear xbc); (try clear zl); (try clear zp); (try clear zs); (try clear p49); (try clear p59); (try clear p81); (try clear g106); (try clear hbs); simp only [vp_in_iff, Int32.lt_iff_toInt_lt, Int32.le_iff_toInt_le, ← Int32.toInt_inj, Int32.toInt_add, Int32.toInt_sub, Int32.toInt_mul, Int32.toInt_neg, pq_NuO, pq_NuI, pq_NuJ, pq_NuR, pq_shr6, pq_shr7, pq_shr8, lqm1, lq0, lq1, lq2, lq4, lq7, lq8, lq255] at *; (try simp (disch := omega) only [pq_bm] at *); all_goals omega)
        obtain ⟨rfl, f106, rfl, g106⟩ := w106
        refine pq_aload_n F dX7_visitFrom_109 rfl rfl ?_
        refine pq_get F ha (by decide) lk_X7_15 fe2 dX7_visitFrom_110 ?_
        refine pq_aload_n F dX7_visitFrom_113 rfl rfl ?_
        refine pq_get F ha (by decide) lk_X7_50 fe5 dX7_visitFrom_114 ?_
        refine pq_iload F dX7_visitFrom_117 rfl ?_
        refine pq_iast F hpr (by decide) (by decide) rfl (fun n1_119 n2_119 => (by focus ((try clear xak); (try clear xas); (try clear xac); (try clear xbk); (try clear xbs); (try clear xbc); (try clear zl); (try clear zp); (try clear zs); (try clear p49); (try clear p59); (try clear p81); (try clear g106); (try clear hbs); simp only [vp_in_iff, Int32.lt_iff_toInt_lt, Int32.le_iff_toInt_le, ← Int32.toInt_inj, Int32.toInt_add, Int32.toInt_sub, Int32.toInt_mul, Int32.toInt_neg, pq_NuO, pq_NuI, pq_NuJ, pq_NuR, pq_shr6, pq_shr7, pq_shr8, lqm1, lq0, lq1, lq2, lq4, lq7, lq8, lq255] at *; (try simp (disch := omega) only [pq_bm] at *); all_goals omega))) (⟨(by focus ((try clear xak); (try clear xas); (try clear xac); (try clear xbk); (try clear xbs); (try clear xbc); (try clear zl); (try clear zp); (try clear zs); (try clear p49); (try clear p59); (try clear p81); (try clear g106); (try clear hbs); simp only [vp_in_iff, Int32.lt_iff_toInt_lt, Int32.le_iff_toInt_le, ← Int32.toInt_inj, Int32.toInt_add, Int32.toInt_sub, Int32.toInt_mul, Int32.toInt_neg, pq_NuO, pq_NuI, pq_NuJ, pq_NuR, pq_shr6, pq_shr7, pq_shr8, lqm1, lq0, lq1, lq2, lq4, lq7, lq8, lq255] at *; (try simp (disch := omega) only [pq_bm] at *); all_goals omega)), (by focus ((try clear xak); (try clear xas); (try clear xac); (try clear xbk); (try clear xbs); (try clear xbc); (try clear zl); (try clear zp); (try clear zs); (try clear p49); (try clear p59); (try clear p81); (try clear g106); (try clear hbs); simp only [vp_in_iff, Int32.lt_iff_toInt_lt, Int32.le_iff_toInt_le, ← Int32.toInt_inj, Int32.toInt_add, Int32.toInt_sub, Int32.toInt_mul, Int32.toInt_neg, pq_NuO, pq_NuI, pq_NuJ, pq_NuR, pq_shr6, pq_shr7, pq_shr8, lqm1, lq0, lq1, lq2, lq4, lq7, lq8, lq255] at *; (try simp (disch := omega) only [pq_bm] at *); all_goals omega))⟩) dX7_visitFrom_119 ?_
        refine pq_aload_n F dX7_visitFrom_120 rfl rfl ?_
        refine pq_get F ha (by decide) lk_X7_18 fe3 dX7_visitFrom_121 ?_
        refine pq_aload_n F dX7_visitFrom_124 rfl rfl ?_
        refine pq_get F ha (by decide) lk_X7_50 fe5 dX7_visitFrom_125 ?_
        refine pq_iload_n F dX7_visitFrom_128 rfl rfl ?_
        refine pq_bipush (v := 7) F dX7_visitFrom_129 (by decide) ?_
        refine pq_ishl F dX7_visitFrom_131 ?_
        refine pq_iload F dX7_visitFrom_132 rfl ?_
        refine pq_ior F dX7_visitFrom_134 ?_
        have z134 : ((0 : Int32) <<< (7 &&& 31) ||| 0) = 0 := (by decide)
        rw [z134]
        refine pq_iast F hog (by decide) (by decide) rfl (fun n1_135 n2_135 => (by focus ((try clear xak); (try clear xas); (try clear xac); (try clear xbk); (try clear xbs); (try clear xbc); (try clear zl); (try clear zp); (try clear zs); (try clear p49); (try clear p59); (try clear p81); (try clear g106); (try clear hbs); simp only [vp_in_iff, Int32.lt_iff_toInt_lt, Int32.le_iff_toInt_le, ← Int32.toInt_inj, Int32.toInt_add, Int32.toInt_sub, Int32.toInt_mul, Int32.toInt_neg, pq_NuO, pq_NuI, pq_NuJ, pq_NuR, pq_shr6, pq_shr7, pq_shr8, lqm1, lq0, lq1, lq2, lq4, lq7, lq8, lq255] at *; (try simp (disch := omega) only [pq_bm] at *); all_goals omega))) (⟨pq_any1 _, pq_any2 _⟩) dX7_visitFrom_135 ?_
        refine pq_aload_n F dX7_visitFrom_136 rfl rfl ?_
        refine pq_dup F dX7_visitFrom_137 rfl ?_
        refine pq_get F ha (by decide) lk_X7_50 fe5 dX7_visitFrom_138 ?_
        refine pq_iconst (v := 1) F dX7_visitFrom_141 (by decide) ?_
        refine pq_iadd F dX7_visitFrom_142 ?_
        refine pq_putI F ha (by decide) lp_X7_50 rfl (by focus ((try clear xak); (try clear xas); (try clear xac); (try clear xbk); (try clear xbs); (try clear xbc); (try clear zl); (try clear zp); (try clear zs); (try clear p49); (try clear p59); (try clear p81); (try clear g106); (try clear hbs); simp only [vp_in_iff, Int32.lt_iff_toInt_lt, Int32.le_iff_toInt_le, ← Int32.toInt_inj, Int32.toInt_add, Int32.toInt_sub, Int32.toInt_mul, Int32.toInt_neg, pq_NuO, pq_NuI, pq_NuJ, pq_NuR, pq_shr6, pq_shr7, pq_shr8, lqm1, lq0, lq1, lq2, lq4, lq7, lq8, lq255] at *; (try simp (disch := omega) only [pq_bm] at *); all_goals omega)) (by focus ((try clear xak); (try clear xas); (try clear xac); (try clear xbk); (try clear xbs); (try clear xbc); (try clear zl); (try clear zp); (try clear zs); (try clear p49); (try clear p59); (try clear p81); (try clear g106); (try clear hbs); simp only [vp_in_iff, Int32.lt_iff_toInt_lt, Int32.le_iff_toInt_le, ← Int32.toInt_inj, Int32.toInt_add, Int32.toInt_sub, Int32.toInt_mul, Int32.toInt_neg, pq_NuO, pq_NuI, pq_NuJ, pq_NuR, pq_shr6, pq_shr7, pq_shr8, lqm1, lq0, lq1, lq2, lq4, lq7, lq8, lq255] at *; (try simp (disch := omega) only [pq_bm] at *); all_goals omega)) dX7_visitFrom_143 ?_
        refine pq_iload F dX7_visitFrom_146 rfl ?_
        refine pq_aload_n F dX7_visitFrom_148 rfl rfl ?_
        refine pq_get F hta (by decide) lk_X7_100 (pq_ko xa2 hta ha (by decide)) dX7_visitFrom_149 ?_
        refine pq_iload F dX7_visitFrom_152 rfl ?_
        refine pq_zald F ka2 (by decide) (by decide) rfl (fun n1_154 n2_154 => (by focus ((try clear xak); (try clear xas); (try clear xac); (try clear xbk); (try clear xbs); (try clear xbc); (try clear zl); (try clear zp); (try clear zs); (try clear p49); (try clear p59); (try clear p81); (try clear g106); (try clear hbs); simp only [vp_in_iff, Int32.lt_iff_toInt_lt, Int32.le_iff_toInt_le, ← Int32.toInt_inj, Int32.toInt_add, Int32.toInt_sub, Int32.toInt_mul, Int32.toInt_neg, pq_NuO, pq_NuI, pq_NuJ, pq_NuR, pq_shr6, pq_shr7, pq_shr8, lqm1, lq0, lq1, lq2, lq4, lq7, lq8, lq255] at *; (try simp (disch := omega) only [pq_bm] at *); all_goals omega))) dX7_visitFrom_154 (fun x154 e154 l154 u154 => ?_)
        have x154e : x154 = 0 := e154.trans (by have n1 := pq_nrole ka2 hpr (by decide); have n2 := pq_nrole ka2 hog (by decide); simp only [pq_IuO, pq_IuJ, pq_Iu, pq_JuO, pq_JuI, pq_Ju, pq_RuO, pq_RuJ, pq_RuI, if_true, if_false, n1, n2]; exact xac)
        subst x154e
        refine pq_aload_n F dX7_visitFrom_155 rfl rfl ?_
        refine pq_get F htb (by decide) lk_X7_100 (pq_ko xb2 htb ha (by decide)) dX7_visitFrom_156 ?_
        refine pq_iload F dX7_visitFrom_159 rfl ?_
        refine pq_zald F kb2 (by decide) (by decide) rfl (fun n1_161 n2_161 => (by focus ((try clear xak); (try clear xas); (try clear xac); (try clear xbk); (try clear xbs); (try clear xbc); (try clear zl); (try clear zp); (try clear zs); (try clear p49); (try clear p59); (try clear p81); (try clear g106); (try clear hbs); simp only [vp_in_iff, Int32.lt_iff_toInt_lt, Int32.le_iff_toInt_le, ← Int32.toInt_inj, Int32.toInt_add, Int32.toInt_sub, Int32.toInt_mul, Int32.toInt_neg, pq_NuO, pq_NuI, pq_NuJ, pq_NuR, pq_shr6, pq_shr7, pq_shr8, lqm1, lq0, lq1, lq2, lq4, lq7, lq8, lq255] at *; (try simp (disch := omega) only [pq_bm] at *); all_goals omega))) dX7_visitFrom_161 (fun x161 e161 l161 u161 => ?_)
        have x161e : x161 = 0 := e161.trans (by have n1 := pq_nrole kb2 hpr (by decide); have n2 := pq_nrole kb2 hog (by decide); simp only [pq_IuO, pq_IuJ, pq_Iu, pq_JuO, pq_JuI, pq_Ju, pq_RuO, pq_RuJ, pq_RuI, if_true, if_false, n1, n2]; exact xbc)
        subst x161e
        refine pq_callS (As := [_, _, _]) F (k_X7_isWanted l D cy _ _ _ ?_ ?_ _ ?_ ?_) ml_X7_39 (Nat.le_of_ble_eq_true rfl) ⟨Nat.le_of_ble_eq_true rfl, Nat.le_of_ble_eq_true rfl⟩ ⟨by decide, by decide⟩ dX7_visitFrom_162 (fun v162 S162 w162 => ?_)
        · focus ((try clear xak); (try clear xas); (try clear xac); (try clear xbk); (try clear xbs); (try clear xbc); (try clear zl); (try clear zp); (try clear zs); (try clear p49); (try clear p59); (try clear p81); (try clear g106); (try clear hbs); simp only [vp_in_iff, Int32.lt_iff_toInt_lt, Int32.le_iff_toInt_le, ← Int32.toInt_inj, Int32.toInt_add, Int32.toInt_sub, Int32.toInt_mul, Int32.toInt_neg, pq_NuO, pq_NuI, pq_NuJ, pq_NuR, pq_shr6, pq_shr7, pq_shr8, lqm1, lq0, lq1, lq2, lq4, lq7, lq8, lq255] at *; (try simp (disch := omega) only [pq_bm] at *); all_goals omega)
        · focus ((try clear xak); (try clear xas); (try clear xac); (try clear xbk); (try clear xbs); (try clear xbc); (try clear zl); (try clear zp); (try clear zs); (try clear p49); (try clear p59); (try clear p81); (try clear g106); (try clear hbs); simp only [vp_in_iff, Int32.lt_iff_toInt_lt, Int32.le_iff_toInt_le, ← Int32.toInt_inj, Int32.toInt_add, Int32.toInt_sub, Int32.toInt_mul, Int32.toInt_neg, pq_NuO, pq_NuI, pq_NuJ, pq_NuR, pq_shr6, pq_shr7, pq_shr8, lqm1, lq0, lq1, lq2, lq4, lq7, lq8, lq255] at *; (try simp (disch := omega) only [pq_bm] at *); all_goals omega)
        · focus ((try clear xak); (try clear xas); (try clear xac); (try clear xbk); (try clear xbs); (try clear xbc); (try clear zl); (try clear zp); (try clear zs); (try clear p49); (try clear p59); (try clear p81); (try clear g106); (try clear hbs); simp only [vp_in_iff, Int32.lt_iff_toInt_lt, Int32.le_iff_toInt_le, ← Int32.toInt_inj, Int32.toInt_add, Int32.toInt_sub, Int32.toInt_mul, Int32.toInt_neg, pq_NuO, pq_NuI, pq_NuJ, pq_NuR, pq_shr6, pq_shr7, pq_shr8, lqm1, lq0, lq1, lq2, lq4, lq7, lq8, lq255] at *; (try simp (disch := omega) only [pq_bm] at *); all_goals omega)
        · focus ((try clear xak); (try clear xas); (try clear xac); (try clear xbk); (try clear xbs); (try clear xbc); (try clear zl); (try clear zp); (try clear zs); (try clear p49); (try clear p59); (try clear p81); (try clear g106); (try clear hbs); simp only [vp_in_iff, Int32.lt_iff_toInt_lt, Int32.le_iff_toInt_le, ← Int32.toInt_inj, Int32.toInt_add, Int32.toInt_sub, Int32.toInt_mul, Int32.toInt_neg, pq_NuO, pq_NuI, pq_NuJ, pq_NuR, pq_shr6, pq_shr7, pq_shr8, lqm1, lq0, lq1, lq2, lq4, lq7, lq8, lq255] at *; (try simp (disch := omega) only [pq_bm] at *); all_goals omega)
        obtain ⟨u162, y162, rfl, yl162_0, yl162_1, p162⟩ := w162
        rw [u162]
        try rw [u162] at p162
        refine pq_if_eq (tgt := 175) F dX7_visitFrom_165 (by decide) (fun c165 => ?_) (fun c165 => ?_)
        · skip
          refine pq_iinc (v := 1) F dX7_visitFrom_175 rfl (by decide) (by decide) ?_
          refine pq_goto (tgt := 26) F dX7_visitFrom_178 (by decide) ?_
          refine pq_iload F dX7_visitFrom_26 rfl ?_
          refine pq_aload_n F dX7_visitFrom_28 rfl rfl ?_
          refine pq_get F ha (by decide) lk_X7_61 (pq_kp fe1 (by decide)) dX7_visitFrom_29 ?_
          refine pq_icmp_ge (tgt := 181) F dX7_visitFrom_32 (by decide) (fun c32 => ?_) (fun c32 => ?_)
          · skip
            refine pq_iconst (v := -1) F dX7_visitFrom_181 (by decide) ?_
            exact pq_iret F hr hlk hA (Nat.le_refl _) (Nat.le_refl _) ((by have k4 : ¬ kd = 4 := (fun z => by have e : kd.toInt = 4 := (by rw [z]; rfl); have y1 := p162.2 (by rw [lq0]; right; right; right; right; exact ⟨Or.inr (by omega), rfl, rfl⟩); rw [c165] at y1; exact absurd y1 (by decide)); exact ⟨((((pq_Fr.rf.uJ hsn (by first | decide | exact List.mem_cons_self)).uI hpr (by first | decide | exact List.mem_cons_self)).uI hog (by first | decide | exact List.mem_cons_self)).uO ha (by decide)), _, rfl, (by rw [if_neg k4]), pq_ks, (by have n1 := pq_nrole hpr hog (by decide); simp only [pq_IuO, pq_IuJ, pq_Iu, pq_JuO, pq_JuI, pq_Ju, pq_RuO, pq_RuJ, pq_RuI, if_true, if_false, n1]; exact pk_us), (by simp only [pq_IuO, pq_IuJ, pq_Iu, pq_JuO, pq_JuI, pq_Ju, pq_RuO, pq_RuJ, pq_RuI, if_true, if_false]; exact pk_us), (by simp only [pq_IuO, pq_IuJ, pq_Iu, pq_JuO, pq_JuI, pq_Ju, pq_RuO, pq_RuJ, pq_RuI, if_true, if_false]; exact g106.2)⟩)) dX7_visitFrom_182
          · exact False.elim (by focus ((try clear xak); (try clear xas); (try clear xac); (try clear xbk); (try clear xbs); (try clear xbc); (try clear zl); (try clear zp); (try clear zs); (try clear p49); (try clear p59); (try clear p81); (try clear g106); (try clear hbs); simp only [vp_in_iff, Int32.lt_iff_toInt_lt, Int32.le_iff_toInt_le, ← Int32.toInt_inj, Int32.toInt_add, Int32.toInt_sub, Int32.toInt_mul, Int32.toInt_neg, pq_NuO, pq_NuI, pq_NuJ, pq_NuR, pq_shr6, pq_shr7, pq_shr8, lqm1, lq0, lq1, lq2, lq4, lq7, lq8, lq255] at *; (try simp (disch := omega) only [pq_bm] at *); all_goals omega))
        · skip
          refine pq_aload_n F dX7_visitFrom_168 rfl rfl ?_
          refine pq_get F ha (by decide) lk_X7_50 pq_ks dX7_visitFrom_169 ?_
          refine pq_iconst (v := 1) F dX7_visitFrom_172 (by decide) ?_
          refine pq_isub F dX7_visitFrom_173 ?_
          exact pq_iret F hr hlk hA (Nat.le_refl _) (Nat.le_refl _) ((by have y1 : y162.toInt = 1 := (by clear p162; focus ((try clear xak); (try clear xas); (try clear xac); (try clear xbk); (try clear xbs); (try clear xbc); (try clear zl); (try clear zp); (try clear zs); (try clear p49); (try clear p59); (try clear p81); (try clear g106); (try clear hbs); simp only [vp_in_iff, Int32.lt_iff_toInt_lt, Int32.le_iff_toInt_le, ← Int32.toInt_inj, Int32.toInt_add, Int32.toInt_sub, Int32.toInt_mul, Int32.toInt_neg, pq_NuO, pq_NuI, pq_NuJ, pq_NuR, pq_shr6, pq_shr7, pq_shr8, lqm1, lq0, lq1, lq2, lq4, lq7, lq8, lq255] at *; (try simp (disch := omega) only [pq_bm] at *); all_goals omega)); have k4 : kd = 4 := Int32.toInt_inj.mp (by have z := p162.1 y1; clear p162; rw [lq0] at z; have e : (4 : Int32).toInt = 4 := rfl; rw [e]; omega); exact ⟨((((pq_Fr.rf.uJ hsn (by first | decide | exact List.mem_cons_self)).uI hpr (by first | decide | exact List.mem_cons_self)).uI hog (by first | decide | exact List.mem_cons_self)).uO ha (by decide)), _, rfl, (by rw [if_pos k4]; decide), pq_ks, (by have n1 := pq_nrole hpr hog (by decide); simp only [pq_IuO, pq_IuJ, pq_Iu, pq_JuO, pq_JuI, pq_Ju, pq_RuO, pq_RuJ, pq_RuI, if_true, if_false, n1]; exact pk_us), (by simp only [pq_IuO, pq_IuJ, pq_Iu, pq_JuO, pq_JuI, pq_Ju, pq_RuO, pq_RuJ, pq_RuI, if_true, if_false]; exact pk_us), (by simp only [pq_IuO, pq_IuJ, pq_Iu, pq_JuO, pq_JuI, pq_Ju, pq_RuO, pq_RuJ, pq_RuI, if_true, if_false]; exact g106.2)⟩)) dX7_visitFrom_174

set_option maxHeartbeats 4000000 in
set_option maxRecDepth 100000 in
theorem k_X7_visitY2 (l : Launch) (D : va_G) (cy : Nat → ClassId) (S : HS) (a : Nat) (ha : pq_R S a 10) (iv : Int32) (ta : Nat) (hta : pq_R S ta 3) (tb : Nat) (htb : pq_R S tb 33) (kd : Int32) (pr og sn lb : Nat) (fe2 : hO S a 2 = .ref pr) (hpr : pq_R S pr 164) (fe3 : hO S a 3 = .ref og) (hog : pq_R S og 165) (fe4 : hO S a 4 = .ref sn) (hsn : pq_R S sn 196) (fe0 : hO S a 0 = .ref lb) (hlb : pq_R S lb 163) (fe1 : hO S a 1 = .int 1) (l0 : hN S pr = 2) (l1 : hN S og = 2) (l2 : 4 ≤ hN S sn) (zl : hI S lb 0 = 0) (koA stA acA koB stB acB : Nat) (xa0 : hO S ta 0 = .ref koA) (ka0 : pq_R S koA 150) (xa3 : hO S ta 3 = .ref stA) (ka3 : pq_R S stA 152) (xa2 : hO S ta 2 = .ref acA) (ka2 : pq_R S acA 206) (xa4 : hO S ta 4 = .int 1) (xb0 : hO S tb 0 = .ref koB) (kb0 : pq_R S koB 153) (xb3 : hO S tb 3 = .ref stB) (kb3 : pq_R S stB 155) (xb2 : hO S tb 2 = .ref acB) (kb2 : pq_R S acB 207) (xb4 : hO S tb 4 = .int 1) (xak : ∀ i, i < 128 → hI S koA i = 0) (xas : hI S stA 0 = 0) (xac : hI S acA 0 = 0) (xbk : ∀ i, i < 128 → hI S koB i = 0) (xbs : hI S stB 0 = 0) (xbc : hI S acB 0 = 0) (zp : hI S pr 1 = 0) (hbs : pq_bs (hJ S sn) 0) (hiv : iv = 1) : pq_C l D cy yX7_visitFrom cX7_visitFrom 12 (some .int) 2 0 0 S [.ref a, .int iv, .ref ta, .ref tb, .int kd] (fun v S2 => S2 = S ∧ ∃ x : Int32, v = some (.int x) ∧ (x = -1)) := by
  refine pq_start (by decide) (Nat.le_of_ble_eq_true rfl) ?_
  intro p e s m args below meth c A F hr hlk hnm hA
  have lqm1 : (-1 : Int32).toInt = -1 := rfl
  have lq0 : (0 : Int32).toInt = 0 := rfl
  have lq1 : (1 : Int32).toInt = 1 := rfl
  have lq2 : (2 : Int32).toInt = 2 := rfl
  have lq4 : (4 : Int32).toInt = 4 := rfl
  have lq7 : (7 : Int32).toInt = 7 := rfl
  have lq8 : (8 : Int32).toInt = 8 := rfl
  have lq255 : (255 : Int32).toInt = 255 := rfl
  subst hiv
  refine pq_lenF hsn (by decide) rfl (fun ls1 ls2 => ?_)
  refine pq_aload_n F dX7_visitFrom_0 rfl rfl ?_
  refine pq_get F ha (by decide) lk_X7_15 fe2 dX7_visitFrom_1 ?_
  refine pq_iload_n F dX7_visitFrom_4 rfl rfl ?_
  refine pq_iald F hpr (by decide) (by decide) rfl (fun n1_5 n2_5 => (by focus ((try clear xak); (try clear xas); (try clear xac); (try clear xbk); (try clear xbs); (try clear xbc); (try clear zl); (try clear zp); (try clear zs); (try clear p49); (try clear p59); (try clear p81); (try clear g106); (try clear hbs); simp only [vp_in_iff, Int32.lt_iff_toInt_lt, Int32.le_iff_toInt_le, ← Int32.toInt_inj, Int32.toInt_add, Int32.toInt_sub, Int32.toInt_mul, Int32.toInt_neg, pq_NuO, pq_NuI, pq_NuJ, pq_NuR, pq_shr6, pq_shr7, pq_shr8, lqm1, lq0, lq1, lq2, lq4, lq7, lq8, lq255] at *; (try simp (disch := omega) only [pq_bm] at *); all_goals omega))) dX7_visitFrom_5 (fun x5 e5 l5 u5 => ?_)
  have x5e : x5 = 0 := e5.trans zp
  subst x5e
  refine pq_bipush (v := 8) F dX7_visitFrom_6 (by decide) ?_
  refine pq_ishr F dX7_visitFrom_8 ?_
  skip
  refine pq_istore F dX7_visitFrom_9 (by decide) ?_
  refine pq_aload_n F dX7_visitFrom_11 rfl rfl ?_
  refine pq_get F ha (by decide) lk_X7_15 fe2 dX7_visitFrom_12 ?_
  refine pq_iload_n F dX7_visitFrom_15 rfl rfl ?_
  refine pq_iald F hpr (by decide) (by decide) rfl (fun n1_16 n2_16 => (by focus ((try clear xak); (try clear xas); (try clear xac); (try clear xbk); (try clear xbs); (try clear xbc); (try clear zl); (try clear zp); (try clear zs); (try clear p49); (try clear p59); (try clear p81); (try clear g106); (try clear hbs); simp only [vp_in_iff, Int32.lt_iff_toInt_lt, Int32.le_iff_toInt_le, ← Int32.toInt_inj, Int32.toInt_add, Int32.toInt_sub, Int32.toInt_mul, Int32.toInt_neg, pq_NuO, pq_NuI, pq_NuJ, pq_NuR, pq_shr6, pq_shr7, pq_shr8, lqm1, lq0, lq1, lq2, lq4, lq7, lq8, lq255] at *; (try simp (disch := omega) only [pq_bm] at *); all_goals omega))) dX7_visitFrom_16 (fun x16 e16 l16 u16 => ?_)
  have x16e : x16 = 0 := e16.trans zp
  subst x16e
  refine pq_sipush (v := 255) F dX7_visitFrom_17 (by decide) ?_
  refine pq_iand F dX7_visitFrom_20 ?_
  refine pq_istore F dX7_visitFrom_21 (by decide) ?_
  refine pq_iconst (v := 0) F dX7_visitFrom_23 (by decide) ?_
  refine pq_istore F dX7_visitFrom_24 (by decide) ?_
  refine pq_iload F dX7_visitFrom_26 rfl ?_
  refine pq_aload_n F dX7_visitFrom_28 rfl rfl ?_
  refine pq_get F ha (by decide) lk_X7_61 fe1 dX7_visitFrom_29 ?_
  refine pq_icmp_ge (tgt := 181) F dX7_visitFrom_32 (by decide) (fun c32 => ?_) (fun c32 => ?_)
  · exact False.elim (by focus ((try clear xak); (try clear xas); (try clear xac); (try clear xbk); (try clear xbs); (try clear xbc); (try clear zl); (try clear zp); (try clear zs); (try clear p49); (try clear p59); (try clear p81); (try clear g106); (try clear hbs); simp only [vp_in_iff, Int32.lt_iff_toInt_lt, Int32.le_iff_toInt_le, ← Int32.toInt_inj, Int32.toInt_add, Int32.toInt_sub, Int32.toInt_mul, Int32.toInt_neg, pq_NuO, pq_NuI, pq_NuJ, pq_NuR, pq_shr6, pq_shr7, pq_shr8, lqm1, lq0, lq1, lq2, lq4, lq7, lq8, lq255] at *; (try simp (disch := omega) only [pq_bm] at *); all_goals omega))
  · skip
    refine pq_aload_n F dX7_visitFrom_35 rfl rfl ?_
    refine pq_get F ha (by decide) lk_X7_9 fe0 dX7_visitFrom_36 ?_
    refine pq_iload F dX7_visitFrom_39 rfl ?_
    refine pq_iald F hlb (by decide) (by decide) rfl (fun n1_41 n2_41 => (by focus ((try clear xak); (try clear xas); (try clear xac); (try clear xbk); (try clear xbs); (try clear xbc); (try clear zl); (try clear zp); (try clear zs); (try clear p49); (try clear p59); (try clear p81); (try clear g106); (try clear hbs); simp only [vp_in_iff, Int32.lt_iff_toInt_lt, Int32.le_iff_toInt_le, ← Int32.toInt_inj, Int32.toInt_add, Int32.toInt_sub, Int32.toInt_mul, Int32.toInt_neg, pq_NuO, pq_NuI, pq_NuJ, pq_NuR, pq_shr6, pq_shr7, pq_shr8, lqm1, lq0, lq1, lq2, lq4, lq7, lq8, lq255] at *; (try simp (disch := omega) only [pq_bm] at *); all_goals omega))) dX7_visitFrom_41 (fun x41 e41 l41 u41 => ?_)
    have x41e : x41 = 0 := e41.trans zl
    subst x41e
    refine pq_istore F dX7_visitFrom_42 (by decide) ?_
    refine pq_aload_n F dX7_visitFrom_44 rfl rfl ?_
    refine pq_iload F dX7_visitFrom_45 rfl ?_
    refine pq_iload F dX7_visitFrom_47 rfl ?_
    refine pq_callV (As := [_, _]) F (k_X0_stepOfYA l D cy _ _ ?_ _ _ koA stA xa0 ka0 xa3 ka3 xa4 xak xas (by decide) rfl) ml_X7_89 hta (by decide) rfl (Nat.le_of_ble_eq_true rfl) ⟨Nat.le_of_ble_eq_true rfl, Nat.le_of_ble_eq_true rfl⟩ ⟨by decide, by decide⟩ dX7_visitFrom_49 (fun v49 S49 w49 => ?_)
    · exact hta
    obtain ⟨u49, y49, rfl, yl49_0, yl49_1, p49⟩ := w49
    rw [u49]
    try rw [u49] at p49
    subst p49
    refine pq_istore F dX7_visitFrom_52 (by decide) ?_
    refine pq_aload_n F dX7_visitFrom_54 rfl rfl ?_
    refine pq_iload F dX7_visitFrom_55 rfl ?_
    refine pq_iload F dX7_visitFrom_57 rfl ?_
    refine pq_callV (As := [_, _]) F (k_X0_stepOfYB l D cy _ _ ?_ _ _ koB stB xb0 kb0 xb3 kb3 xb4 xbk xbs (by decide) rfl) ml_X7_89 htb (by decide) rfl (Nat.le_of_ble_eq_true rfl) ⟨Nat.le_of_ble_eq_true rfl, Nat.le_of_ble_eq_true rfl⟩ ⟨by decide, by decide⟩ dX7_visitFrom_59 (fun v59 S59 w59 => ?_)
    · exact htb
    obtain ⟨u59, y59, rfl, yl59_0, yl59_1, p59⟩ := w59
    rw [u59]
    try rw [u59] at p59
    subst p59
    refine pq_istore F dX7_visitFrom_62 (by decide) ?_
    refine pq_iload F dX7_visitFrom_64 rfl ?_
    refine pq_bipush (v := 8) F dX7_visitFrom_66 (by decide) ?_
    refine pq_ishl F dX7_visitFrom_68 ?_
    refine pq_iload F dX7_visitFrom_69 rfl ?_
    refine pq_ior F dX7_visitFrom_71 ?_
    have z71 : ((0 : Int32) <<< (8 &&& 31) ||| 0) = 0 := (by decide)
    rw [z71]
    refine pq_istore F dX7_visitFrom_72 (by decide) ?_
    refine pq_aload_n F dX7_visitFrom_74 rfl rfl ?_
    refine pq_get F ha (by decide) lk_X7_21 fe4 dX7_visitFrom_75 ?_
    refine pq_iconst (v := 0) F dX7_visitFrom_78 (by decide) ?_
    refine pq_iload F dX7_visitFrom_79 rfl ?_
    refine pq_lenF hsn (by decide) rfl (fun lna81_0 lnb81_0 => ?_)
    refine pq_callS (As := [_, _, _]) F (k_X10_hasBitS l D cy _ _ 196 ?_ ?_ ?_ _ ?_ ?_ _ ?_ ?_ ?_) ml_X7_92 (Nat.le_of_ble_eq_true rfl) ⟨Nat.le_of_ble_eq_true rfl, Nat.le_of_ble_eq_true rfl⟩ ⟨by decide, by decide⟩ dX7_visitFrom_81 (fun v81 S81 w81 => ?_)
    · exact hsn
    · first | decide | omega
    · first | decide | omega
    · focus ((try clear xak); (try clear xas); (try clear xac); (try clear xbk); (try clear xbs); (try clear xbc); (try clear zl); (try clear zp); (try clear zs); (try clear p49); (try clear p59); (try clear p81); (try clear g106); (try clear hbs); simp only [vp_in_iff, Int32.lt_iff_toInt_lt, Int32.le_iff_toInt_le, ← Int32.toInt_inj, Int32.toInt_add, Int32.toInt_sub, Int32.toInt_mul, Int32.toInt_neg, pq_NuO, pq_NuI, pq_NuJ, pq_NuR, pq_shr6, pq_shr7, pq_shr8, lqm1, lq0, lq1, lq2, lq4, lq7, lq8, lq255] at *; (try simp (disch := omega) only [pq_bm] at *); all_goals omega)
    · focus ((try clear xak); (try clear xas); (try clear xac); (try clear xbk); (try clear xbs); (try clear xbc); (try clear zl); (try clear zp); (try clear zs); (try clear p49); (try clear p59); (try clear p81); (try clear g106); (try clear hbs); simp only [vp_in_iff, Int32.lt_iff_toInt_lt, Int32.le_iff_toInt_le, ← Int32.toInt_inj, Int32.toInt_add, Int32.toInt_sub, Int32.toInt_mul, Int32.toInt_neg, pq_NuO, pq_NuI, pq_NuJ, pq_NuR, pq_shr6, pq_shr7, pq_shr8, lqm1, lq0, lq1, lq2, lq4, lq7, lq8, lq255] at *; (try simp (disch := omega) only [pq_bm] at *); all_goals omega)
    · focus ((try clear xak); (try clear xas); (try clear xac); (try clear xbk); (try clear xbs); (try clear xbc); (try clear zl); (try clear zp); (try clear zs); (try clear p49); (try clear p59); (try clear p81); (try clear g106); (try clear hbs); simp only [vp_in_iff, Int32.lt_iff_toInt_lt, Int32.le_iff_toInt_le, ← Int32.toInt_inj, Int32.toInt_add, Int32.toInt_sub, Int32.toInt_mul, Int32.toInt_neg, pq_NuO, pq_NuI, pq_NuJ, pq_NuR, pq_shr6, pq_shr7, pq_shr8, lqm1, lq0, lq1, lq2, lq4, lq7, lq8, lq255] at *; (try simp (disch := omega) only [pq_bm] at *); all_goals omega)
    · focus ((try clear xak); (try clear xas); (try clear xac); (try clear xbk); (try clear xbs); (try clear xbc); (try clear zl); (try clear zp); (try clear zs); (try clear p49); (try clear p59); (try clear p81); (try clear g106); (try clear hbs); simp only [vp_in_iff, Int32.lt_iff_toInt_lt, Int32.le_iff_toInt_le, ← Int32.toInt_inj, Int32.toInt_add, Int32.toInt_sub, Int32.toInt_mul, Int32.toInt_neg, pq_NuO, pq_NuI, pq_NuJ, pq_NuR, pq_shr6, pq_shr7, pq_shr8, lqm1, lq0, lq1, lq2, lq4, lq7, lq8, lq255] at *; (try simp (disch := omega) only [pq_bm] at *); all_goals omega)
    · focus ((try clear xak); (try clear xas); (try clear xac); (try clear xbk); (try clear xbs); (try clear xbc); (try clear zl); (try clear zp); (try clear zs); (try clear p49); (try clear p59); (try clear p81); (try clear g106); (try clear hbs); simp only [vp_in_iff, Int32.lt_iff_toInt_lt, Int32.le_iff_toInt_le, ← Int32.toInt_inj, Int32.toInt_add, Int32.toInt_sub, Int32.toInt_mul, Int32.toInt_neg, pq_NuO, pq_NuI, pq_NuJ, pq_NuR, pq_shr6, pq_shr7, pq_shr8, lqm1, lq0, lq1, lq2, lq4, lq7, lq8, lq255] at *; (try simp (disch := omega) only [pq_bm] at *); all_goals omega)
    obtain ⟨u81, y81, rfl, yl81_0, yl81_1, p81⟩ := w81
    rw [u81]
    try rw [u81] at p81
    refine pq_if_ne (tgt := 175) F dX7_visitFrom_84 (by decide) (fun c84 => ?_) (fun c84 => ?_)
    · skip
      refine pq_iinc (v := 1) F dX7_visitFrom_175 rfl (by decide) (by decide) ?_
      refine pq_goto (tgt := 26) F dX7_visitFrom_178 (by decide) ?_
      refine pq_iload F dX7_visitFrom_26 rfl ?_
      refine pq_aload_n F dX7_visitFrom_28 rfl rfl ?_
      refine pq_get F ha (by decide) lk_X7_61 fe1 dX7_visitFrom_29 ?_
      refine pq_icmp_ge (tgt := 181) F dX7_visitFrom_32 (by decide) (fun c32 => ?_) (fun c32 => ?_)
      · skip
        refine pq_iconst (v := -1) F dX7_visitFrom_181 (by decide) ?_
        exact pq_iret F hr hlk hA (Nat.le_refl _) (Nat.le_refl _) (⟨rfl, _, rfl, rfl⟩) dX7_visitFrom_182
      · exact False.elim (by focus ((try clear xak); (try clear xas); (try clear xac); (try clear xbk); (try clear xbs); (try clear xbc); (try clear zl); (try clear zp); (try clear zs); (try clear p49); (try clear p59); (try clear p81); (try clear g106); (try clear hbs); simp only [vp_in_iff, Int32.lt_iff_toInt_lt, Int32.le_iff_toInt_le, ← Int32.toInt_inj, Int32.toInt_add, Int32.toInt_sub, Int32.toInt_mul, Int32.toInt_neg, pq_NuO, pq_NuI, pq_NuJ, pq_NuR, pq_shr6, pq_shr7, pq_shr8, lqm1, lq0, lq1, lq2, lq4, lq7, lq8, lq255] at *; (try simp (disch := omega) only [pq_bm] at *); all_goals omega))
    · exact absurd hbs (p81 c84)

