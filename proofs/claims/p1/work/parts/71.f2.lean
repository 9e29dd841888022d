theorem pf_lgc (x : Int64) : lg_cmp x x = 0 := by simp [lg_cmp]
theorem pf_ulS {f : Nat → Int64} {i : Nat} {x : Int64} : vp_updL f i x i = x := by simp [vp_updL]
theorem pf_ulN {f : Nat → Int64} {i j : Nat} {x : Int64} (h : j ≠ i) : vp_updL f i x j = f j := by simp [vp_updL, h]
def pf_h0 : Nat := (pf_mx (fun _ => 0)).toNatClampNeg
theorem pf_h0e {f : Nat → Int64} (h : ∀ i, i < 7 → f i = 0) : (pf_mx f).toNatClampNeg = pf_h0 := by
  unfold pf_h0; rw [pf_mxc (g := fun _ => 0) h]
theorem pf_h0lt : pf_h0 < 1024 := by
  have h := pq_and1023 ((pf_mh (fun _ => 0) 7 ^^^ pf_us (pf_mh (fun _ => 0) 7) 17).toInt32)
  have z := pq_cl h.1
  unfold pf_h0 pf_mx
  have h2 := h.2
  omega
set_option maxHeartbeats 4000000 in
set_option maxRecDepth 100000 in
theorem k_X11_isSetF (l : Launch) (D : va_G) (cy : Nat → ClassId) (S : HS) (a : Nat) (ha : pq_R S a 14) (sv : Int32) (hsv0 : 0 ≤ sv.toInt) (hsv1 : sv.toInt ≤ 400) (se bt : Nat) (f17 : hO S a 17 = .ref se) (hse : pq_R S se 182) (f28 : hO S a 28 = .ref bt) (hbt : pq_R S bt 183) (hq : ∀ i, i < 7 → hJ S se (7 * sv.toInt.toNat + i) = hJ S bt i) : pq_C l D cy yX11_isSet cX11_isSet 3 (some .boolean) 1 0 0 S [.ref a, .int sv] (fun v S2 => S2 = S ∧ ∃ x : Int32, v = some (.int x) ∧ 0 ≤ x.toInt ∧ x.toInt ≤ 1 ∧ (x = 1)) := by
  refine pq_start (by decide) (Nat.le_of_ble_eq_true rfl) ?_
  intro p e s m args below meth c A F hr hlk hnm hA
  have lqm1 : (-1 : Int32).toInt = -1 := rfl
  have lq0 : (0 : Int32).toInt = 0 := rfl
  have lq1 : (1 : Int32).toInt = 1 := rfl
  have lq7 : (7 : Int32).toInt = 7 := rfl
  have L2 : ∀  (fu : Nat)  (k : Int32)  (hk0 : 0 ≤ k.toInt) (hk1 : k.toInt ≤ 7), (7 - k.toInt).toNat < fu → pq_At p l e (pq_rm 1 0 0) s m args below meth c (pq_Z below args s D cy S 0 0 (fun v S2 => S2 = S ∧ ∃ x : Int32, v = some (.int x) ∧ 0 ≤ x.toInt ∧ x.toInt ≤ 1 ∧ (x = 1))) D cy A 3 0 0 2 S [some (.ref a), some (.int sv), some (.int k)] [] := by
    intro  fu
    induction fu with
    | zero => intro k hk0 hk1 hm; exact absurd hm (Nat.not_lt_zero _)
    | succ fu ih =>
      intro k hk0 hk1 hm
      refine pq_iload_n F dX11_isSet_2 rfl rfl ?_
      refine pq_bipush (v := 7) F dX11_isSet_3 (by decide) ?_
      refine pq_icmp_ge (tgt := 37) F dX11_isSet_5 (by decide) (fun c5 => ?_) (fun c5 => ?_)
      · skip
        refine pq_iconst (v := 1) F dX11_isSet_37 (by decide) ?_
        exact pq_zret F hr hlk hA rfl (Nat.le_refl _) (Nat.le_refl _) (⟨rfl, 1, rfl, (by focus ((try clear hq); simp only [vp_in_iff, Int32.lt_iff_toInt_lt, Int32.le_iff_toInt_le, ← Int32.toInt_inj, Int32.toInt_add, Int32.toInt_sub, Int32.toInt_mul, Int32.toInt_neg, pq_NuO, pq_NuI, pq_NuJ, pq_NuR, pq_shr6, pq_shr7, pq_shr8, lqm1, lq0, lq1, lq7] at *; (try simp (disch := omega) only [pq_bm] at *); all_goals omega)), (by focus ((try clear hq); simp only [vp_in_iff, Int32.lt_iff_toInt_lt, Int32.le_iff_toInt_le, ← Int32.toInt_inj, Int32.toInt_add, Int32.toInt_sub, Int32.toInt_mul, Int32.toInt_neg, pq_NuO, pq_NuI, pq_NuJ, pq_NuR, pq_shr6, pq_shr7, pq_shr8, lqm1, lq0, lq1, lq7] at *; (try simp (disch := omega) only [pq_bm] at *); all_goals omega)), rfl⟩) dX11_isSet_38
      · skip
        refine pq_aload_n F dX11_isSet_8 rfl rfl ?_
        refine pq_get F ha (by decide) lk_X11_136 f17 dX11_isSet_9 ?_
        refine pq_bipush (v := 7) F dX11_isSet_12 (by decide) ?_
        refine pq_iload_n F dX11_isSet_14 rfl rfl ?_
        refine pq_imul F dX11_isSet_15 ?_
        refine pq_iload_n F dX11_isSet_16 rfl rfl ?_
        refine pq_iadd F dX11_isSet_17 ?_
        refine pq_lald F hse (by decide) (by decide) rfl (fun n1_18 n2_18 => (by focus ((try clear hq); simp only [vp_in_iff, Int32.lt_iff_toInt_lt, Int32.le_iff_toInt_le, ← Int32.toInt_inj, Int32.toInt_add, Int32.toInt_sub, Int32.toInt_mul, Int32.toInt_neg, pq_NuO, pq_NuI, pq_NuJ, pq_NuR, pq_shr6, pq_shr7, pq_shr8, lqm1, lq0, lq1, lq7] at *; (try simp (disch := omega) only [pq_bm] at *); all_goals omega))) dX11_isSet_18 (fun x18 e18 => ?_)
        refine pq_aload_n F dX11_isSet_19 rfl rfl ?_
        refine pq_get F ha (by decide) lk_X11_139 f28 dX11_isSet_20 ?_
        refine pq_iload_n F dX11_isSet_23 rfl rfl ?_
        refine pq_lald F hbt (by decide) (by decide) rfl (fun n1_24 n2_24 => (by focus ((try clear hq); simp only [vp_in_iff, Int32.lt_iff_toInt_lt, Int32.le_iff_toInt_le, ← Int32.toInt_inj, Int32.toInt_add, Int32.toInt_sub, Int32.toInt_mul, Int32.toInt_neg, pq_NuO, pq_NuI, pq_NuJ, pq_NuR, pq_shr6, pq_shr7, pq_shr8, lqm1, lq0, lq1, lq7] at *; (try simp (disch := omega) only [pq_bm] at *); all_goals omega))) dX11_isSet_24 (fun x24 e24 => ?_)
        refine pq_lcmp F dX11_isSet_25 ?_
        have ek : x18 = x24 := (by rw [e18, e24, ← hq k.toNatClampNeg (by have z2 := pq_cl hk0; focus ((try clear hq); simp only [vp_in_iff, Int32.lt_iff_toInt_lt, Int32.le_iff_toInt_le, ← Int32.toInt_inj, Int32.toInt_add, Int32.toInt_sub, Int32.toInt_mul, Int32.toInt_neg, pq_NuO, pq_NuI, pq_NuJ, pq_NuR, pq_shr6, pq_shr7, pq_shr8, lqm1, lq0, lq1, lq7] at *; (try simp (disch := omega) only [pq_bm] at *); all_goals omega))]; exact congrArg _ (by have z1 := pq_cl (x := 7 * sv + k) (by focus ((try clear hq); simp only [vp_in_iff, Int32.lt_iff_toInt_lt, Int32.le_iff_toInt_le, ← Int32.toInt_inj, Int32.toInt_add, Int32.toInt_sub, Int32.toInt_mul, Int32.toInt_neg, pq_NuO, pq_NuI, pq_NuJ, pq_NuR, pq_shr6, pq_shr7, pq_shr8, lqm1, lq0, lq1, lq7] at *; (try simp (disch := omega) only [pq_bm] at *); all_goals omega)); have z2 := pq_cl hk0; focus ((try clear hq); simp only [vp_in_iff, Int32.lt_iff_toInt_lt, Int32.le_iff_toInt_le, ← Int32.toInt_inj, Int32.toInt_add, Int32.toInt_sub, Int32.toInt_mul, Int32.toInt_neg, pq_NuO, pq_NuI, pq_NuJ, pq_NuR, pq_shr6, pq_shr7, pq_shr8, lqm1, lq0, lq1, lq7] at *; (try simp (disch := omega) only [pq_bm] at *); all_goals omega)))
        subst ek
        refine pq_if_eq (tgt := 31) F dX11_isSet_26 (by decide) (fun c26 => ?_) (fun c26 => ?_)
        · skip
          refine pq_iinc (v := 1) F dX11_isSet_31 rfl (by decide) (by decide) ?_
          refine pq_goto (tgt := 2) F dX11_isSet_34 (by decide) ?_
          exact pq_fgm [true, true, true] (ih _ (by focus ((try clear hq); simp only [vp_in_iff, Int32.lt_iff_toInt_lt, Int32.le_iff_toInt_le, ← Int32.toInt_inj, Int32.toInt_add, Int32.toInt_sub, Int32.toInt_mul, Int32.toInt_neg, pq_NuO, pq_NuI, pq_NuJ, pq_NuR, pq_shr6, pq_shr7, pq_shr8, lqm1, lq0, lq1, lq7] at *; (try simp (disch := omega) only [pq_bm] at *); all_goals omega)) (by focus ((try clear hq); simp only [vp_in_iff, Int32.lt_iff_toInt_lt, Int32.le_iff_toInt_le, ← Int32.toInt_inj, Int32.toInt_add, Int32.toInt_sub, Int32.toInt_mul, Int32.toInt_neg, pq_NuO, pq_NuI, pq_NuJ, pq_NuR, pq_shr6, pq_shr7, pq_shr8, lqm1, lq0, lq1, lq7] at *; (try simp (disch := omega) only [pq_bm] at *); all_goals omega)) (by focus ((try clear hq); simp only [vp_in_iff, Int32.lt_iff_toInt_lt, Int32.le_iff_toInt_le, ← Int32.toInt_inj, Int32.toInt_add, Int32.toInt_sub, Int32.toInt_mul, Int32.toInt_neg, pq_NuO, pq_NuI, pq_NuJ, pq_NuR, pq_shr6, pq_shr7, pq_shr8, lqm1, lq0, lq1, lq7] at *; (try simp (disch := omega) only [pq_bm] at *); all_goals omega)))
        · exact absurd (pf_lgc _) c26
  refine pq_iconst (v := 0) F dX11_isSet_0 (by decide) ?_
  refine pq_istore_n F dX11_isSet_1 rfl (by decide) ?_
  exact pq_fgm [true, true, true] (L2  100000 _  (by focus ((try clear hq); simp only [vp_in_iff, Int32.lt_iff_toInt_lt, Int32.le_iff_toInt_le, ← Int32.toInt_inj, Int32.toInt_add, Int32.toInt_sub, Int32.toInt_mul, Int32.toInt_neg, pq_NuO, pq_NuI, pq_NuJ, pq_NuR, pq_shr6, pq_shr7, pq_shr8, lqm1, lq0, lq1, lq7] at *; (try simp (disch := omega) only [pq_bm] at *); all_goals omega)) (by focus ((try clear hq); simp only [vp_in_iff, Int32.lt_iff_toInt_lt, Int32.le_iff_toInt_le, ← Int32.toInt_inj, Int32.toInt_add, Int32.toInt_sub, Int32.toInt_mul, Int32.toInt_neg, pq_NuO, pq_NuI, pq_NuJ, pq_NuR, pq_shr6, pq_shr7, pq_shr8, lqm1, lq0, lq1, lq7] at *; (try simp (disch := omega) only [pq_bm] at *); all_goals omega)) (by focus ((try clear hq); simp only [vp_in_iff, Int32.lt_iff_toInt_lt, Int32.le_iff_toInt_le, ← Int32.toInt_inj, Int32.toInt_add, Int32.toInt_sub, Int32.toInt_mul, Int32.toInt_neg, pq_NuO, pq_NuI, pq_NuJ, pq_NuR, pq_shr6, pq_shr7, pq_shr8, lqm1, lq0, lq1, lq7] at *; (try simp (disch := omega) only [pq_bm] at *); all_goals omega)))

set_option maxHeartbeats 4000000 in
set_option maxRecDepth 100000 in
theorem k_X11_stateN (l : Launch) (D : va_G) (cy : Nat → ClassId) (S : HS) (a : Nat) (ha : pq_R S a 14) (se bt : Nat) (f17 : hO S a 17 = .ref se) (hse : pq_R S se 182) (f28 : hO S a 28 = .ref bt) (hbt : pq_R S bt 183) (hd ac : Nat) (f29 : hO S a 29 = .ref hd) (hhd : pq_R S hd 131) (f30 : hO S a 30 = .ref ac) (hac : pq_R S ac 132) (hz : ∀ i, i < 7 → hJ S bt i = 0) (f20 : hO S a 20 = .int 1) (hh : hI S hd pf_h0 = -1) : pq_C l D cy yX11_stateOf cX11_stateOf 3 (some .int) 2 0 0 S [.ref a] (fun v S2 => pq_Fr [(182, 0), (132, 0), (131, 0), (14, 20)] S S2 ∧ ∃ x : Int32, v = some (.int x) ∧ (x = 1 ∧ hO S2 a 20 = .int 2 ∧ hI S2 hd pf_h0 = 1 ∧ ∀ i, i < 7 → hJ S2 se (7 + i) = 0)) := by
  refine pq_start (by decide) (Nat.le_of_ble_eq_true rfl) ?_
  intro p e s m args below meth c A F hr hlk hnm hA
  have lqm1 : (-1 : Int32).toInt = -1 := rfl
  have lq0 : (0 : Int32).toInt = 0 := rfl
  have lq1 : (1 : Int32).toInt = 1 := rfl
  have lq7 : (7 : Int32).toInt = 7 := rfl
  have lq400 : (400 : Int32).toInt = 400 := rfl
  have L51 : ∀ (hv : Int32) (hv0 : 0 ≤ hv.toInt) (hv1 : hv.toInt ≤ 1023) (hve : hv.toNatClampNeg = pf_h0) (fu : Nat) (S1 : HS) (k : Int32)  (hF : pq_Fr [(182, 0), (132, 0), (131, 0), (14, 20)] S S1) (hG : pq_Fr [(182, 0)] S S1) (hk0 : 0 ≤ k.toInt) (hk1 : k.toInt ≤ 7) (hq : ∀ i, i < k.toNatClampNeg → hJ S1 se (7 + i) = 0), (7 - k.toInt).toNat < fu → pq_At p l e (pq_rm 2 0 0) s m args below meth c (pq_Z below args s D cy S 0 0 (fun v S2 => pq_Fr [(182, 0), (132, 0), (131, 0), (14, 20)] S S2 ∧ ∃ x : Int32, v = some (.int x) ∧ (x = 1 ∧ hO S2 a 20 = .int 2 ∧ hI S2 hd pf_h0 = 1 ∧ ∀ i, i < 7 → hJ S2 se (7 + i) = 0))) D cy A 3 0 0 51 S1 [some (.ref a), some (.int hv), some (.int k)] [] := by
    intro hv hv0 hv1 hve fu
    induction fu with
    | zero => intro S1 k hF hG hk0 hk1 hq hm; exact absurd hm (Nat.not_lt_zero _)
    | succ fu ih =>
      intro S1 k hF hG hk0 hk1 hq hm
      have haL := hF.R ha (by first | decide | omega)
      have g17 := hG.O ha (by decide) (by decide) f17
      have gse := hG.R hse (by decide)
      have g28 := hG.O ha (by decide) (by decide) f28
      have gbt := hG.R hbt (by decide)
      have g20 := hG.O ha (by decide) (by decide) f20
      have g29 := hG.O ha (by decide) (by decide) f29
      have ghd := hG.R hhd (by decide)
      have g30 := hG.O ha (by decide) (by decide) f30
      have gac := hG.R hac (by decide)
      have gJ : hJ S1 bt = hJ S bt := (hG.2.2 bt 183 hbt (by decide) (by decide)).2.1
      have gI := hG.I hhd (by decide) (by decide)
      have nsb := pq_nrole gse gbt (by decide)
      have nha := pq_nrole ghd gac (by decide)
      refine pq_iload_n F dX11_stateOf_51 rfl rfl ?_
      refine pq_bipush (v := 7) F dX11_stateOf_52 (by decide) ?_
      refine pq_icmp_ge (tgt := 83) F dX11_stateOf_54 (by decide) (fun c54 => ?_) (fun c54 => ?_)
      · skip
        have g17 := hG.O ha (by decide) (by decide) f17
        have gse := hG.R hse (by decide)
        refine pq_aload_n F dX11_stateOf_83 rfl rfl ?_
        refine pq_get F haL (by decide) lk_X11_156 g30 dX11_stateOf_84 ?_
        refine pq_aload_n F dX11_stateOf_87 rfl rfl ?_
        refine pq_get F haL (by decide) lk_X11_159 g20 dX11_stateOf_88 ?_
        refine pq_aload_n F dX11_stateOf_91 rfl rfl ?_
        refine pq_get F haL (by decide) lk_X11_150 g29 dX11_stateOf_92 ?_
        refine pq_iload_n F dX11_stateOf_95 rfl rfl ?_
        refine pq_iald F ghd (by decide) (by decide) rfl (fun n1_96 n2_96 => (by focus ((try clear hz); (try clear hh); (try clear hq); (try clear hG); (try clear p1); (try clear K); (try clear ih); (try clear L51); simp only [vp_in_iff, Int32.lt_iff_toInt_lt, Int32.le_iff_toInt_le, ← Int32.toInt_inj, Int32.toInt_add, Int32.toInt_sub, Int32.toInt_mul, Int32.toInt_neg, pq_NuO, pq_NuI, pq_NuJ, pq_NuR, pq_shr6, pq_shr7, pq_shr8, lqm1, lq0, lq1, lq7, lq400] at *; (try simp (disch := omega) only [pq_bm] at *); all_goals omega))) dX11_stateOf_96 (fun x96 e96 l96 u96 => ?_)
        refine pq_iast F gac (by decide) (by decide) rfl (fun n1_97 n2_97 => (by focus ((try clear hz); (try clear hh); (try clear hq); (try clear hG); (try clear p1); (try clear K); (try clear ih); (try clear L51); simp only [vp_in_iff, Int32.lt_iff_toInt_lt, Int32.le_iff_toInt_le, ← Int32.toInt_inj, Int32.toInt_add, Int32.toInt_sub, Int32.toInt_mul, Int32.toInt_neg, pq_NuO, pq_NuI, pq_NuJ, pq_NuR, pq_shr6, pq_shr7, pq_shr8, lqm1, lq0, lq1, lq7, lq400] at *; (try simp (disch := omega) only [pq_bm] at *); all_goals omega))) (⟨(by focus ((try clear hz); (try clear hh); (try clear hq); (try clear hG); (try clear p1); (try clear K); (try clear ih); (try clear L51); simp only [vp_in_iff, Int32.lt_iff_toInt_lt, Int32.le_iff_toInt_le, ← Int32.toInt_inj, Int32.toInt_add, Int32.toInt_sub, Int32.toInt_mul, Int32.toInt_neg, pq_NuO, pq_NuI, pq_NuJ, pq_NuR, pq_shr6, pq_shr7, pq_shr8, lqm1, lq0, lq1, lq7, lq400] at *; (try simp (disch := omega) only [pq_bm] at *); all_goals omega)), (by focus ((try clear hz); (try clear hh); (try clear hq); (try clear hG); (try clear p1); (try clear K); (try clear ih); (try clear L51); simp only [vp_in_iff, Int32.lt_iff_toInt_lt, Int32.le_iff_toInt_le, ← Int32.toInt_inj, Int32.toInt_add, Int32.toInt_sub, Int32.toInt_mul, Int32.toInt_neg, pq_NuO, pq_NuI, pq_NuJ, pq_NuR, pq_shr6, pq_shr7, pq_shr8, lqm1, lq0, lq1, lq7, lq400] at *; (try simp (disch := omega) only [pq_bm] at *); all_goals omega))⟩) dX11_stateOf_97 ?_
        refine pq_aload_n F dX11_stateOf_98 rfl rfl ?_
        refine pq_get F haL (by decide) lk_X11_150 g29 dX11_stateOf_99 ?_
        refine pq_iload_n F dX11_stateOf_102 rfl rfl ?_
        refine pq_aload_n F dX11_stateOf_103 rfl rfl ?_
        refine pq_get F haL (by decide) lk_X11_159 g20 dX11_stateOf_104 ?_
        refine pq_iast F ghd (by decide) (by decide) rfl (fun n1_107 n2_107 => (by focus ((try clear hz); (try clear hh); (try clear hq); (try clear hG); (try clear p1); (try clear K); (try clear ih); (try clear L51); simp only [vp_in_iff, Int32.lt_iff_toInt_lt, Int32.le_iff_toInt_le, ← Int32.toInt_inj, Int32.toInt_add, Int32.toInt_sub, Int32.toInt_mul, Int32.toInt_neg, pq_NuO, pq_NuI, pq_NuJ, pq_NuR, pq_shr6, pq_shr7, pq_shr8, lqm1, lq0, lq1, lq7, lq400] at *; (try simp (disch := omega) only [pq_bm] at *); all_goals omega))) (⟨(by focus ((try clear hz); (try clear hh); (try clear hq); (try clear hG); (try clear p1); (try clear K); (try clear ih); (try clear L51); simp only [vp_in_iff, Int32.lt_iff_toInt_lt, Int32.le_iff_toInt_le, ← Int32.toInt_inj, Int32.toInt_add, Int32.toInt_sub, Int32.toInt_mul, Int32.toInt_neg, pq_NuO, pq_NuI, pq_NuJ, pq_NuR, pq_shr6, pq_shr7, pq_shr8, lqm1, lq0, lq1, lq7, lq400] at *; (try simp (disch := omega) only [pq_bm] at *); all_goals omega)), (by focus ((try clear hz); (try clear hh); (try clear hq); (try clear hG); (try clear p1); (try clear K); (try clear ih); (try clear L51); simp only [vp_in_iff, Int32.lt_iff_toInt_lt, Int32.le_iff_toInt_le, ← Int32.toInt_inj, Int32.toInt_add, Int32.toInt_sub, Int32.toInt_mul, Int32.toInt_neg, pq_NuO, pq_NuI, pq_NuJ, pq_NuR, pq_shr6, pq_shr7, pq_shr8, lqm1, lq0, lq1, lq7, lq400] at *; (try simp (disch := omega) only [pq_bm] at *); all_goals omega))⟩) dX11_stateOf_107 ?_
        refine pq_aload_n F dX11_stateOf_108 rfl rfl ?_
        refine pq_dup F dX11_stateOf_109 rfl ?_
        refine pq_get F haL (by decide) lk_X11_159 g20 dX11_stateOf_110 ?_
        refine pq_iconst (v := 1) F dX11_stateOf_113 (by decide) ?_
        refine pq_iadd F dX11_stateOf_114 ?_
        refine pq_putI F haL (by decide) lp_X11_159 rfl (by focus ((try clear hz); (try clear hh); (try clear hq); (try clear hG); (try clear p1); (try clear K); (try clear ih); (try clear L51); simp only [vp_in_iff, Int32.lt_iff_toInt_lt, Int32.le_iff_toInt_le, ← Int32.toInt_inj, Int32.toInt_add, Int32.toInt_sub, Int32.toInt_mul, Int32.toInt_neg, pq_NuO, pq_NuI, pq_NuJ, pq_NuR, pq_shr6, pq_shr7, pq_shr8, lqm1, lq0, lq1, lq7, lq400] at *; (try simp (disch := omega) only [pq_bm] at *); all_goals omega)) (by focus ((try clear hz); (try clear hh); (try clear hq); (try clear hG); (try clear p1); (try clear K); (try clear ih); (try clear L51); simp only [vp_in_iff, Int32.lt_iff_toInt_lt, Int32.le_iff_toInt_le, ← Int32.toInt_inj, Int32.toInt_add, Int32.toInt_sub, Int32.toInt_mul, Int32.toInt_neg, pq_NuO, pq_NuI, pq_NuJ, pq_NuR, pq_shr6, pq_shr7, pq_shr8, lqm1, lq0, lq1, lq7, lq400] at *; (try simp (disch := omega) only [pq_bm] at *); all_goals omega)) dX11_stateOf_115 ?_
        refine pq_aload_n F dX11_stateOf_118 rfl rfl ?_
        refine pq_get F haL (by decide) lk_X11_159 pq_ks dX11_stateOf_119 ?_
        refine pq_iconst (v := 1) F dX11_stateOf_122 (by decide) ?_
        refine pq_isub F dX11_stateOf_123 ?_
        exact pq_iret F hr hlk hA (Nat.le_refl _) (Nat.le_refl _) (⟨(((hF.uI gac (by first | decide | exact List.mem_cons_self)).uI ghd (by first | decide | exact List.mem_cons_self)).uO haL (by decide)), _, rfl, (by decide), pq_ks, (by simp only [pq_IuO, pq_IuJ, pq_Iu, pq_JuO, pq_JuI, pq_Ju, pq_RuO, pq_RuJ, pq_RuI, if_true, if_false, nha, hve]; exact pk_us), (fun i hi => hq i (by have z2 := pq_cl hk0; focus ((try clear hz); (try clear hh); (try clear hq); (try clear hG); (try clear p1); (try clear K); (try clear ih); (try clear L51); simp only [vp_in_iff, Int32.lt_iff_toInt_lt, Int32.le_iff_toInt_le, ← Int32.toInt_inj, Int32.toInt_add, Int32.toInt_sub, Int32.toInt_mul, Int32.toInt_neg, pq_NuO, pq_NuI, pq_NuJ, pq_NuR, pq_shr6, pq_shr7, pq_shr8, lqm1, lq0, lq1, lq7, lq400] at *; (try simp (disch := omega) only [pq_bm] at *); all_goals omega)))⟩) dX11_stateOf_124
      · skip
        refine pq_aload_n F dX11_stateOf_57 rfl rfl ?_
        refine pq_get F haL (by decide) lk_X11_136 g17 dX11_stateOf_58 ?_
        refine pq_bipush (v := 7) F dX11_stateOf_61 (by decide) ?_
        refine pq_aload_n F dX11_stateOf_63 rfl rfl ?_
        refine pq_get F haL (by decide) lk_X11_159 g20 dX11_stateOf_64 ?_
        refine pq_imul F dX11_stateOf_67 ?_
        refine pq_iload_n F dX11_stateOf_68 rfl rfl ?_
        refine pq_iadd F dX11_stateOf_69 ?_
        refine pq_aload_n F dX11_stateOf_70 rfl rfl ?_
        refine pq_get F haL (by decide) lk_X11_139 g28 dX11_stateOf_71 ?_
        refine pq_iload_n F dX11_stateOf_74 rfl rfl ?_
        refine pq_lald F gbt (by decide) (by decide) rfl (fun n1_75 n2_75 => (by focus ((try clear hz); (try clear hh); (try clear hq); (try clear hG); (try clear p1); (try clear K); (try clear ih); (try clear L51); simp only [vp_in_iff, Int32.lt_iff_toInt_lt, Int32.le_iff_toInt_le, ← Int32.toInt_inj, Int32.toInt_add, Int32.toInt_sub, Int32.toInt_mul, Int32.toInt_neg, pq_NuO, pq_NuI, pq_NuJ, pq_NuR, pq_shr6, pq_shr7, pq_shr8, lqm1, lq0, lq1, lq7, lq400] at *; (try simp (disch := omega) only [pq_bm] at *); all_goals omega))) dX11_stateOf_75 (fun x75 e75 => ?_)
        refine pq_last F gse (by decide) (by decide) rfl (fun n1_76 n2_76 => (by focus ((try clear hz); (try clear hh); (try clear hq); (try clear hG); (try clear p1); (try clear K); (try clear ih); (try clear L51); simp only [vp_in_iff, Int32.lt_iff_toInt_lt, Int32.le_iff_toInt_le, ← Int32.toInt_inj, Int32.toInt_add, Int32.toInt_sub, Int32.toInt_mul, Int32.toInt_neg, pq_NuO, pq_NuI, pq_NuJ, pq_NuR, pq_shr6, pq_shr7, pq_shr8, lqm1, lq0, lq1, lq7, lq400] at *; (try simp (disch := omega) only [pq_bm] at *); all_goals omega))) dX11_stateOf_76 ?_
        refine pq_iinc (v := 1) F dX11_stateOf_77 rfl (by decide) (by decide) ?_
        refine pq_goto (tgt := 51) F dX11_stateOf_80 (by decide) ?_
        exact pq_fgm [true, true, true] (ih _ _ (hF.uJ gse (by first | decide | exact List.mem_cons_self)) (hG.uJ gse (by first | decide | exact List.mem_cons_self)) (by focus ((try clear hz); (try clear hh); (try clear hq); (try clear hG); (try clear p1); (try clear K); (try clear ih); (try clear L51); simp only [vp_in_iff, Int32.lt_iff_toInt_lt, Int32.le_iff_toInt_le, ← Int32.toInt_inj, Int32.toInt_add, Int32.toInt_sub, Int32.toInt_mul, Int32.toInt_neg, pq_NuO, pq_NuI, pq_NuJ, pq_NuR, pq_shr6, pq_shr7, pq_shr8, lqm1, lq0, lq1, lq7, lq400] at *; (try simp (disch := omega) only [pq_bm] at *); all_goals omega)) (by focus ((try clear hz); (try clear hh); (try clear hq); (try clear hG); (try clear p1); (try clear K); (try clear ih); (try clear L51); simp only [vp_in_iff, Int32.lt_iff_toInt_lt, Int32.le_iff_toInt_le, ← Int32.toInt_inj, Int32.toInt_add, Int32.toInt_sub, Int32.toInt_mul, Int32.toInt_neg, pq_NuO, pq_NuI, pq_NuJ, pq_NuR, pq_shr6, pq_shr7, pq_shr8, lqm1, lq0, lq1, lq7, lq400] at *; (try simp (disch := omega) only [pq_bm] at *); all_goals omega)) (fun i hi => by have z2 := pq_cl hk0; have z3 := pq_cl (x := k + 1) (by focus ((try clear hz); (try clear hh); (try clear hq); (try clear hG); (try clear p1); (try clear K); (try clear ih); (try clear L51); simp only [vp_in_iff, Int32.lt_iff_toInt_lt, Int32.le_iff_toInt_le, ← Int32.toInt_inj, Int32.toInt_add, Int32.toInt_sub, Int32.toInt_mul, Int32.toInt_neg, pq_NuO, pq_NuI, pq_NuJ, pq_NuR, pq_shr6, pq_shr7, pq_shr8, lqm1, lq0, lq1, lq7, lq400] at *; (try simp (disch := omega) only [pq_bm] at *); all_goals omega)); have z1 := pq_cl (x := 7 * 1 + k) (by focus ((try clear hz); (try clear hh); (try clear hq); (try clear hG); (try clear p1); (try clear K); (try clear ih); (try clear L51); simp only [vp_in_iff, Int32.lt_iff_toInt_lt, Int32.le_iff_toInt_le, ← Int32.toInt_inj, Int32.toInt_add, Int32.toInt_sub, Int32.toInt_mul, Int32.toInt_neg, pq_NuO, pq_NuI, pq_NuJ, pq_NuR, pq_shr6, pq_shr7, pq_shr8, lqm1, lq0, lq1, lq7, lq400] at *; (try simp (disch := omega) only [pq_bm] at *); all_goals omega)); simp only [pq_IuO, pq_IuJ, pq_Iu, pq_JuO, pq_JuI, pq_Ju, pq_RuO, pq_RuJ, pq_RuI, if_true, if_false]; by_cases e : i = k.toNatClampNeg; (rw [show 7 + i = (7 * 1 + k).toNatClampNeg by (clear hq; focus ((try clear hz); (try clear hh); (try clear hq); (try clear hG); (try clear p1); (try clear K); (try clear ih); (try clear L51); simp only [vp_in_iff, Int32.lt_iff_toInt_lt, Int32.le_iff_toInt_le, ← Int32.toInt_inj, Int32.toInt_add, Int32.toInt_sub, Int32.toInt_mul, Int32.toInt_neg, pq_NuO, pq_NuI, pq_NuJ, pq_NuR, pq_shr6, pq_shr7, pq_shr8, lqm1, lq0, lq1, lq7, lq400] at *; (try simp (disch := omega) only [pq_bm] at *); all_goals omega))]; rw [pf_ulS, e75, gJ]; exact hz _ (by clear hq; focus ((try clear hz); (try clear hh); (try clear hq); (try clear hG); (try clear p1); (try clear K); (try clear ih); (try clear L51); simp only [vp_in_iff, Int32.lt_iff_toInt_lt, Int32.le_iff_toInt_le, ← Int32.toInt_inj, Int32.toInt_add, Int32.toInt_sub, Int32.toInt_mul, Int32.toInt_neg, pq_NuO, pq_NuI, pq_NuJ, pq_NuR, pq_shr6, pq_shr7, pq_shr8, lqm1, lq0, lq1, lq7, lq400] at *; (try simp (disch := omega) only [pq_bm] at *); all_goals omega))); (rw [pf_ulN (show 7 + i ≠ (7 * 1 + k).toNatClampNeg by (clear hq; focus ((try clear hz); (try clear hh); (try clear hq); (try clear hG); (try clear p1); (try clear K); (try clear ih); (try clear L51); simp only [vp_in_iff, Int32.lt_iff_toInt_lt, Int32.le_iff_toInt_le, ← Int32.toInt_inj, Int32.toInt_add, Int32.toInt_sub, Int32.toInt_mul, Int32.toInt_neg, pq_NuO, pq_NuI, pq_NuJ, pq_NuR, pq_shr6, pq_shr7, pq_shr8, lqm1, lq0, lq1, lq7, lq400] at *; (try simp (disch := omega) only [pq_bm] at *); all_goals omega)))]; exact hq i (by clear hq; focus ((try clear hz); (try clear hh); (try clear hq); (try clear hG); (try clear p1); (try clear K); (try clear ih); (try clear L51); simp only [vp_in_iff, Int32.lt_iff_toInt_lt, Int32.le_iff_toInt_le, ← Int32.toInt_inj, Int32.toInt_add, Int32.toInt_sub, Int32.toInt_mul, Int32.toInt_neg, pq_NuO, pq_NuI, pq_NuJ, pq_NuR, pq_shr6, pq_shr7, pq_shr8, lqm1, lq0, lq1, lq7, lq400] at *; (try simp (disch := omega) only [pq_bm] at *); all_goals omega)))) (by focus ((try clear hz); (try clear hh); (try clear hq); (try clear hG); (try clear p1); (try clear K); (try clear ih); (try clear L51); simp only [vp_in_iff, Int32.lt_iff_toInt_lt, Int32.le_iff_toInt_le, ← Int32.toInt_inj, Int32.toInt_add, Int32.toInt_sub, Int32.toInt_mul, Int32.toInt_neg, pq_NuO, pq_NuI, pq_NuJ, pq_NuR, pq_shr6, pq_shr7, pq_shr8, lqm1, lq0, lq1, lq7, lq400] at *; (try simp (disch := omega) only [pq_bm] at *); all_goals omega)))
  refine pq_aload_n F dX11_stateOf_0 rfl rfl ?_
  refine pq_callV (As := []) F (k_X11_mixtureF l D cy _ _ ?_ bt f28 hbt) ml_X11_146 ha (by decide) rfl (Nat.le_of_ble_eq_true rfl) ⟨Nat.le_of_ble_eq_true rfl, Nat.le_of_ble_eq_true rfl⟩ ⟨by decide, by decide⟩ dX11_stateOf_1 (fun v1 S1 w1 => ?_)
  · exact ha
  obtain ⟨u1, y1, rfl, yl1_0, yl1_1, p1⟩ := w1
  rw [u1]
  try rw [u1] at p1
  refine pq_istore_n F dX11_stateOf_4 rfl (by decide) ?_
  refine pq_aload_n F dX11_stateOf_5 rfl rfl ?_
  refine pq_get F ha (by decide) lk_X11_150 f29 dX11_stateOf_6 ?_
  refine pq_iload_n F dX11_stateOf_9 rfl rfl ?_
  refine pq_iald F hhd (by decide) (by decide) rfl (fun n1_10 n2_10 => (by focus ((try clear hz); (try clear hh); (try clear hq); (try clear hG); (try clear p1); (try clear K); (try clear ih); (try clear L51); simp only [vp_in_iff, Int32.lt_iff_toInt_lt, Int32.le_iff_toInt_le, ← Int32.toInt_inj, Int32.toInt_add, Int32.toInt_sub, Int32.toInt_mul, Int32.toInt_neg, pq_NuO, pq_NuI, pq_NuJ, pq_NuR, pq_shr6, pq_shr7, pq_shr8, lqm1, lq0, lq1, lq7, lq400] at *; (try simp (disch := omega) only [pq_bm] at *); all_goals omega))) dX11_stateOf_10 (fun x10 e10 l10 u10 => ?_)
  have eh : y1.toNatClampNeg = pf_h0 := (by rw [p1]; exact pf_h0e hz)
  have x10m : x10 = -1 := e10.trans (by rw [eh]; exact hh)
  refine pq_istore_n F dX11_stateOf_11 rfl (by decide) ?_
  refine pq_iload_n F dX11_stateOf_12 rfl rfl ?_
  refine pq_iconst (v := -1) F dX11_stateOf_13 (by decide) ?_
  refine pq_icmp_eq (tgt := 37) F dX11_stateOf_14 (by decide) (fun c14 => ?_) (fun c14 => ?_)
  · skip
    refine pq_aload_n F dX11_stateOf_37 rfl rfl ?_
    refine pq_get F ha (by decide) lk_X11_159 f20 dX11_stateOf_38 ?_
    refine pq_sipush (v := 400) F dX11_stateOf_41 (by decide) ?_
    refine pq_icmp_le (tgt := 49) F dX11_stateOf_44 (by decide) (fun c44 => ?_) (fun c44 => ?_)
    · skip
      refine pq_iconst (v := 0) F dX11_stateOf_49 (by decide) ?_
      refine pq_istore_n F dX11_stateOf_50 rfl (by decide) ?_
      exact pq_fgm [true, true, true] (L51 y1 (by focus ((try clear hz); (try clear hh); (try clear hq); (try clear hG); (try clear p1); (try clear K); (try clear ih); (try clear L51); simp only [vp_in_iff, Int32.lt_iff_toInt_lt, Int32.le_iff_toInt_le, ← Int32.toInt_inj, Int32.toInt_add, Int32.toInt_sub, Int32.toInt_mul, Int32.toInt_neg, pq_NuO, pq_NuI, pq_NuJ, pq_NuR, pq_shr6, pq_shr7, pq_shr8, lqm1, lq0, lq1, lq7, lq400] at *; (try simp (disch := omega) only [pq_bm] at *); all_goals omega)) (by focus ((try clear hz); (try clear hh); (try clear hq); (try clear hG); (try clear p1); (try clear K); (try clear ih); (try clear L51); simp only [vp_in_iff, Int32.lt_iff_toInt_lt, Int32.le_iff_toInt_le, ← Int32.toInt_inj, Int32.toInt_add, Int32.toInt_sub, Int32.toInt_mul, Int32.toInt_neg, pq_NuO, pq_NuI, pq_NuJ, pq_NuR, pq_shr6, pq_shr7, pq_shr8, lqm1, lq0, lq1, lq7, lq400] at *; (try simp (disch := omega) only [pq_bm] at *); all_goals omega)) eh 100 _ 0 pq_Fr.rf pq_Fr.rf (by focus ((try clear hz); (try clear hh); (try clear hq); (try clear hG); (try clear p1); (try clear K); (try clear ih); (try clear L51); simp only [vp_in_iff, Int32.lt_iff_toInt_lt, Int32.le_iff_toInt_le, ← Int32.toInt_inj, Int32.toInt_add, Int32.toInt_sub, Int32.toInt_mul, Int32.toInt_neg, pq_NuO, pq_NuI, pq_NuJ, pq_NuR, pq_shr6, pq_shr7, pq_shr8, lqm1, lq0, lq1, lq7, lq400] at *; (try simp (disch := omega) only [pq_bm] at *); all_goals omega)) (by focus ((try clear hz); (try clear hh); (try clear hq); (try clear hG); (try clear p1); (try clear K); (try clear ih); (try clear L51); simp only [vp_in_iff, Int32.lt_iff_toInt_lt, Int32.le_iff_toInt_le, ← Int32.toInt_inj, Int32.toInt_add, Int32.toInt_sub, Int32.toInt_mul, Int32.toInt_neg, pq_NuO, pq_NuI, pq_NuJ, pq_NuR, pq_shr6, pq_shr7, pq_shr8, lqm1, lq0, lq1, lq7, lq400] at *; (try simp (disch := omega) only [pq_bm] at *); all_goals omega)) (fun i hi => absurd hi (Nat.not_lt_zero _)) (by focus ((try clear hz); (try clear hh); (try clear hq); (try clear hG); (try clear p1); (try clear K); (try clear ih); (try clear L51); simp only [vp_in_iff, Int32.lt_iff_toInt_lt, Int32.le_iff_toInt_le, ← Int32.toInt_inj, Int32.toInt_add, Int32.toInt_sub, Int32.toInt_mul, Int32.toInt_neg, pq_NuO, pq_NuI, pq_NuJ, pq_NuR, pq_shr6, pq_shr7, pq_shr8, lqm1, lq0, lq1, lq7, lq400] at *; (try simp (disch := omega) only [pq_bm] at *); all_goals omega)))
    · exact False.elim (by focus ((try clear hz); (try clear hh); (try clear hq); (try clear hG); (try clear p1); (try clear K); (try clear ih); (try clear L51); simp only [vp_in_iff, Int32.lt_iff_toInt_lt, Int32.le_iff_toInt_le, ← Int32.toInt_inj, Int32.toInt_add, Int32.toInt_sub, Int32.toInt_mul, Int32.toInt_neg, pq_NuO, pq_NuI, pq_NuJ, pq_NuR, pq_shr6, pq_shr7, pq_shr8, lqm1, lq0, lq1, lq7, lq400] at *; (try simp (disch := omega) only [pq_bm] at *); all_goals omega))
  · exact absurd x10m c14

set_option maxHeartbeats 4000000 in
set_option maxRecDepth 100000 in
theorem k_X11_stateO (l : Launch) (D : va_G) (cy : Nat → ClassId) (S : HS) (a : Nat) (ha : pq_R S a 14) (se bt : Nat) (f17 : hO S a 17 = .ref se) (hse : pq_R S se 182) (f28 : hO S a 28 = .ref bt) (hbt : pq_R S bt 183) (hd ac : Nat) (f29 : hO S a 29 = .ref hd) (hhd : pq_R S hd 131) (f30 : hO S a 30 = .ref ac) (hac : pq_R S ac 132) (hz : ∀ i, i < 7 → hJ S bt i = 0) (hh : hI S hd pf_h0 = 1) (hrw : ∀ i, i < 7 → hJ S se (7 + i) = 0) : pq_C l D cy yX11_stateOf cX11_stateOf 3 (some .int) 2 0 0 S [.ref a] (fun v S2 => S2 = S ∧ ∃ x : Int32, v = some (.int x) ∧ (x = 1)) := by
  refine pq_start (by decide) (Nat.le_of_ble_eq_true rfl) ?_
  intro p e s m args below meth c A F hr hlk hnm hA
  have lqm1 : (-1 : Int32).toInt = -1 := rfl
  have lq0 : (0 : Int32).toInt = 0 := rfl
  have lq1 : (1 : Int32).toInt = 1 := rfl
  have lq7 : (7 : Int32).toInt = 7 := rfl
  have lq400 : (400 : Int32).toInt = 400 := rfl
  refine pq_aload_n F dX11_stateOf_0 rfl rfl ?_
  refine pq_callV (As := []) F (k_X11_mixtureF l D cy _ _ ?_ bt f28 hbt) ml_X11_146 ha (by decide) rfl (Nat.le_of_ble_eq_true rfl) ⟨Nat.le_of_ble_eq_true rfl, Nat.le_of_ble_eq_true rfl⟩ ⟨by decide, by decide⟩ dX11_stateOf_1 (fun v1 S1 w1 => ?_)
  · exact ha
  obtain ⟨u1, y1, rfl, yl1_0, yl1_1, p1⟩ := w1
  rw [u1]
  try rw [u1] at p1
  refine pq_istore_n F dX11_stateOf_4 rfl (by decide) ?_
  refine pq_aload_n F dX11_stateOf_5 rfl rfl ?_
  refine pq_get F ha (by decide) lk_X11_150 f29 dX11_stateOf_6 ?_
  refine pq_iload_n F dX11_stateOf_9 rfl rfl ?_
  refine pq_iald F hhd (by decide) (by decide) rfl (fun n1_10 n2_10 => (by focus ((try clear hz); (try clear hh); (try clear hrw); (try clear p1); simp only [vp_in_iff, Int32.lt_iff_toInt_lt, Int32.le_iff_toInt_le, ← Int32.toInt_inj, Int32.toInt_add, Int32.toInt_sub, Int32.toInt_mul, Int32.toInt_neg, pq_NuO, pq_NuI, pq_NuJ, pq_NuR, pq_shr6, pq_shr7, pq_shr8, lqm1, lq0, lq1, lq7, lq400] at *; (try simp (disch := omega) only [pq_bm] at *); all_goals omega))) dX11_stateOf_10 (fun x10 e10 l10 u10 => ?_)
  have eh : y1.toNatClampNeg = pf_h0 := (by rw [p1]; exact pf_h0e hz)
  have x10m : x10 = 1 := e10.trans (by rw [eh]; exact hh)
  subst x10m
  refine pq_istore_n F dX11_stateOf_11 rfl (by decide) ?_
  refine pq_iload_n F dX11_stateOf_12 rfl rfl ?_
  refine pq_iconst (v := -1) F dX11_stateOf_13 (by decide) ?_
  refine pq_icmp_eq (tgt := 37) F dX11_stateOf_14 (by decide) (fun c14 => ?_) (fun c14 => ?_)
  · exact absurd c14 (by decide)
  · skip
    refine pq_aload_n F dX11_stateOf_17 rfl rfl ?_
    refine pq_iload_n F dX11_stateOf_18 rfl rfl ?_
    refine pq_callV (As := [_]) F (k_X11_isSetF l D cy _ _ ?_ _ ?_ ?_ se bt f17 hse f28 hbt (fun i hi => (hrw i hi).trans (hz i hi).symm)) ml_X11_153 ha (by decide) rfl (Nat.le_of_ble_eq_true rfl) ⟨Nat.le_of_ble_eq_true rfl, Nat.le_of_ble_eq_true rfl⟩ ⟨by decide, by decide⟩ dX11_stateOf_19 (fun v19 S19 w19 => ?_)
    · exact ha
    · focus ((try clear hz); (try clear hh); (try clear hrw); (try clear p1); simp only [vp_in_iff, Int32.lt_iff_toInt_lt, Int32.le_iff_toInt_le, ← Int32.toInt_inj, Int32.toInt_add, Int32.toInt_sub, Int32.toInt_mul, Int32.toInt_neg, pq_NuO, pq_NuI, pq_NuJ, pq_NuR, pq_shr6, pq_shr7, pq_shr8, lqm1, lq0, lq1, lq7, lq400] at *; (try simp (disch := omega) only [pq_bm] at *); all_goals omega)
    · focus ((try clear hz); (try clear hh); (try clear hrw); (try clear p1); simp only [vp_in_iff, Int32.lt_iff_toInt_lt, Int32.le_iff_toInt_le, ← Int32.toInt_inj, Int32.toInt_add, Int32.toInt_sub, Int32.toInt_mul, Int32.toInt_neg, pq_NuO, pq_NuI, pq_NuJ, pq_NuR, pq_shr6, pq_shr7, pq_shr8, lqm1, lq0, lq1, lq7, lq400] at *; (try simp (disch := omega) only [pq_bm] at *); all_goals omega)
    obtain ⟨u19, y19, rfl, yl19_0, yl19_1, p19⟩ := w19
    rw [u19]
    try rw [u19] at p19
    refine pq_if_eq (tgt := 27) F dX11_stateOf_22 (by decide) (fun c22 => ?_) (fun c22 => ?_)
    · exact absurd (c22.symm.trans p19) (by decide)
    · skip
      refine pq_iload_n F dX11_stateOf_25 rfl rfl ?_
      exact pq_iret F hr hlk hA (Nat.le_refl _) (Nat.le_refl _) (⟨rfl, 1, rfl, rfl⟩) dX11_stateOf_26

