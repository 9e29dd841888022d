theorem tk_by8 {v k : Int32} (h : k = 24 ∨ k = 16 ∨ k = 8 ∨ k = 0) : ((v.toUInt32 >>> (k.toUInt32 &&& Int32.toUInt32 31)).toInt32).toInt8 = (v >>> (k &&& 31)).toInt8 := by
  have key : ∀ (s : Nat) (_ : s ≤ 24) (a : UInt32) (b : Int32), (a.toBitVec % 32).toNat = s → (b.toBitVec.smod 32).toNat = s → ((v.toUInt32 >>> a).toInt32).toInt8 = (v >>> b).toInt8 := by
    intro s hs a b ha hb
    apply Int8.toBitVec_inj.mp
    have e1 : ((v.toUInt32 >>> a).toInt32).toBitVec = v.toBitVec >>> (a.toBitVec % 32) := by
      show (v.toUInt32 >>> a).toBitVec = _
      rw [UInt32.toBitVec_shiftRight]
      rfl
    rw [Int32.toBitVec_toInt8, Int32.toBitVec_toInt8, e1, Int32.toBitVec_shiftRight, BitVec.sshiftRight_eq', BitVec.ushiftRight_eq', ha, hb]
    apply BitVec.eq_of_getLsbD_eq
    intro i hi
    have h1 : s + i < 32 := by omega
    have h2 : i < 32 := by omega
    rw [BitVec.getLsbD_signExtend, BitVec.getLsbD_signExtend, if_pos h2, if_pos h2, BitVec.getLsbD_ushiftRight, BitVec.getLsbD_sshiftRight, if_pos h1]
    first | rfl | (rw [decide_eq_false (show ¬ 32 ≤ i by omega)]; rfl) | (rw [decide_eq_true h2]; rfl)
  rcases h with rfl | rfl | rfl | rfl
  · exact key 24 (by decide) _ _ (by decide) (by decide)
  · exact key 16 (by decide) _ _ (by decide) (by decide)
  · exact key 8 (by decide) _ _ (by decide) (by decide)
  · exact key 0 (by decide) _ _ (by decide) (by decide)
def tk_sh : Nat → Int32
  | 0 => 24
  | j + 1 => tk_sh j + (-8)
theorem tk_shv : ∀ {j : Nat}, j ≤ 4 → (tk_sh j).toInt = 24 - 8 * (j : Int)
  | 0, _ => rfl
  | 1, _ => rfl
  | 2, _ => rfl
  | 3, _ => rfl
  | 4, _ => rfl
  | j + 5, h => absurd h (by omega)
theorem tk_sho : ∀ {j : Nat}, j < 4 → (tk_sh j = 24 ∨ tk_sh j = 16 ∨ tk_sh j = 8 ∨ tk_sh j = 0)
  | 0, _ => Or.inl rfl
  | 1, _ => Or.inr (Or.inl rfl)
  | 2, _ => Or.inr (Or.inr (Or.inl rfl))
  | 3, _ => Or.inr (Or.inr (Or.inr rfl))
  | j + 4, h => absurd h (by omega)
/-- byte j of a number -/
def tk_by (v : Int32) (j : Nat) : Int32 := vp_nar .byte ((v >>> (tk_sh j &&& 31)).toInt8.toInt32)
/-- the tape with the first bytes of a number -/
def tk_pj (f : Nat → Int32) (n : Nat) (v : Int32) : Nat → (Nat → Int32)
  | 0 => f
  | j + 1 => upd (tk_pj f n v j) (n + j) (tk_by v j)
def tk_fe (f : Nat → Int32) (n : Nat) (a b c d e : Int32) : Nat → Int32 := tk_pj (tk_pj (tk_pj (tk_pj (tk_pj f n a 4) (n + 4) b 4) (n + 8) c 4) (n + 12) d 4) (n + 16) e 4

set_option maxHeartbeats 4000000 in
set_option maxRecDepth 100000 in
theorem k_X9_putG (l : Launch) (D : va_G) (cy : Nat → ClassId) (S : HS) (a : Nat) (ha : pq_R S a 12) (vv : Int32) (t : Int32) (tn tb : Nat) (ht : hO S a 1 = .int t) (htn : t.toInt = (tn : Int)) (ht1 : tn ≤ 2044) (g0 : hO S a 0 = .ref tb) (hgb : pq_R S tb 104) : pq_C l D cy yX9_put cX9_put 3 (none) 1 0 0 S [.ref a, .int vv] (fun v S2 => v = none ∧ pq_Fr [(12, 1), (104, 0)] S S2 ∧ (∃ t2 : Int32, hO S2 a 1 = .int t2 ∧ t2.toInt = ((tn + 4 : Nat) : Int) ∧ hI S2 tb = tk_pj (hI S tb) tn vv 4)) := by
  refine pq_start (by decide) (Nat.le_of_ble_eq_true rfl) ?_
  intro p e s m args below meth c A F hr hlk hnm hA
  have lqm8 : (-8 : Int32).toInt = -8 := rfl
  have lqm1 : (-1 : Int32).toInt = -1 := rfl
  have lq0 : (0 : Int32).toInt = 0 := rfl
  have lq1 : (1 : Int32).toInt = 1 := rfl
  have lq8 : (8 : Int32).toInt = 8 := rfl
  have lq24 : (24 : Int32).toInt = 24 := rfl
  have lq2048 : (2048 : Int32).toInt = 2048 := rfl
  have L3 : ∀  (fu : Nat) (S1 : HS) (k : Int32) (t3 : Int32) (jn : Nat) (hF : pq_Fr [(12, 1), (104, 0)] S S1) (h3 : hO S1 a 1 = .int t3) (hk : k = tk_sh jn) (hj : jn ≤ 4) (ht3 : t3.toInt = ((tn + jn : Nat) : Int)) (hb9 : hI S1 tb = tk_pj (hI S tb) tn vv jn), 4 - jn < fu → pq_At p l e (pq_rm 1 0 0) s m args below meth c (pq_Z below args s D cy S 0 0 (fun v S2 => v = none ∧ pq_Fr [(12, 1), (104, 0)] S S2 ∧ (∃ t2 : Int32, hO S2 a 1 = .int t2 ∧ t2.toInt = ((tn + 4 : Nat) : Int) ∧ hI S2 tb = tk_pj (hI S tb) tn vv 4))) D cy A 3 0 0 3 S1 [some (.ref a), some (.int vv), some (.int k)] [] := by
    intro  fu
    induction fu with
    | zero => intro S1 k t3 jn hF h3 hk hj ht3 hb9 hm; exact absurd hm (Nat.not_lt_zero _)
    | succ fu ih =>
      intro S1 k t3 jn hF h3 hk hj ht3 hb9 hm
      have haL := hF.R ha (by first | decide | omega)
      have hkv := tk_shv hj
      rw [← hk] at hkv
      have g0L := hF.O ha (by decide) (by decide) g0
      have hgbL := hF.R hgb (by decide)
      have ct9 := pq_cl (x := t3) (by focus ((try clear hb9); (try clear ih); simp only [vp_in_iff, Int32.lt_iff_toInt_lt, Int32.le_iff_toInt_le, ← Int32.toInt_inj, Int32.toInt_add, Int32.toInt_sub, Int32.toInt_mul, Int32.toInt_neg, pq_NuO, pq_NuI, pq_NuJ, pq_NuR, pq_shr6, pq_shr7, pq_shr8, lqm8, lqm1, lq0, lq1, lq8, lq24, lq2048] at *; (try simp (disch := omega) only [pq_bm] at *); all_goals omega))
      have ct8 : t3.toNatClampNeg = tn + jn := (by focus ((try clear hb9); (try clear ih); simp only [vp_in_iff, Int32.lt_iff_toInt_lt, Int32.le_iff_toInt_le, ← Int32.toInt_inj, Int32.toInt_add, Int32.toInt_sub, Int32.toInt_mul, Int32.toInt_neg, pq_NuO, pq_NuI, pq_NuJ, pq_NuR, pq_shr6, pq_shr7, pq_shr8, lqm8, lqm1, lq0, lq1, lq8, lq24, lq2048] at *; (try simp (disch := omega) only [pq_bm] at *); all_goals omega))
      refine pq_iload_n F dX9_put_3 rfl rfl ?_
      refine pq_if_lt (tgt := 46) F dX9_put_4 (by decide) (fun c4 => ?_) (fun c4 => ?_)
      · skip
        exact pq_vret F hr hlk hA (Nat.le_refl _) (Nat.le_refl _) ((by have e9 : jn = 4 := (by clear hb9; focus ((try clear hb9); (try clear ih); simp only [vp_in_iff, Int32.lt_iff_toInt_lt, Int32.le_iff_toInt_le, ← Int32.toInt_inj, Int32.toInt_add, Int32.toInt_sub, Int32.toInt_mul, Int32.toInt_neg, pq_NuO, pq_NuI, pq_NuJ, pq_NuR, pq_shr6, pq_shr7, pq_shr8, lqm8, lqm1, lq0, lq1, lq8, lq24, lq2048] at *; (try simp (disch := omega) only [pq_bm] at *); all_goals omega)); subst e9; exact ⟨rfl, hF, t3, h3, ht3, hb9⟩)) dX9_put_46
      · skip
        refine pq_aload_n F dX9_put_7 rfl rfl ?_
        refine pq_get F haL (by decide) lk_X9_15 h3 dX9_put_8 ?_
        refine pq_sipush (v := 2048) F dX9_put_11 (by decide) ?_
        refine pq_icmp_ge (tgt := 40) F dX9_put_14 (by decide) (fun c14 => ?_) (fun c14 => ?_)
        · exact absurd c14 (by focus ((try clear hb9); (try clear ih); simp only [vp_in_iff, Int32.lt_iff_toInt_lt, Int32.le_iff_toInt_le, ← Int32.toInt_inj, Int32.toInt_add, Int32.toInt_sub, Int32.toInt_mul, Int32.toInt_neg, pq_NuO, pq_NuI, pq_NuJ, pq_NuR, pq_shr6, pq_shr7, pq_shr8, lqm8, lqm1, lq0, lq1, lq8, lq24, lq2048] at *; (try simp (disch := omega) only [pq_bm] at *); all_goals omega))
        · skip
          refine pq_aload_n F dX9_put_17 rfl rfl ?_
          refine pq_get F haL (by decide) lk_X9_9 g0L dX9_put_18 ?_
          refine pq_aload_n F dX9_put_21 rfl rfl ?_
          refine pq_get F haL (by decide) lk_X9_15 h3 dX9_put_22 ?_
          refine pq_iload_n F dX9_put_25 rfl rfl ?_
          refine pq_iload_n F dX9_put_26 rfl rfl ?_
          refine pq_iushr F dX9_put_27 ?_
          refine pq_i2b F dX9_put_28 ?_
          refine pq_bast F hgbL (by decide) (by decide) rfl (fun n1_29 n2_29 => (by focus ((try clear hb9); (try clear ih); simp only [vp_in_iff, Int32.lt_iff_toInt_lt, Int32.le_iff_toInt_le, ← Int32.toInt_inj, Int32.toInt_add, Int32.toInt_sub, Int32.toInt_mul, Int32.toInt_neg, pq_NuO, pq_NuI, pq_NuJ, pq_NuR, pq_shr6, pq_shr7, pq_shr8, lqm8, lqm1, lq0, lq1, lq8, lq24, lq2048] at *; (try simp (disch := omega) only [pq_bm] at *); all_goals omega))) (pq_nb _) dX9_put_29 ?_
          refine pq_aload_n F dX9_put_30 rfl rfl ?_
          refine pq_dup F dX9_put_31 rfl ?_
          refine pq_get F haL (by decide) lk_X9_15 h3 dX9_put_32 ?_
          refine pq_iconst (v := 1) F dX9_put_35 (by decide) ?_
          refine pq_iadd F dX9_put_36 ?_
          refine pq_putI F haL (by decide) lp_X9_15 rfl (by focus ((try clear hb9); (try clear ih); simp only [vp_in_iff, Int32.lt_iff_toInt_lt, Int32.le_iff_toInt_le, ← Int32.toInt_inj, Int32.toInt_add, Int32.toInt_sub, Int32.toInt_mul, Int32.toInt_neg, pq_NuO, pq_NuI, pq_NuJ, pq_NuR, pq_shr6, pq_shr7, pq_shr8, lqm8, lqm1, lq0, lq1, lq8, lq24, lq2048] at *; (try simp (disch := omega) only [pq_bm] at *); all_goals omega)) (by focus ((try clear hb9); (try clear ih); simp only [vp_in_iff, Int32.lt_iff_toInt_lt, Int32.le_iff_toInt_le, ← Int32.toInt_inj, Int32.toInt_add, Int32.toInt_sub, Int32.toInt_mul, Int32.toInt_neg, pq_NuO, pq_NuI, pq_NuJ, pq_NuR, pq_shr6, pq_shr7, pq_shr8, lqm8, lqm1, lq0, lq1, lq8, lq24, lq2048] at *; (try simp (disch := omega) only [pq_bm] at *); all_goals omega)) dX9_put_37 ?_
          refine pq_iinc (v := -8) F dX9_put_40 rfl (by decide) (by decide) ?_
          refine pq_goto (tgt := 3) F dX9_put_43 (by decide) ?_
          (have hj4 : jn < 4 := (by focus ((try clear hb9); (try clear ih); simp only [vp_in_iff, Int32.lt_iff_toInt_lt, Int32.le_iff_toInt_le, ← Int32.toInt_inj, Int32.toInt_add, Int32.toInt_sub, Int32.toInt_mul, Int32.toInt_neg, pq_NuO, pq_NuI, pq_NuJ, pq_NuR, pq_shr6, pq_shr7, pq_shr8, lqm8, lqm1, lq0, lq1, lq8, lq24, lq2048] at *; (try simp (disch := omega) only [pq_bm] at *); all_goals omega)); exact pq_fgm [true, true, true] (ih _ _ _ (jn + 1) ((hF.uI hgbL (by first | decide | exact List.mem_cons_self)).uO haL (by decide)) pq_ks (by rw [hk]; rfl) (by omega) (by focus ((try clear hb9); (try clear ih); simp only [vp_in_iff, Int32.lt_iff_toInt_lt, Int32.le_iff_toInt_le, ← Int32.toInt_inj, Int32.toInt_add, Int32.toInt_sub, Int32.toInt_mul, Int32.toInt_neg, pq_NuO, pq_NuI, pq_NuJ, pq_NuR, pq_shr6, pq_shr7, pq_shr8, lqm8, lqm1, lq0, lq1, lq8, lq24, lq2048] at *; (try simp (disch := omega) only [pq_bm] at *); all_goals omega)) (by simp only [pq_IuO, pq_IuJ, pq_Iu, pq_JuO, pq_JuI, pq_Ju, pq_RuO, pq_RuJ, pq_RuI, if_true, if_false]; rw [ct8, hb9, tk_by8 (by rw [hk]; exact tk_sho hj4), hk]; rfl) (by omega)))
  refine pq_bipush (v := 24) F dX9_put_0 (by decide) ?_
  refine pq_istore_n F dX9_put_2 rfl (by decide) ?_
  exact pq_fgm [true, true, true] (L3 100 _ _ t 0 pq_Fr.rf ht rfl (Nat.zero_le _) (by focus ((try clear hb9); (try clear ih); simp only [vp_in_iff, Int32.lt_iff_toInt_lt, Int32.le_iff_toInt_le, ← Int32.toInt_inj, Int32.toInt_add, Int32.toInt_sub, Int32.toInt_mul, Int32.toInt_neg, pq_NuO, pq_NuI, pq_NuJ, pq_NuR, pq_shr6, pq_shr7, pq_shr8, lqm8, lqm1, lq0, lq1, lq8, lq24, lq2048] at *; (try simp (disch := omega) only [pq_bm] at *); all_goals omega)) rfl (by focus ((try clear hb9); (try clear ih); simp only [vp_in_iff, Int32.lt_iff_toInt_lt, Int32.le_iff_toInt_le, ← Int32.toInt_inj, Int32.toInt_add, Int32.toInt_sub, Int32.toInt_mul, Int32.toInt_neg, pq_NuO, pq_NuI, pq_NuJ, pq_NuR, pq_shr6, pq_shr7, pq_shr8, lqm8, lqm1, lq0, lq1, lq8, lq24, lq2048] at *; (try simp (disch := omega) only [pq_bm] at *); all_goals omega)))

set_option maxHeartbeats 4000000 in
set_option maxRecDepth 100000 in
theorem k_X11_fourG (l : Launch) (D : va_G) (cy : Nat → ClassId) (S : HS) (a : Nat) (ha : pq_R S a 14) (vv : Int32) (t : Int32) (tn tb : Nat) (ht : hO S a 1 = .int t) (htn : t.toInt = (tn : Int)) (ht1 : tn ≤ 2044) (g0 : hO S a 0 = .ref tb) (hgb : pq_R S tb 100) : pq_C l D cy yX11_four cX11_four 3 (none) 1 0 0 S [.ref a, .int vv] (fun v S2 => v = none ∧ pq_Fr [(14, 1), (100, 0)] S S2 ∧ (∃ t2 : Int32, hO S2 a 1 = .int t2 ∧ t2.toInt = ((tn + 4 : Nat) : Int) ∧ hI S2 tb = tk_pj (hI S tb) tn vv 4)) := by
  refine pq_start (by decide) (Nat.le_of_ble_eq_true rfl) ?_
  intro p e s m args below meth c A F hr hlk hnm hA
  have lqm8 : (-8 : Int32).toInt = -8 := rfl
  have lqm1 : (-1 : Int32).toInt = -1 := rfl
  have lq0 : (0 : Int32).toInt = 0 := rfl
  have lq1 : (1 : Int32).toInt = 1 := rfl
  have lq8 : (8 : Int32).toInt = 8 := rfl
  have lq24 : (24 : Int32).toInt = 24 := rfl
  have lq2048 : (2048 : Int32).toInt = 2048 := rfl
  have L3 : ∀  (fu : Nat) (S1 : HS) (k : Int32) (t3 : Int32) (jn : Nat) (hF : pq_Fr [(14, 1), (100, 0)] S S1) (h3 : hO S1 a 1 = .int t3) (hk : k = tk_sh jn) (hj : jn ≤ 4) (ht3 : t3.toInt = ((tn + jn : Nat) : Int)) (hb9 : hI S1 tb = tk_pj (hI S tb) tn vv jn), 4 - jn < fu → pq_At p l e (pq_rm 1 0 0) s m args below meth c (pq_Z below args s D cy S 0 0 (fun v S2 => v = none ∧ pq_Fr [(14, 1), (100, 0)] S S2 ∧ (∃ t2 : Int32, hO S2 a 1 = .int t2 ∧ t2.toInt = ((tn + 4 : Nat) : Int) ∧ hI S2 tb = tk_pj (hI S tb) tn vv 4))) D cy A 3 0 0 3 S1 [some (.ref a), some (.int vv), some (.int k)] [] := by
    intro  fu
    induction fu with
    | zero => intro S1 k t3 jn hF h3 hk hj ht3 hb9 hm; exact absurd hm (Nat.not_lt_zero _)
    | succ fu ih =>
      intro S1 k t3 jn hF h3 hk hj ht3 hb9 hm
      have haL := hF.R ha (by first | decide | omega)
      have hkv := tk_shv hj
      rw [← hk] at hkv
      have g0L := hF.O ha (by decide) (by decide) g0
      have hgbL := hF.R hgb (by decide)
      have ct9 := pq_cl (x := t3) (by focus ((try clear hb9); (try clear ih); simp only [vp_in_iff, Int32.lt_iff_toInt_lt, Int32.le_iff_toInt_le, ← Int32.toInt_inj, Int32.toInt_add, Int32.toInt_sub, Int32.toInt_mul, Int32.toInt_neg, pq_NuO, pq_NuI, pq_NuJ, pq_NuR, pq_shr6, pq_shr7, pq_shr8, lqm8, lqm1, lq0, lq1, lq8, lq24, lq2048] at *; (try simp (disch := omega) only [pq_bm] at *); all_goals omega))
      have ct8 : t3.toNatClampNeg = tn + jn := (by focus ((try clear hb9); (try clear ih); simp only [vp_in_iff, Int32.lt_iff_toInt_lt, Int32.le_iff_toInt_le, ← Int32.toInt_inj, Int32.toInt_add, Int32.toInt_sub, Int32.toInt_mul, Int32.toInt_neg, pq_NuO, pq_NuI, pq_NuJ, pq_NuR, pq_shr6, pq_shr7, pq_shr8, lqm8, lqm1, lq0, lq1, lq8, lq24, lq2048] at *; (try simp (disch := omega) only [pq_bm] at *); all_goals omega))
      refine pq_iload_n F dX11_four_3 rfl rfl ?_
      refine pq_if_lt (tgt := 36) F dX11_four_4 (by decide) (fun c4 => ?_) (fun c4 => ?_)
      · skip
        exact pq_vret F hr hlk hA (Nat.le_refl _) (Nat.le_refl _) ((by have e9 : jn = 4 := (by clear hb9; focus ((try clear hb9); (try clear ih); simp only [vp_in_iff, Int32.lt_iff_toInt_lt, Int32.le_iff_toInt_le, ← Int32.toInt_inj, Int32.toInt_add, Int32.toInt_sub, Int32.toInt_mul, Int32.toInt_neg, pq_NuO, pq_NuI, pq_NuJ, pq_NuR, pq_shr6, pq_shr7, pq_shr8, lqm8, lqm1, lq0, lq1, lq8, lq24, lq2048] at *; (try simp (disch := omega) only [pq_bm] at *); all_goals omega)); subst e9; exact ⟨rfl, hF, t3, h3, ht3, hb9⟩)) dX11_four_36
      · skip
        refine pq_aload_n F dX11_four_7 rfl rfl ?_
        refine pq_get F haL (by decide) lk_X11_30 g0L dX11_four_8 ?_
        refine pq_aload_n F dX11_four_11 rfl rfl ?_
        refine pq_get F haL (by decide) lk_X11_264 h3 dX11_four_12 ?_
        refine pq_iload_n F dX11_four_15 rfl rfl ?_
        refine pq_iload_n F dX11_four_16 rfl rfl ?_
        refine pq_ishr F dX11_four_17 ?_
        refine pq_i2b F dX11_four_18 ?_
        refine pq_bast F hgbL (by decide) (by decide) rfl (fun n1_19 n2_19 => (by focus ((try clear hb9); (try clear ih); simp only [vp_in_iff, Int32.lt_iff_toInt_lt, Int32.le_iff_toInt_le, ← Int32.toInt_inj, Int32.toInt_add, Int32.toInt_sub, Int32.toInt_mul, Int32.toInt_neg, pq_NuO, pq_NuI, pq_NuJ, pq_NuR, pq_shr6, pq_shr7, pq_shr8, lqm8, lqm1, lq0, lq1, lq8, lq24, lq2048] at *; (try simp (disch := omega) only [pq_bm] at *); all_goals omega))) (pq_nb _) dX11_four_19 ?_
        refine pq_aload_n F dX11_four_20 rfl rfl ?_
        refine pq_dup F dX11_four_21 rfl ?_
        refine pq_get F haL (by decide) lk_X11_264 h3 dX11_four_22 ?_
        refine pq_iconst (v := 1) F dX11_four_25 (by decide) ?_
        refine pq_iadd F dX11_four_26 ?_
        refine pq_putI F haL (by decide) lp_X11_264 rfl (by focus ((try clear hb9); (try clear ih); simp only [vp_in_iff, Int32.lt_iff_toInt_lt, Int32.le_iff_toInt_le, ← Int32.toInt_inj, Int32.toInt_add, Int32.toInt_sub, Int32.toInt_mul, Int32.toInt_neg, pq_NuO, pq_NuI, pq_NuJ, pq_NuR, pq_shr6, pq_shr7, pq_shr8, lqm8, lqm1, lq0, lq1, lq8, lq24, lq2048] at *; (try simp (disch := omega) only [pq_bm] at *); all_goals omega)) (by focus ((try clear hb9); (try clear ih); simp only [vp_in_iff, Int32.lt_iff_toInt_lt, Int32.le_iff_toInt_le, ← Int32.toInt_inj, Int32.toInt_add, Int32.toInt_sub, Int32.toInt_mul, Int32.toInt_neg, pq_NuO, pq_NuI, pq_NuJ, pq_NuR, pq_shr6, pq_shr7, pq_shr8, lqm8, lqm1, lq0, lq1, lq8, lq24, lq2048] at *; (try simp (disch := omega) only [pq_bm] at *); all_goals omega)) dX11_four_27 ?_
        refine pq_iinc (v := -8) F dX11_four_30 rfl (by decide) (by decide) ?_
        refine pq_goto (tgt := 3) F dX11_four_33 (by decide) ?_
        (have hj4 : jn < 4 := (by focus ((try clear hb9); (try clear ih); simp only [vp_in_iff, Int32.lt_iff_toInt_lt, Int32.le_iff_toInt_le, ← Int32.toInt_inj, Int32.toInt_add, Int32.toInt_sub, Int32.toInt_mul, Int32.toInt_neg, pq_NuO, pq_NuI, pq_NuJ, pq_NuR, pq_shr6, pq_shr7, pq_shr8, lqm8, lqm1, lq0, lq1, lq8, lq24, lq2048] at *; (try simp (disch := omega) only [pq_bm] at *); all_goals omega)); exact pq_fgm [true, true, true] (ih _ _ _ (jn + 1) ((hF.uI hgbL (by first | decide | exact List.mem_cons_self)).uO haL (by decide)) pq_ks (by rw [hk]; rfl) (by omega) (by focus ((try clear hb9); (try clear ih); simp only [vp_in_iff, Int32.lt_iff_toInt_lt, Int32.le_iff_toInt_le, ← Int32.toInt_inj, Int32.toInt_add, Int32.toInt_sub, Int32.toInt_mul, Int32.toInt_neg, pq_NuO, pq_NuI, pq_NuJ, pq_NuR, pq_shr6, pq_shr7, pq_shr8, lqm8, lqm1, lq0, lq1, lq8, lq24, lq2048] at *; (try simp (disch := omega) only [pq_bm] at *); all_goals omega)) (by simp only [pq_IuO, pq_IuJ, pq_Iu, pq_JuO, pq_JuI, pq_Ju, pq_RuO, pq_RuJ, pq_RuI, if_true, if_false]; rw [ct8, hb9, hk]; rfl) (by omega)))
  refine pq_bipush (v := 24) F dX11_four_0 (by decide) ?_
  refine pq_istore_n F dX11_four_2 rfl (by decide) ?_
  exact pq_fgm [true, true, true] (L3 100 _ _ t 0 pq_Fr.rf ht rfl (Nat.zero_le _) (by focus ((try clear hb9); (try clear ih); simp only [vp_in_iff, Int32.lt_iff_toInt_lt, Int32.le_iff_toInt_le, ← Int32.toInt_inj, Int32.toInt_add, Int32.toInt_sub, Int32.toInt_mul, Int32.toInt_neg, pq_NuO, pq_NuI, pq_NuJ, pq_NuR, pq_shr6, pq_shr7, pq_shr8, lqm8, lqm1, lq0, lq1, lq8, lq24, lq2048] at *; (try simp (disch := omega) only [pq_bm] at *); all_goals omega)) rfl (by focus ((try clear hb9); (try clear ih); simp only [vp_in_iff, Int32.lt_iff_toInt_lt, Int32.le_iff_toInt_le, ← Int32.toInt_inj, Int32.toInt_add, Int32.toInt_sub, Int32.toInt_mul, Int32.toInt_neg, pq_NuO, pq_NuI, pq_NuJ, pq_NuR, pq_shr6, pq_shr7, pq_shr8, lqm8, lqm1, lq0, lq1, lq8, lq24, lq2048] at *; (try simp (disch := omega) only [pq_bm] at *); all_goals omega)))

