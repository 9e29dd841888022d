set_option maxHeartbeats 4000000 in
set_option maxRecDepth 100000 in
theorem k_X6_hereC (l : Launch) (D : va_G) (cy : Nat → ClassId) (S : HS) (a : Nat) (ha : pq_R S a 9) (lv : Nat) (hlv : pq_R S lv 230) (dp : Int32) (e6 : hO S a 6 = .int dp) (hd0 : 0 ≤ dp.toInt) (hd1 : dp.toInt ≤ 40) (hbb : ∃ b, hR S lv dp.toNatClampNeg = some b) : pq_C l D cy yX6_here cX6_here 2 (some (.object "PatternPairs$Ends")) 1 0 0 S [.ref a, .ref lv] (fun v S2 => S2 = S ∧ ∃ x : Nat, v = some (.ref x) ∧ pq_R S2 x 5) := by
  refine pq_start (by decide) (Nat.le_of_ble_eq_true rfl) ?_
  intro p e s m args below meth c A F hr hlk hnm hA
  have lqm1 : (-1 : Int32).toInt = -1 := rfl
  have lq0 : (0 : Int32).toInt = 0 := rfl
  have lq1 : (1 : Int32).toInt = 1 := rfl
  obtain ⟨bb, hbb⟩ := hbb
  refine pq_aload_n F dX6_here_0 rfl rfl ?_
  refine pq_aload_n F dX6_here_1 rfl rfl ?_
  refine pq_get F ha (by decide) lk_X6_45 e6 dX6_here_2 ?_
  refine pq_aald F hlv (by decide) (fun n1_5 n2_5 => (by change _ ≤ _ at n1_5; change _ ≤ 41 at n2_5; change 41 ≤ _ at n1_5; focus (simp only [vp_in_iff, Int32.lt_iff_toInt_lt, Int32.le_iff_toInt_le, ← Int32.toInt_inj, Int32.toInt_add, Int32.toInt_sub, Int32.toInt_mul, Int32.toInt_neg, pq_NuO, pq_NuI, pq_NuJ, pq_NuR, pq_shr6, pq_shr7, pq_shr8, lqm1, lq0, lq1] at *; (try simp (disch := omega) only [pq_bm] at *); all_goals omega))) dX6_here_5 (fun o5 e5 k5 => ?_)
  rw [hbb] at e5
  subst e5
  have h5 : pq_R S bb 5 := k5.2 (Or.inl rfl) bb rfl
  refine pq_nonnull (tgt := 22) F dX6_here_6 (by decide) ?_
  refine pq_aload_n F dX6_here_22 rfl rfl ?_
  refine pq_aload_n F dX6_here_23 rfl rfl ?_
  refine pq_get F ha (by decide) lk_X6_45 e6 dX6_here_24 ?_
  refine pq_aald F hlv (by decide) (fun n1_27 n2_27 => (by change _ ≤ _ at n1_27; change _ ≤ 41 at n2_27; change 41 ≤ _ at n1_27; focus (simp only [vp_in_iff, Int32.lt_iff_toInt_lt, Int32.le_iff_toInt_le, ← Int32.toInt_inj, Int32.toInt_add, Int32.toInt_sub, Int32.toInt_mul, Int32.toInt_neg, pq_NuO, pq_NuI, pq_NuJ, pq_NuR, pq_shr6, pq_shr7, pq_shr8, lqm1, lq0, lq1] at *; (try simp (disch := omega) only [pq_bm] at *); all_goals omega))) dX6_here_27 (fun o27 e27 k27 => ?_)
  rw [hbb] at e27
  subst e27
  have h27 : pq_R S bb 5 := k27.2 (Or.inl rfl) bb rfl
  exact pq_aret F hr (by first | exact Or.inl ⟨_, rfl⟩ | exact Or.inr ⟨_, rfl⟩) hlk hA (Nat.le_refl _) (Nat.le_refl _) (⟨rfl, _, rfl, h27⟩) dX6_here_28

set_option maxHeartbeats 4000000 in
set_option maxRecDepth 100000 in
theorem k_X6_hereQ (l : Launch) (D : va_G) (cy : Nat → ClassId) (S : HS) (a : Nat) (ha : pq_R S a 9) (lv : Nat) (hlv : pq_R S lv 231) (dp : Int32) (e6 : hO S a 6 = .int dp) (hd0 : 0 ≤ dp.toInt) (hd1 : dp.toInt ≤ 40) (hbb : ∃ b, hR S lv dp.toNatClampNeg = some b) : pq_C l D cy yX6_here cX6_here 2 (some (.object "PatternPairs$Ends")) 1 0 0 S [.ref a, .ref lv] (fun v S2 => S2 = S ∧ ∃ x : Nat, v = some (.ref x) ∧ pq_R S2 x 5) := by
  refine pq_start (by decide) (Nat.le_of_ble_eq_true rfl) ?_
  intro p e s m args below meth c A F hr hlk hnm hA
  have lqm1 : (-1 : Int32).toInt = -1 := rfl
  have lq0 : (0 : Int32).toInt = 0 := rfl
  have lq1 : (1 : Int32).toInt = 1 := rfl
  obtain ⟨bb, hbb⟩ := hbb
  refine pq_aload_n F dX6_here_0 rfl rfl ?_
  refine pq_aload_n F dX6_here_1 rfl rfl ?_
  refine pq_get F ha (by decide) lk_X6_45 e6 dX6_here_2 ?_
  refine pq_aald F hlv (by decide) (fun n1_5 n2_5 => (by change _ ≤ _ at n1_5; change _ ≤ 41 at n2_5; change 41 ≤ _ at n1_5; focus (simp only [vp_in_iff, Int32.lt_iff_toInt_lt, Int32.le_iff_toInt_le, ← Int32.toInt_inj, Int32.toInt_add, Int32.toInt_sub, Int32.toInt_mul, Int32.toInt_neg, pq_NuO, pq_NuI, pq_NuJ, pq_NuR, pq_shr6, pq_shr7, pq_shr8, lqm1, lq0, lq1] at *; (try simp (disch := omega) only [pq_bm] at *); all_goals omega))) dX6_here_5 (fun o5 e5 k5 => ?_)
  rw [hbb] at e5
  subst e5
  have h5 : pq_R S bb 5 := k5.2 (Or.inr rfl) bb rfl
  refine pq_nonnull (tgt := 22) F dX6_here_6 (by decide) ?_
  refine pq_aload_n F dX6_here_22 rfl rfl ?_
  refine pq_aload_n F dX6_here_23 rfl rfl ?_
  refine pq_get F ha (by decide) lk_X6_45 e6 dX6_here_24 ?_
  refine pq_aald F hlv (by decide) (fun n1_27 n2_27 => (by change _ ≤ _ at n1_27; change _ ≤ 41 at n2_27; change 41 ≤ _ at n1_27; focus (simp only [vp_in_iff, Int32.lt_iff_toInt_lt, Int32.le_iff_toInt_le, ← Int32.toInt_inj, Int32.toInt_add, Int32.toInt_sub, Int32.toInt_mul, Int32.toInt_neg, pq_NuO, pq_NuI, pq_NuJ, pq_NuR, pq_shr6, pq_shr7, pq_shr8, lqm1, lq0, lq1] at *; (try simp (disch := omega) only [pq_bm] at *); all_goals omega))) dX6_here_27 (fun o27 e27 k27 => ?_)
  rw [hbb] at e27
  subst e27
  have h27 : pq_R S bb 5 := k27.2 (Or.inr rfl) bb rfl
  exact pq_aret F hr (by first | exact Or.inl ⟨_, rfl⟩ | exact Or.inr ⟨_, rfl⟩) hlk hA (Nat.le_refl _) (Nat.le_refl _) (⟨rfl, _, rfl, h27⟩) dX6_here_28

set_option maxHeartbeats 4000000 in
set_option maxRecDepth 100000 in
theorem k_X6_isRepeat (l : Launch) (D : va_G) (cy : Nat → ClassId) (S : HS) (c0 : Int32) : pq_C l D cy yX6_isRepeat cX6_isRepeat 1 (some .boolean) 1 0 0 S [.int c0] (fun v S2 => S2 = S ∧ ∃ x : Int32, v = some (.int x) ∧ 0 ≤ x.toInt ∧ x.toInt ≤ 1 ∧ (x = 1 → 0 ≤ c0.toInt)) := by
  refine pq_start (by decide) (Nat.le_of_ble_eq_true rfl) ?_
  intro p e s m args below meth c A F hr hlk hnm hA
  have lqm1 : (-1 : Int32).toInt = -1 := rfl
  have lq0 : (0 : Int32).toInt = 0 := rfl
  have lq1 : (1 : Int32).toInt = 1 := rfl
  have lq42 : (42 : Int32).toInt = 42 := rfl
  have lq43 : (43 : Int32).toInt = 43 := rfl
  have lq63 : (63 : Int32).toInt = 63 := rfl
  refine pq_iload_n F dX6_isRepeat_0 rfl rfl ?_
  refine pq_bipush (v := 42) F dX6_isRepeat_1 (by decide) ?_
  refine pq_icmp_eq (tgt := 18) F dX6_isRepeat_3 (by decide) (fun c3 => ?_) (fun c3 => ?_)
  · skip
    refine pq_iconst (v := 1) F dX6_isRepeat_18 (by decide) ?_
    refine pq_goto (tgt := 23) F dX6_isRepeat_19 (by decide) ?_
    exact pq_zret F hr hlk hA rfl (Nat.le_refl _) (Nat.le_refl _) (⟨rfl, 1, rfl, (by focus (simp only [vp_in_iff, Int32.lt_iff_toInt_lt, Int32.le_iff_toInt_le, ← Int32.toInt_inj, Int32.toInt_add, Int32.toInt_sub, Int32.toInt_mul, Int32.toInt_neg, pq_NuO, pq_NuI, pq_NuJ, pq_NuR, pq_shr6, pq_shr7, pq_shr8, lqm1, lq0, lq1, lq42, lq43, lq63] at *; (try simp (disch := omega) only [pq_bm] at *); all_goals omega)), (by focus (simp only [vp_in_iff, Int32.lt_iff_toInt_lt, Int32.le_iff_toInt_le, ← Int32.toInt_inj, Int32.toInt_add, Int32.toInt_sub, Int32.toInt_mul, Int32.toInt_neg, pq_NuO, pq_NuI, pq_NuJ, pq_NuR, pq_shr6, pq_shr7, pq_shr8, lqm1, lq0, lq1, lq42, lq43, lq63] at *; (try simp (disch := omega) only [pq_bm] at *); all_goals omega)), fun _ => (by focus (simp only [vp_in_iff, Int32.lt_iff_toInt_lt, Int32.le_iff_toInt_le, ← Int32.toInt_inj, Int32.toInt_add, Int32.toInt_sub, Int32.toInt_mul, Int32.toInt_neg, pq_NuO, pq_NuI, pq_NuJ, pq_NuR, pq_shr6, pq_shr7, pq_shr8, lqm1, lq0, lq1, lq42, lq43, lq63] at *; (try simp (disch := omega) only [pq_bm] at *); all_goals omega))⟩) dX6_isRepeat_23
  · skip
    refine pq_iload_n F dX6_isRepeat_6 rfl rfl ?_
    refine pq_bipush (v := 43) F dX6_isRepeat_7 (by decide) ?_
    refine pq_icmp_eq (tgt := 18) F dX6_isRepeat_9 (by decide) (fun c9 => ?_) (fun c9 => ?_)
    · skip
      refine pq_iconst (v := 1) F dX6_isRepeat_18 (by decide) ?_
      refine pq_goto (tgt := 23) F dX6_isRepeat_19 (by decide) ?_
      exact pq_zret F hr hlk hA rfl (Nat.le_refl _) (Nat.le_refl _) (⟨rfl, 1, rfl, (by focus (simp only [vp_in_iff, Int32.lt_iff_toInt_lt, Int32.le_iff_toInt_le, ← Int32.toInt_inj, Int32.toInt_add, Int32.toInt_sub, Int32.toInt_mul, Int32.toInt_neg, pq_NuO, pq_NuI, pq_NuJ, pq_NuR, pq_shr6, pq_shr7, pq_shr8, lqm1, lq0, lq1, lq42, lq43, lq63] at *; (try simp (disch := omega) only [pq_bm] at *); all_goals omega)), (by focus (simp only [vp_in_iff, Int32.lt_iff_toInt_lt, Int32.le_iff_toInt_le, ← Int32.toInt_inj, Int32.toInt_add, Int32.toInt_sub, Int32.toInt_mul, Int32.toInt_neg, pq_NuO, pq_NuI, pq_NuJ, pq_NuR, pq_shr6, pq_shr7, pq_shr8, lqm1, lq0, lq1, lq42, lq43, lq63] at *; (try simp (disch := omega) only [pq_bm] at *); all_goals omega)), fun _ => (by focus (simp only [vp_in_iff, Int32.lt_iff_toInt_lt, Int32.le_iff_toInt_le, ← Int32.toInt_inj, Int32.toInt_add, Int32.toInt_sub, Int32.toInt_mul, Int32.toInt_neg, pq_NuO, pq_NuI, pq_NuJ, pq_NuR, pq_shr6, pq_shr7, pq_shr8, lqm1, lq0, lq1, lq42, lq43, lq63] at *; (try simp (disch := omega) only [pq_bm] at *); all_goals omega))⟩) dX6_isRepeat_23
    · skip
      refine pq_iload_n F dX6_isRepeat_12 rfl rfl ?_
      refine pq_bipush (v := 63) F dX6_isRepeat_13 (by decide) ?_
      refine pq_icmp_ne (tgt := 22) F dX6_isRepeat_15 (by decide) (fun c15 => ?_) (fun c15 => ?_)
      · skip
        refine pq_iconst (v := 0) F dX6_isRepeat_22 (by decide) ?_
        exact pq_zret F hr hlk hA rfl (Nat.le_refl _) (Nat.le_refl _) (⟨rfl, 0, rfl, (by focus (simp only [vp_in_iff, Int32.lt_iff_toInt_lt, Int32.le_iff_toInt_le, ← Int32.toInt_inj, Int32.toInt_add, Int32.toInt_sub, Int32.toInt_mul, Int32.toInt_neg, pq_NuO, pq_NuI, pq_NuJ, pq_NuR, pq_shr6, pq_shr7, pq_shr8, lqm1, lq0, lq1, lq42, lq43, lq63] at *; (try simp (disch := omega) only [pq_bm] at *); all_goals omega)), (by focus (simp only [vp_in_iff, Int32.lt_iff_toInt_lt, Int32.le_iff_toInt_le, ← Int32.toInt_inj, Int32.toInt_add, Int32.toInt_sub, Int32.toInt_mul, Int32.toInt_neg, pq_NuO, pq_NuI, pq_NuJ, pq_NuR, pq_shr6, pq_shr7, pq_shr8, lqm1, lq0, lq1, lq42, lq43, lq63] at *; (try simp (disch := omega) only [pq_bm] at *); all_goals omega)), fun z => absurd z (by decide)⟩) dX6_isRepeat_23
      · skip
        refine pq_iconst (v := 1) F dX6_isRepeat_18 (by decide) ?_
        refine pq_goto (tgt := 23) F dX6_isRepeat_19 (by decide) ?_
        exact pq_zret F hr hlk hA rfl (Nat.le_refl _) (Nat.le_refl _) (⟨rfl, 1, rfl, (by focus (simp only [vp_in_iff, Int32.lt_iff_toInt_lt, Int32.le_iff_toInt_le, ← Int32.toInt_inj, Int32.toInt_add, Int32.toInt_sub, Int32.toInt_mul, Int32.toInt_neg, pq_NuO, pq_NuI, pq_NuJ, pq_NuR, pq_shr6, pq_shr7, pq_shr8, lqm1, lq0, lq1, lq42, lq43, lq63] at *; (try simp (disch := omega) only [pq_bm] at *); all_goals omega)), (by focus (simp only [vp_in_iff, Int32.lt_iff_toInt_lt, Int32.le_iff_toInt_le, ← Int32.toInt_inj, Int32.toInt_add, Int32.toInt_sub, Int32.toInt_mul, Int32.toInt_neg, pq_NuO, pq_NuI, pq_NuJ, pq_NuR, pq_shr6, pq_shr7, pq_shr8, lqm1, lq0, lq1, lq42, lq43, lq63] at *; (try simp (disch := omega) only [pq_bm] at *); all_goals omega)), fun _ => (by focus (simp only [vp_in_iff, Int32.lt_iff_toInt_lt, Int32.le_iff_toInt_le, ← Int32.toInt_inj, Int32.toInt_add, Int32.toInt_sub, Int32.toInt_mul, Int32.toInt_neg, pq_NuO, pq_NuI, pq_NuJ, pq_NuR, pq_shr6, pq_shr7, pq_shr8, lqm1, lq0, lq1, lq42, lq43, lq63] at *; (try simp (disch := omega) only [pq_bm] at *); all_goals omega))⟩) dX6_isRepeat_23

set_option maxHeartbeats 4000000 in
set_option maxRecDepth 100000 in
theorem k_X6_escaped (l : Launch) (D : va_G) (cy : Nat → ClassId) (S : HS) (c0 : Int32) (hc00 : -1 ≤ c0.toInt) (hc01 : c0.toInt ≤ 255) : pq_C l D cy yX6_escaped cX6_escaped 1 (some .int) 5 0 0 S [.int c0] (fun v S2 => S2 = S ∧ ∃ x : Int32, v = some (.int x) ∧ -1 ≤ x.toInt ∧ x.toInt ≤ 255 ∧ (c0.toInt < 0 → x = -1)) := by
  refine pq_start (by decide) (Nat.le_of_ble_eq_true rfl) ?_
  intro p e s m args below meth c A F hr hlk hnm hA
  have lqm1 : (-1 : Int32).toInt = -1 := rfl
  have lq0 : (0 : Int32).toInt = 0 := rfl
  have lq1 : (1 : Int32).toInt = 1 := rfl
  have lq9 : (9 : Int32).toInt = 9 := rfl
  have lq10 : (10 : Int32).toInt = 10 := rfl
  have lq13 : (13 : Int32).toInt = 13 := rfl
  refine pq_iload_n F dX6_escaped_0 rfl rfl ?_
  by_cases c1_0 : c0 = 110
  · refine pq_look (tgt := 36) (off := 35) F dX6_escaped_1 (by decide) (by rw [c1_0]; rfl) (by decide) ?_
    refine pq_bipush (v := 10) F dX6_escaped_36 (by decide) ?_
    exact pq_iret F hr hlk hA (Nat.le_refl _) (Nat.le_refl _) (⟨rfl, 10, rfl, (by focus (simp only [vp_in_iff, Int32.lt_iff_toInt_lt, Int32.le_iff_toInt_le, ← Int32.toInt_inj, Int32.toInt_add, Int32.toInt_sub, Int32.toInt_mul, Int32.toInt_neg, pq_NuO, pq_NuI, pq_NuJ, pq_NuR, pq_shr6, pq_shr7, pq_shr8, lqm1, lq0, lq1, lq9, lq10, lq13] at *; (try simp (disch := omega) only [pq_bm] at *); all_goals omega)), (by focus (simp only [vp_in_iff, Int32.lt_iff_toInt_lt, Int32.le_iff_toInt_le, ← Int32.toInt_inj, Int32.toInt_add, Int32.toInt_sub, Int32.toInt_mul, Int32.toInt_neg, pq_NuO, pq_NuI, pq_NuJ, pq_NuR, pq_shr6, pq_shr7, pq_shr8, lqm1, lq0, lq1, lq9, lq10, lq13] at *; (try simp (disch := omega) only [pq_bm] at *); all_goals omega)), fun z => absurd z (by rw [c1_0]; decide)⟩) dX6_escaped_38
  by_cases c1_1 : c0 = 114
  · refine pq_look (tgt := 42) (off := 41) F dX6_escaped_1 (by decide) (by rw [c1_1]; rfl) (by decide) ?_
    refine pq_bipush (v := 13) F dX6_escaped_42 (by decide) ?_
    exact pq_iret F hr hlk hA (Nat.le_refl _) (Nat.le_refl _) (⟨rfl, 13, rfl, (by focus (simp only [vp_in_iff, Int32.lt_iff_toInt_lt, Int32.le_iff_toInt_le, ← Int32.toInt_inj, Int32.toInt_add, Int32.toInt_sub, Int32.toInt_mul, Int32.toInt_neg, pq_NuO, pq_NuI, pq_NuJ, pq_NuR, pq_shr6, pq_shr7, pq_shr8, lqm1, lq0, lq1, lq9, lq10, lq13] at *; (try simp (disch := omega) only [pq_bm] at *); all_goals omega)), (by focus (simp only [vp_in_iff, Int32.lt_iff_toInt_lt, Int32.le_iff_toInt_le, ← Int32.toInt_inj, Int32.toInt_add, Int32.toInt_sub, Int32.toInt_mul, Int32.toInt_neg, pq_NuO, pq_NuI, pq_NuJ, pq_NuR, pq_shr6, pq_shr7, pq_shr8, lqm1, lq0, lq1, lq9, lq10, lq13] at *; (try simp (disch := omega) only [pq_bm] at *); all_goals omega)), fun z => absurd z (by rw [c1_1]; decide)⟩) dX6_escaped_44
  by_cases c1_2 : c0 = 116
  · refine pq_look (tgt := 39) (off := 38) F dX6_escaped_1 (by decide) (by rw [c1_2]; rfl) (by decide) ?_
    refine pq_bipush (v := 9) F dX6_escaped_39 (by decide) ?_
    exact pq_iret F hr hlk hA (Nat.le_refl _) (Nat.le_refl _) (⟨rfl, 9, rfl, (by focus (simp only [vp_in_iff, Int32.lt_iff_toInt_lt, Int32.le_iff_toInt_le, ← Int32.toInt_inj, Int32.toInt_add, Int32.toInt_sub, Int32.toInt_mul, Int32.toInt_neg, pq_NuO, pq_NuI, pq_NuJ, pq_NuR, pq_shr6, pq_shr7, pq_shr8, lqm1, lq0, lq1, lq9, lq10, lq13] at *; (try simp (disch := omega) only [pq_bm] at *); all_goals omega)), (by focus (simp only [vp_in_iff, Int32.lt_iff_toInt_lt, Int32.le_iff_toInt_le, ← Int32.toInt_inj, Int32.toInt_add, Int32.toInt_sub, Int32.toInt_mul, Int32.toInt_neg, pq_NuO, pq_NuI, pq_NuJ, pq_NuR, pq_shr6, pq_shr7, pq_shr8, lqm1, lq0, lq1, lq9, lq10, lq13] at *; (try simp (disch := omega) only [pq_bm] at *); all_goals omega)), fun z => absurd z (by rw [c1_2]; decide)⟩) dX6_escaped_41
  refine pq_look (tgt := 45) (off := 44) F dX6_escaped_1 (by decide) (by show Op.lookupswitch.offset [(110, 35), (114, 41), (116, 38)] 44 c0.toInt = 44; rw [lv_osw (a := 110) c1_0 rfl, lv_osw (a := 114) c1_1 rfl, lv_osw (a := 116) c1_2 rfl]; rfl) (by decide) ?_
  refine pq_iload_n F dX6_escaped_45 rfl rfl ?_
  refine pq_if_lt (tgt := 63) F dX6_escaped_46 (by decide) (fun c46 => ?_) (fun c46 => ?_)
  · skip
    refine pq_iconst (v := -1) F dX6_escaped_63 (by decide) ?_
    exact pq_iret F hr hlk hA (Nat.le_refl _) (Nat.le_refl _) (⟨rfl, -1, rfl, (by focus (simp only [vp_in_iff, Int32.lt_iff_toInt_lt, Int32.le_iff_toInt_le, ← Int32.toInt_inj, Int32.toInt_add, Int32.toInt_sub, Int32.toInt_mul, Int32.toInt_neg, pq_NuO, pq_NuI, pq_NuJ, pq_NuR, pq_shr6, pq_shr7, pq_shr8, lqm1, lq0, lq1, lq9, lq10, lq13] at *; (try simp (disch := omega) only [pq_bm] at *); all_goals omega)), (by focus (simp only [vp_in_iff, Int32.lt_iff_toInt_lt, Int32.le_iff_toInt_le, ← Int32.toInt_inj, Int32.toInt_add, Int32.toInt_sub, Int32.toInt_mul, Int32.toInt_neg, pq_NuO, pq_NuI, pq_NuJ, pq_NuR, pq_shr6, pq_shr7, pq_shr8, lqm1, lq0, lq1, lq9, lq10, lq13] at *; (try simp (disch := omega) only [pq_bm] at *); all_goals omega)), fun _ => rfl⟩) dX6_escaped_64
  · skip
    refine pq_ldcS (i := 2) F (by decide) rfl rfl dX6_escaped_49 ?_
    refine pq_iload_n F dX6_escaped_51 rfl rfl ?_
    refine pq_i2c F dX6_escaped_52 ?_
    refine pq_kcallV (As := [_]) F (by decide) (k_J0_indexOf_0f7a4 l D cy _ _ ?_ _) ml_X6_170 rfl (Nat.le_of_ble_eq_true rfl) ⟨Nat.le_of_ble_eq_true rfl, Nat.le_of_ble_eq_true rfl⟩ ⟨by decide, by decide⟩ dX6_escaped_53 (fun v53 S53 w53 => ?_)
    · exact by decide
    obtain ⟨u53, y53, rfl⟩ := w53
    rw [u53]
    refine pq_if_lt (tgt := 63) F dX6_escaped_56 (by decide) (fun c56 => ?_) (fun c56 => ?_)
    · skip
      refine pq_iconst (v := -1) F dX6_escaped_63 (by decide) ?_
      exact pq_iret F hr hlk hA (Nat.le_refl _) (Nat.le_refl _) (⟨rfl, -1, rfl, (by focus (simp only [vp_in_iff, Int32.lt_iff_toInt_lt, Int32.le_iff_toInt_le, ← Int32.toInt_inj, Int32.toInt_add, Int32.toInt_sub, Int32.toInt_mul, Int32.toInt_neg, pq_NuO, pq_NuI, pq_NuJ, pq_NuR, pq_shr6, pq_shr7, pq_shr8, lqm1, lq0, lq1, lq9, lq10, lq13] at *; (try simp (disch := omega) only [pq_bm] at *); all_goals omega)), (by focus (simp only [vp_in_iff, Int32.lt_iff_toInt_lt, Int32.le_iff_toInt_le, ← Int32.toInt_inj, Int32.toInt_add, Int32.toInt_sub, Int32.toInt_mul, Int32.toInt_neg, pq_NuO, pq_NuI, pq_NuJ, pq_NuR, pq_shr6, pq_shr7, pq_shr8, lqm1, lq0, lq1, lq9, lq10, lq13] at *; (try simp (disch := omega) only [pq_bm] at *); all_goals omega)), fun _ => rfl⟩) dX6_escaped_64
    · skip
      refine pq_iload_n F dX6_escaped_59 rfl rfl ?_
      refine pq_goto (tgt := 64) F dX6_escaped_60 (by decide) ?_
      exact pq_iret F hr hlk hA (Nat.le_refl _) (Nat.le_refl _) (⟨rfl, c0, rfl, (by focus (simp only [vp_in_iff, Int32.lt_iff_toInt_lt, Int32.le_iff_toInt_le, ← Int32.toInt_inj, Int32.toInt_add, Int32.toInt_sub, Int32.toInt_mul, Int32.toInt_neg, pq_NuO, pq_NuI, pq_NuJ, pq_NuR, pq_shr6, pq_shr7, pq_shr8, lqm1, lq0, lq1, lq9, lq10, lq13] at *; (try simp (disch := omega) only [pq_bm] at *); all_goals omega)), (by focus (simp only [vp_in_iff, Int32.lt_iff_toInt_lt, Int32.le_iff_toInt_le, ← Int32.toInt_inj, Int32.toInt_add, Int32.toInt_sub, Int32.toInt_mul, Int32.toInt_neg, pq_NuO, pq_NuI, pq_NuJ, pq_NuR, pq_shr6, pq_shr7, pq_shr8, lqm1, lq0, lq1, lq9, lq10, lq13] at *; (try simp (disch := omega) only [pq_bm] at *); all_goals omega)), fun z => absurd c46 (fun w => (by focus (simp only [vp_in_iff, Int32.lt_iff_toInt_lt, Int32.le_iff_toInt_le, ← Int32.toInt_inj, Int32.toInt_add, Int32.toInt_sub, Int32.toInt_mul, Int32.toInt_neg, pq_NuO, pq_NuI, pq_NuJ, pq_NuR, pq_shr6, pq_shr7, pq_shr8, lqm1, lq0, lq1, lq9, lq10, lq13] at *; (try simp (disch := omega) only [pq_bm] at *); all_goals omega)))⟩) dX6_escaped_64

set_option maxHeartbeats 4000000 in
set_option maxRecDepth 100000 in
theorem k_X6_include (l : Launch) (D : va_G) (cy : Nat → ClassId) (S : HS) (a : Nat) (ha : pq_R S a 9) (lo : Int32) (hi : Int32) : pq_C l D cy yX6_include cX6_include 4 (none) 1 0 0 S [.ref a, .int lo, .int hi] (fun v S2 => v = none ∧ pq_Fr [(9, 8), (9, 9)] S S2) := by
  refine pq_start (by decide) (Nat.le_of_ble_eq_true rfl) ?_
  intro p e s m args below meth c A F hr hlk hnm hA
  have lqm1 : (-1 : Int32).toInt = -1 := rfl
  have lq0 : (0 : Int32).toInt = 0 := rfl
  have lq1 : (1 : Int32).toInt = 1 := rfl
  have lq64 : (64 : Int32).toInt = 64 := rfl
  have lq128 : (128 : Int32).toInt = 128 := rfl
  have L6 : ∀  (fu : Nat) (S1 : HS) (k : Int32)  (hF : pq_Fr [(9, 8), (9, 9)] S S1) (hk0 : 0 ≤ k.toInt), (128 - k.toInt).toNat < fu → pq_At p l e (pq_rm 1 0 0) s m args below meth c (pq_Z below args s D cy S 0 0 (fun v S2 => v = none ∧ pq_Fr [(9, 8), (9, 9)] S S2)) D cy A 4 0 0 6 S1 [some (.ref a), some (.int lo), some (.int hi), some (.int k)] [] := by
    intro  fu
    induction fu with
    | zero => intro S1 k hF hk0 hm; exact absurd hm (Nat.not_lt_zero _)
    | succ fu ih =>
      intro S1 k hF hk0 hm
      have haL := hF.R ha (by first | decide | omega)
      refine pq_iload_n F dX6_include_6 rfl rfl ?_
      refine pq_iload_n F dX6_include_7 rfl rfl ?_
      refine pq_icmp_gt (tgt := 60) F dX6_include_8 (by decide) (fun c8 => ?_) (fun c8 => ?_)
      · skip
        exact pq_vret F hr hlk hA (Nat.le_refl _) (Nat.le_refl _) (⟨rfl, hF⟩) dX6_include_60
      · skip
        refine pq_iload_n F dX6_include_11 rfl rfl ?_
        refine pq_sipush (v := 128) F dX6_include_12 (by decide) ?_
        refine pq_icmp_ge (tgt := 60) F dX6_include_15 (by decide) (fun c15 => ?_) (fun c15 => ?_)
        · skip
          exact pq_vret F hr hlk hA (Nat.le_refl _) (Nat.le_refl _) (⟨rfl, hF⟩) dX6_include_60
        · skip
          refine pq_iload_n F dX6_include_18 rfl rfl ?_
          refine pq_bipush (v := 64) F dX6_include_19 (by decide) ?_
          refine pq_icmp_ge (tgt := 39) F dX6_include_21 (by decide) (fun c21 => ?_) (fun c21 => ?_)
          · skip
            refine pq_aload_n F dX6_include_39 rfl rfl ?_
            refine pq_dup F dX6_include_40 rfl ?_
            refine pq_getJ F haL (by decide) lk_X6_100 rfl dX6_include_41 (fun x41 e41 => ?_)
            refine pq_lconst (v := 1) F dX6_include_44 (by decide) ?_
            refine pq_iload_n F dX6_include_45 rfl rfl ?_
            refine pq_bipush (v := 64) F dX6_include_46 (by decide) ?_
            refine pq_isub F dX6_include_48 ?_
            refine pq_lshl F dX6_include_49 ?_
            refine pq_lor F dX6_include_50 ?_
            refine pq_put F haL (by decide) lp_X6_100 rfl rfl (⟨_, rfl⟩) dX6_include_51 ?_
            refine pq_iinc (v := 1) F dX6_include_54 rfl (by decide) (by decide) ?_
            refine pq_goto (tgt := 6) F dX6_include_57 (by decide) ?_
            exact pq_fgm [true, true, true, true] (ih _ _ (hF.uO haL (by decide)) (by focus (simp only [vp_in_iff, Int32.lt_iff_toInt_lt, Int32.le_iff_toInt_le, ← Int32.toInt_inj, Int32.toInt_add, Int32.toInt_sub, Int32.toInt_mul, Int32.toInt_neg, pq_NuO, pq_NuI, pq_NuJ, pq_NuR, pq_shr6, pq_shr7, pq_shr8, lqm1, lq0, lq1, lq64, lq128] at *; (try simp (disch := omega) only [pq_bm] at *); all_goals omega)) (by focus (simp only [vp_in_iff, Int32.lt_iff_toInt_lt, Int32.le_iff_toInt_le, ← Int32.toInt_inj, Int32.toInt_add, Int32.toInt_sub, Int32.toInt_mul, Int32.toInt_neg, pq_NuO, pq_NuI, pq_NuJ, pq_NuR, pq_shr6, pq_shr7, pq_shr8, lqm1, lq0, lq1, lq64, lq128] at *; (try simp (disch := omega) only [pq_bm] at *); all_goals omega)))
          · skip
            refine pq_aload_n F dX6_include_24 rfl rfl ?_
            refine pq_dup F dX6_include_25 rfl ?_
            refine pq_getJ F haL (by decide) lk_X6_96 rfl dX6_include_26 (fun x26 e26 => ?_)
            refine pq_lconst (v := 1) F dX6_include_29 (by decide) ?_
            refine pq_iload_n F dX6_include_30 rfl rfl ?_
            refine pq_lshl F dX6_include_31 ?_
            refine pq_lor F dX6_include_32 ?_
            refine pq_put F haL (by decide) lp_X6_96 rfl rfl (⟨_, rfl⟩) dX6_include_33 ?_
            refine pq_goto (tgt := 54) F dX6_include_36 (by decide) ?_
            refine pq_iinc (v := 1) F dX6_include_54 rfl (by decide) (by decide) ?_
            refine pq_goto (tgt := 6) F dX6_include_57 (by decide) ?_
            exact pq_fgm [true, true, true, true] (ih _ _ (hF.uO haL (by decide)) (by focus (simp only [vp_in_iff, Int32.lt_iff_toInt_lt, Int32.le_iff_toInt_le, ← Int32.toInt_inj, Int32.toInt_add, Int32.toInt_sub, Int32.toInt_mul, Int32.toInt_neg, pq_NuO, pq_NuI, pq_NuJ, pq_NuR, pq_shr6, pq_shr7, pq_shr8, lqm1, lq0, lq1, lq64, lq128] at *; (try simp (disch := omega) only [pq_bm] at *); all_goals omega)) (by focus (simp only [vp_in_iff, Int32.lt_iff_toInt_lt, Int32.le_iff_toInt_le, ← Int32.toInt_inj, Int32.toInt_add, Int32.toInt_sub, Int32.toInt_mul, Int32.toInt_neg, pq_NuO, pq_NuI, pq_NuJ, pq_NuR, pq_shr6, pq_shr7, pq_shr8, lqm1, lq0, lq1, lq64, lq128] at *; (try simp (disch := omega) only [pq_bm] at *); all_goals omega)))
  refine pq_iload_n F dX6_include_0 rfl rfl ?_
  refine pq_iconst (v := 0) F dX6_include_1 (by decide) ?_
  refine pq_mmax F mx_X6_177 ⟨Nat.le_of_ble_eq_true rfl, Nat.le_of_ble_eq_true rfl⟩ (by decide) (by decide) dX6_include_2 (fun y2 yl2_0 yl2_1 yl2_2 => ?_)
  refine pq_istore_n F dX6_include_5 rfl (by decide) ?_
  exact pq_fgm [true, true, true, true] (L6  100000 _ _  pq_Fr.rf (by focus (simp only [vp_in_iff, Int32.lt_iff_toInt_lt, Int32.le_iff_toInt_le, ← Int32.toInt_inj, Int32.toInt_add, Int32.toInt_sub, Int32.toInt_mul, Int32.toInt_neg, pq_NuO, pq_NuI, pq_NuJ, pq_NuR, pq_shr6, pq_shr7, pq_shr8, lqm1, lq0, lq1, lq64, lq128] at *; (try simp (disch := omega) only [pq_bm] at *); all_goals omega)) (by focus (simp only [vp_in_iff, Int32.lt_iff_toInt_lt, Int32.le_iff_toInt_le, ← Int32.toInt_inj, Int32.toInt_add, Int32.toInt_sub, Int32.toInt_mul, Int32.toInt_neg, pq_NuO, pq_NuI, pq_NuJ, pq_NuR, pq_shr6, pq_shr7, pq_shr8, lqm1, lq0, lq1, lq64, lq128] at *; (try simp (disch := omega) only [pq_bm] at *); all_goals omega)))

set_option maxHeartbeats 4000000 in
set_option maxRecDepth 100000 in
theorem k_X6_readSymbol (l : Launch) (D : va_G) (cy : Nat → ClassId) (S : HS) (a : Nat) (ha : pq_R S a 9) (ks : Nat) (hks : ks < 6) (ch sq tp : Nat) (dp at1 br t : Int32) (hB : pq_Rd S a ch sq tp dp at1 br t dp.toInt) (hat : at1.toInt ≤ t.toInt) : pq_C l D cy yX6_readSymbol cX6_readSymbol 3 (some .int) 6 0 0 S [.ref a, .ref (cy (10 + ks))] (fun v S2 => pq_Fr [(9, 5), (9, 7)] S S2 ∧ ∃ x : Int32, v = some (.int x) ∧ -1 ≤ x.toInt ∧ x.toInt ≤ 255 ∧ (∃ at2 br2 : Int32, pq_Rd S2 a ch sq tp dp at2 br2 t dp.toInt ∧ (at1.toInt ≤ at2.toInt ∧ at2.toInt ≤ t.toInt) ∧ (0 ≤ br2.toInt ∨ (br2 = br ∧ at1.toInt + 1 ≤ at2.toInt ∧ 0 ≤ x.toInt)))) := by
  refine pq_start (by decide) (Nat.le_of_ble_eq_true rfl) ?_
  intro p e s m args below meth c A F hr hlk hnm hA
  have lqm1 : (-1 : Int32).toInt = -1 := rfl
  have lq0 : (0 : Int32).toInt = 0 := rfl
  have lq1 : (1 : Int32).toInt = 1 := rfl
  have lq32 : (32 : Int32).toInt = 32 := rfl
  have lq92 : (92 : Int32).toInt = 92 := rfl
  have lq126 : (126 : Int32).toInt = 126 := rfl
  obtain ⟨hd0, hd1, ha0, ha1, ht0, ht1⟩ := hB.b
  refine pq_aload_n F dX6_readSymbol_0 rfl rfl ?_
  refine pq_get F ha (by decide) lk_X6_25 hB.e0 dX6_readSymbol_1 ?_
  refine pq_aload_n F dX6_readSymbol_4 rfl rfl ?_
  refine pq_get F ha (by decide) lk_X6_38 hB.e5 dX6_readSymbol_5 ?_
  refine pq_callV (As := [_]) F (k_X9_byteAt l D cy _ _ ?_ _) ml_X6_79 hB.h0 (by decide) rfl (Nat.le_of_ble_eq_true rfl) ⟨Nat.le_of_ble_eq_true rfl, Nat.le_of_ble_eq_true rfl⟩ ⟨by decide, by decide⟩ dX6_readSymbol_8 (fun v8 S8 w8 => ?_)
  · exact hB.h0
  obtain ⟨u8, y8, rfl, yl8_0, yl8_1, p8⟩ := w8
  rw [u8]
  try rw [u8] at p8
  have p8a := p8.1 t hB.et
  refine pq_istore_n F dX6_readSymbol_11 rfl (by decide) ?_
  refine pq_iload_n F dX6_readSymbol_12 rfl rfl ?_
  refine pq_bipush (v := 92) F dX6_readSymbol_13 (by decide) ?_
  refine pq_icmp_ne (tgt := 46) F dX6_readSymbol_15 (by decide) (fun c15 => ?_) (fun c15 => ?_)
  · skip
    refine pq_iload_n F dX6_readSymbol_46 rfl rfl ?_
    refine pq_bipush (v := 32) F dX6_readSymbol_47 (by decide) ?_
    refine pq_icmp_lt (tgt := 67) F dX6_readSymbol_49 (by decide) (fun c49 => ?_) (fun c49 => ?_)
    · skip
      refine pq_iconst (v := -1) F dX6_readSymbol_67 (by decide) ?_
      refine pq_istore_n F dX6_readSymbol_68 rfl (by decide) ?_
      refine pq_iload_n F dX6_readSymbol_69 rfl rfl ?_
      refine pq_if_ge (tgt := 84) F dX6_readSymbol_70 (by decide) (fun c70 => ?_) (fun c70 => ?_)
      · exact absurd c70 (by decide)
      · skip
        refine pq_aload_n F dX6_readSymbol_73 rfl rfl ?_
        refine pq_aload_n F dX6_readSymbol_74 rfl rfl ?_
        refine pq_get F ha (by decide) lk_X6_38 hB.e5 dX6_readSymbol_75 ?_
        refine pq_putI F ha (by decide) lp_X6_42 rfl (pq_any1 _) (pq_any2 _) dX6_readSymbol_78 ?_
        refine pq_goto (tgt := 94) F dX6_readSymbol_81 (by decide) ?_
        refine pq_iload_n F dX6_readSymbol_94 rfl rfl ?_
        exact pq_iret F hr hlk hA (Nat.le_refl _) (Nat.le_refl _) (⟨(pq_Fr.rf.uO ha (by decide)), _, rfl, (by focus ((try clear p8); (try clear p8a); (try clear p36); (try clear p36a); (try clear p39); (try clear hB); simp only [vp_in_iff, Int32.lt_iff_toInt_lt, Int32.le_iff_toInt_le, ← Int32.toInt_inj, Int32.toInt_add, Int32.toInt_sub, Int32.toInt_mul, Int32.toInt_neg, pq_NuO, pq_NuI, pq_NuJ, pq_NuR, pq_shr6, pq_shr7, pq_shr8, lqm1, lq0, lq1, lq32, lq92, lq126] at *; (try simp (disch := omega) only [pq_bm] at *); all_goals omega)), (by focus ((try clear p8); (try clear p8a); (try clear p36); (try clear p36a); (try clear p39); (try clear hB); simp only [vp_in_iff, Int32.lt_iff_toInt_lt, Int32.le_iff_toInt_le, ← Int32.toInt_inj, Int32.toInt_add, Int32.toInt_sub, Int32.toInt_mul, Int32.toInt_neg, pq_NuO, pq_NuI, pq_NuJ, pq_NuR, pq_shr6, pq_shr7, pq_shr8, lqm1, lq0, lq1, lq32, lq92, lq126] at *; (try simp (disch := omega) only [pq_bm] at *); all_goals omega)), _, _, hB.p7, ⟨(by focus ((try clear p8); (try clear p8a); (try clear p36); (try clear p36a); (try clear p39); (try clear hB); simp only [vp_in_iff, Int32.lt_iff_toInt_lt, Int32.le_iff_toInt_le, ← Int32.toInt_inj, Int32.toInt_add, Int32.toInt_sub, Int32.toInt_mul, Int32.toInt_neg, pq_NuO, pq_NuI, pq_NuJ, pq_NuR, pq_shr6, pq_shr7, pq_shr8, lqm1, lq0, lq1, lq32, lq92, lq126] at *; (try simp (disch := omega) only [pq_bm] at *); all_goals omega)), (by focus ((try clear p8); (try clear p8a); (try clear p36); (try clear p36a); (try clear p39); (try clear hB); simp only [vp_in_iff, Int32.lt_iff_toInt_lt, Int32.le_iff_toInt_le, ← Int32.toInt_inj, Int32.toInt_add, Int32.toInt_sub, Int32.toInt_mul, Int32.toInt_neg, pq_NuO, pq_NuI, pq_NuJ, pq_NuR, pq_shr6, pq_shr7, pq_shr8, lqm1, lq0, lq1, lq32, lq92, lq126] at *; (try simp (disch := omega) only [pq_bm] at *); all_goals omega))⟩, Or.inl (by focus ((try clear p8); (try clear p8a); (try clear p36); (try clear p36a); (try clear p39); (try clear hB); simp only [vp_in_iff, Int32.lt_iff_toInt_lt, Int32.le_iff_toInt_le, ← Int32.toInt_inj, Int32.toInt_add, Int32.toInt_sub, Int32.toInt_mul, Int32.toInt_neg, pq_NuO, pq_NuI, pq_NuJ, pq_NuR, pq_shr6, pq_shr7, pq_shr8, lqm1, lq0, lq1, lq32, lq92, lq126] at *; (try simp (disch := omega) only [pq_bm] at *); all_goals omega))⟩) dX6_readSymbol_95
    · skip
      refine pq_iload_n F dX6_readSymbol_52 rfl rfl ?_
      refine pq_bipush (v := 126) F dX6_readSymbol_53 (by decide) ?_
      refine pq_icmp_gt (tgt := 67) F dX6_readSymbol_55 (by decide) (fun c55 => ?_) (fun c55 => ?_)
      · skip
        refine pq_iconst (v := -1) F dX6_readSymbol_67 (by decide) ?_
        refine pq_istore_n F dX6_readSymbol_68 rfl (by decide) ?_
        refine pq_iload_n F dX6_readSymbol_69 rfl rfl ?_
        refine pq_if_ge (tgt := 84) F dX6_readSymbol_70 (by decide) (fun c70 => ?_) (fun c70 => ?_)
        · exact absurd c70 (by decide)
        · skip
          refine pq_aload_n F dX6_readSymbol_73 rfl rfl ?_
          refine pq_aload_n F dX6_readSymbol_74 rfl rfl ?_
          refine pq_get F ha (by decide) lk_X6_38 hB.e5 dX6_readSymbol_75 ?_
          refine pq_putI F ha (by decide) lp_X6_42 rfl (pq_any1 _) (pq_any2 _) dX6_readSymbol_78 ?_
          refine pq_goto (tgt := 94) F dX6_readSymbol_81 (by decide) ?_
          refine pq_iload_n F dX6_readSymbol_94 rfl rfl ?_
          exact pq_iret F hr hlk hA (Nat.le_refl _) (Nat.le_refl _) (⟨(pq_Fr.rf.uO ha (by decide)), _, rfl, (by focus ((try clear p8); (try clear p8a); (try clear p36); (try clear p36a); (try clear p39); (try clear hB); simp only [vp_in_iff, Int32.lt_iff_toInt_lt, Int32.le_iff_toInt_le, ← Int32.toInt_inj, Int32.toInt_add, Int32.toInt_sub, Int32.toInt_mul, Int32.toInt_neg, pq_NuO, pq_NuI, pq_NuJ, pq_NuR, pq_shr6, pq_shr7, pq_shr8, lqm1, lq0, lq1, lq32, lq92, lq126] at *; (try simp (disch := omega) only [pq_bm] at *); all_goals omega)), (by focus ((try clear p8); (try clear p8a); (try clear p36); (try clear p36a); (try clear p39); (try clear hB); simp only [vp_in_iff, Int32.lt_iff_toInt_lt, Int32.le_iff_toInt_le, ← Int32.toInt_inj, Int32.toInt_add, Int32.toInt_sub, Int32.toInt_mul, Int32.toInt_neg, pq_NuO, pq_NuI, pq_NuJ, pq_NuR, pq_shr6, pq_shr7, pq_shr8, lqm1, lq0, lq1, lq32, lq92, lq126] at *; (try simp (disch := omega) only [pq_bm] at *); all_goals omega)), _, _, hB.p7, ⟨(by focus ((try clear p8); (try clear p8a); (try clear p36); (try clear p36a); (try clear p39); (try clear hB); simp only [vp_in_iff, Int32.lt_iff_toInt_lt, Int32.le_iff_toInt_le, ← Int32.toInt_inj, Int32.toInt_add, Int32.toInt_sub, Int32.toInt_mul, Int32.toInt_neg, pq_NuO, pq_NuI, pq_NuJ, pq_NuR, pq_shr6, pq_shr7, pq_shr8, lqm1, lq0, lq1, lq32, lq92, lq126] at *; (try simp (disch := omega) only [pq_bm] at *); all_goals omega)), (by focus ((try clear p8); (try clear p8a); (try clear p36); (try clear p36a); (try clear p39); (try clear hB); simp only [vp_in_iff, Int32.lt_iff_toInt_lt, Int32.le_iff_toInt_le, ← Int32.toInt_inj, Int32.toInt_add, Int32.toInt_sub, Int32.toInt_mul, Int32.toInt_neg, pq_NuO, pq_NuI, pq_NuJ, pq_NuR, pq_shr6, pq_shr7, pq_shr8, lqm1, lq0, lq1, lq32, lq92, lq126] at *; (try simp (disch := omega) only [pq_bm] at *); all_goals omega))⟩, Or.inl (by focus ((try clear p8); (try clear p8a); (try clear p36); (try clear p36a); (try clear p39); (try clear hB); simp only [vp_in_iff, Int32.lt_iff_toInt_lt, Int32.le_iff_toInt_le, ← Int32.toInt_inj, Int32.toInt_add, Int32.toInt_sub, Int32.toInt_mul, Int32.toInt_neg, pq_NuO, pq_NuI, pq_NuJ, pq_NuR, pq_shr6, pq_shr7, pq_shr8, lqm1, lq0, lq1, lq32, lq92, lq126] at *; (try simp (disch := omega) only [pq_bm] at *); all_goals omega))⟩) dX6_readSymbol_95
      · skip
        refine pq_aload_n F dX6_readSymbol_58 rfl rfl ?_
        refine pq_iload_n F dX6_readSymbol_59 rfl rfl ?_
        refine pq_i2c F dX6_readSymbol_60 ?_
        refine pq_kcallV (As := [_]) F hks (k_J0_indexOf_0f7a4 l D cy _ _ ?_ _) ml_X6_170 rfl (Nat.le_of_ble_eq_true rfl) ⟨Nat.le_of_ble_eq_true rfl, Nat.le_of_ble_eq_true rfl⟩ ⟨by decide, by decide⟩ dX6_readSymbol_61 (fun v61 S61 w61 => ?_)
        · exact hks
        obtain ⟨u61, y61, rfl⟩ := w61
        rw [u61]
        refine pq_if_lt (tgt := 69) F dX6_readSymbol_64 (by decide) (fun c64 => ?_) (fun c64 => ?_)
        · skip
          refine pq_iload_n F dX6_readSymbol_69 rfl rfl ?_
          refine pq_if_ge (tgt := 84) F dX6_readSymbol_70 (by decide) (fun c70 => ?_) (fun c70 => ?_)
          · skip
            refine pq_aload_n F dX6_readSymbol_84 rfl rfl ?_
            refine pq_dup F dX6_readSymbol_85 rfl ?_
            refine pq_get F ha (by decide) lk_X6_38 hB.e5 dX6_readSymbol_86 ?_
            refine pq_iconst (v := 1) F dX6_readSymbol_89 (by decide) ?_
            refine pq_iadd F dX6_readSymbol_90 ?_
            refine pq_putI F ha (by decide) lp_X6_38 rfl (pq_any1 _) (pq_any2 _) dX6_readSymbol_91 ?_
            refine pq_iload_n F dX6_readSymbol_94 rfl rfl ?_
            exact pq_iret F hr hlk hA (Nat.le_refl _) (Nat.le_refl _) ((by have h5 : at1.toInt < t.toInt := Int.not_le.mp (fun z => c49 (by rw [p8a z]; decide)); exact ⟨(pq_Fr.rf.uO ha (by decide)), _, rfl, (by focus ((try clear p8); (try clear p8a); (try clear p36); (try clear p36a); (try clear p39); (try clear hB); simp only [vp_in_iff, Int32.lt_iff_toInt_lt, Int32.le_iff_toInt_le, ← Int32.toInt_inj, Int32.toInt_add, Int32.toInt_sub, Int32.toInt_mul, Int32.toInt_neg, pq_NuO, pq_NuI, pq_NuJ, pq_NuR, pq_shr6, pq_shr7, pq_shr8, lqm1, lq0, lq1, lq32, lq92, lq126] at *; (try simp (disch := omega) only [pq_bm] at *); all_goals omega)), (by focus ((try clear p8); (try clear p8a); (try clear p36); (try clear p36a); (try clear p39); (try clear hB); simp only [vp_in_iff, Int32.lt_iff_toInt_lt, Int32.le_iff_toInt_le, ← Int32.toInt_inj, Int32.toInt_add, Int32.toInt_sub, Int32.toInt_mul, Int32.toInt_neg, pq_NuO, pq_NuI, pq_NuJ, pq_NuR, pq_shr6, pq_shr7, pq_shr8, lqm1, lq0, lq1, lq32, lq92, lq126] at *; (try simp (disch := omega) only [pq_bm] at *); all_goals omega)), _, br, hB.p5 (by focus ((try clear p8); (try clear p8a); (try clear p36); (try clear p36a); (try clear p39); (try clear hB); simp only [vp_in_iff, Int32.lt_iff_toInt_lt, Int32.le_iff_toInt_le, ← Int32.toInt_inj, Int32.toInt_add, Int32.toInt_sub, Int32.toInt_mul, Int32.toInt_neg, pq_NuO, pq_NuI, pq_NuJ, pq_NuR, pq_shr6, pq_shr7, pq_shr8, lqm1, lq0, lq1, lq32, lq92, lq126] at *; (try simp (disch := omega) only [pq_bm] at *); all_goals omega)) (by focus ((try clear p8); (try clear p8a); (try clear p36); (try clear p36a); (try clear p39); (try clear hB); simp only [vp_in_iff, Int32.lt_iff_toInt_lt, Int32.le_iff_toInt_le, ← Int32.toInt_inj, Int32.toInt_add, Int32.toInt_sub, Int32.toInt_mul, Int32.toInt_neg, pq_NuO, pq_NuI, pq_NuJ, pq_NuR, pq_shr6, pq_shr7, pq_shr8, lqm1, lq0, lq1, lq32, lq92, lq126] at *; (try simp (disch := omega) only [pq_bm] at *); all_goals omega)), ⟨(by focus ((try clear p8); (try clear p8a); (try clear p36); (try clear p36a); (try clear p39); (try clear hB); simp only [vp_in_iff, Int32.lt_iff_toInt_lt, Int32.le_iff_toInt_le, ← Int32.toInt_inj, Int32.toInt_add, Int32.toInt_sub, Int32.toInt_mul, Int32.toInt_neg, pq_NuO, pq_NuI, pq_NuJ, pq_NuR, pq_shr6, pq_shr7, pq_shr8, lqm1, lq0, lq1, lq32, lq92, lq126] at *; (try simp (disch := omega) only [pq_bm] at *); all_goals omega)), (by focus ((try clear p8); (try clear p8a); (try clear p36); (try clear p36a); (try clear p39); (try clear hB); simp only [vp_in_iff, Int32.lt_iff_toInt_lt, Int32.le_iff_toInt_le, ← Int32.toInt_inj, Int32.toInt_add, Int32.toInt_sub, Int32.toInt_mul, Int32.toInt_neg, pq_NuO, pq_NuI, pq_NuJ, pq_NuR, pq_shr6, pq_shr7, pq_shr8, lqm1, lq0, lq1, lq32, lq92, lq126] at *; (try simp (disch := omega) only [pq_bm] at *); all_goals omega))⟩, Or.inr ⟨rfl, (by focus ((try clear p8); (try clear p8a); (try clear p36); (try clear p36a); (try clear p39); (try clear hB); simp only [vp_in_iff, Int32.lt_iff_toInt_lt, Int32.le_iff_toInt_le, ← Int32.toInt_inj, Int32.toInt_add, Int32.toInt_sub, Int32.toInt_mul, Int32.toInt_neg, pq_NuO, pq_NuI, pq_NuJ, pq_NuR, pq_shr6, pq_shr7, pq_shr8, lqm1, lq0, lq1, lq32, lq92, lq126] at *; (try simp (disch := omega) only [pq_bm] at *); all_goals omega)), (by focus ((try clear p8); (try clear p8a); (try clear p36); (try clear p36a); (try clear p39); (try clear hB); simp only [vp_in_iff, Int32.lt_iff_toInt_lt, Int32.le_iff_toInt_le, ← Int32.toInt_inj, Int32.toInt_add, Int32.toInt_sub, Int32.toInt_mul, Int32.toInt_neg, pq_NuO, pq_NuI, pq_NuJ, pq_NuR, pq_shr6, pq_shr7, pq_shr8, lqm1, lq0, lq1, lq32, lq92, lq126] at *; (try simp (disch := omega) only [pq_bm] at *); all_goals omega))⟩⟩)) dX6_readSymbol_95
          · exact absurd c70 (fun z => (by focus ((try clear p8); (try clear p8a); (try clear p36); (try clear p36a); (try clear p39); (try clear hB); simp only [vp_in_iff, Int32.lt_iff_toInt_lt, Int32.le_iff_toInt_le, ← Int32.toInt_inj, Int32.toInt_add, Int32.toInt_sub, Int32.toInt_mul, Int32.toInt_neg, pq_NuO, pq_NuI, pq_NuJ, pq_NuR, pq_shr6, pq_shr7, pq_shr8, lqm1, lq0, lq1, lq32, lq92, lq126] at *; (try simp (disch := omega) only [pq_bm] at *); all_goals omega)))
        · skip
          refine pq_iconst (v := -1) F dX6_readSymbol_67 (by decide) ?_
          refine pq_istore_n F dX6_readSymbol_68 rfl (by decide) ?_
          refine pq_iload_n F dX6_readSymbol_69 rfl rfl ?_
          refine pq_if_ge (tgt := 84) F dX6_readSymbol_70 (by decide) (fun c70 => ?_) (fun c70 => ?_)
          · exact absurd c70 (by decide)
          · skip
            refine pq_aload_n F dX6_readSymbol_73 rfl rfl ?_
            refine pq_aload_n F dX6_readSymbol_74 rfl rfl ?_
            refine pq_get F ha (by decide) lk_X6_38 hB.e5 dX6_readSymbol_75 ?_
            refine pq_putI F ha (by decide) lp_X6_42 rfl (pq_any1 _) (pq_any2 _) dX6_readSymbol_78 ?_
            refine pq_goto (tgt := 94) F dX6_readSymbol_81 (by decide) ?_
            refine pq_iload_n F dX6_readSymbol_94 rfl rfl ?_
            exact pq_iret F hr hlk hA (Nat.le_refl _) (Nat.le_refl _) (⟨(pq_Fr.rf.uO ha (by decide)), _, rfl, (by focus ((try clear p8); (try clear p8a); (try clear p36); (try clear p36a); (try clear p39); (try clear hB); simp only [vp_in_iff, Int32.lt_iff_toInt_lt, Int32.le_iff_toInt_le, ← Int32.toInt_inj, Int32.toInt_add, Int32.toInt_sub, Int32.toInt_mul, Int32.toInt_neg, pq_NuO, pq_NuI, pq_NuJ, pq_NuR, pq_shr6, pq_shr7, pq_shr8, lqm1, lq0, lq1, lq32, lq92, lq126] at *; (try simp (disch := omega) only [pq_bm] at *); all_goals omega)), (by focus ((try clear p8); (try clear p8a); (try clear p36); (try clear p36a); (try clear p39); (try clear hB); simp only [vp_in_iff, Int32.lt_iff_toInt_lt, Int32.le_iff_toInt_le, ← Int32.toInt_inj, Int32.toInt_add, Int32.toInt_sub, Int32.toInt_mul, Int32.toInt_neg, pq_NuO, pq_NuI, pq_NuJ, pq_NuR, pq_shr6, pq_shr7, pq_shr8, lqm1, lq0, lq1, lq32, lq92, lq126] at *; (try simp (disch := omega) only [pq_bm] at *); all_goals omega)), _, _, hB.p7, ⟨(by focus ((try clear p8); (try clear p8a); (try clear p36); (try clear p36a); (try clear p39); (try clear hB); simp only [vp_in_iff, Int32.lt_iff_toInt_lt, Int32.le_iff_toInt_le, ← Int32.toInt_inj, Int32.toInt_add, Int32.toInt_sub, Int32.toInt_mul, Int32.toInt_neg, pq_NuO, pq_NuI, pq_NuJ, pq_NuR, pq_shr6, pq_shr7, pq_shr8, lqm1, lq0, lq1, lq32, lq92, lq126] at *; (try simp (disch := omega) only [pq_bm] at *); all_goals omega)), (by focus ((try clear p8); (try clear p8a); (try clear p36); (try clear p36a); (try clear p39); (try clear hB); simp only [vp_in_iff, Int32.lt_iff_toInt_lt, Int32.le_iff_toInt_le, ← Int32.toInt_inj, Int32.toInt_add, Int32.toInt_sub, Int32.toInt_mul, Int32.toInt_neg, pq_NuO, pq_NuI, pq_NuJ, pq_NuR, pq_shr6, pq_shr7, pq_shr8, lqm1, lq0, lq1, lq32, lq92, lq126] at *; (try simp (disch := omega) only [pq_bm] at *); all_goals omega))⟩, Or.inl (by focus ((try clear p8); (try clear p8a); (try clear p36); (try clear p36a); (try clear p39); (try clear hB); simp only [vp_in_iff, Int32.lt_iff_toInt_lt, Int32.le_iff_toInt_le, ← Int32.toInt_inj, Int32.toInt_add, Int32.toInt_sub, Int32.toInt_mul, Int32.toInt_neg, pq_NuO, pq_NuI, pq_NuJ, pq_NuR, pq_shr6, pq_shr7, pq_shr8, lqm1, lq0, lq1, lq32, lq92, lq126] at *; (try simp (disch := omega) only [pq_bm] at *); all_goals omega))⟩) dX6_readSymbol_95
  · skip
    have hlt : at1.toInt < t.toInt := Int.not_le.mp (fun z => absurd (p8a z) (by rw [c15]; decide))
    refine pq_aload_n F dX6_readSymbol_18 rfl rfl ?_
    refine pq_dup F dX6_readSymbol_19 rfl ?_
    refine pq_get F ha (by decide) lk_X6_38 hB.e5 dX6_readSymbol_20 ?_
    refine pq_iconst (v := 1) F dX6_readSymbol_23 (by decide) ?_
    refine pq_iadd F dX6_readSymbol_24 ?_
    refine pq_putI F ha (by decide) lp_X6_38 rfl (pq_any1 _) (pq_any2 _) dX6_readSymbol_25 ?_
    refine pq_aload_n F dX6_readSymbol_28 rfl rfl ?_
    refine pq_get F ha (by decide) lk_X6_25 (pq_kp hB.e0 (by decide)) dX6_readSymbol_29 ?_
    refine pq_aload_n F dX6_readSymbol_32 rfl rfl ?_
    refine pq_get F ha (by decide) lk_X6_38 pq_ks dX6_readSymbol_33 ?_
    refine pq_callV (As := [_]) F (k_X9_byteAt l D cy _ _ ?_ _) ml_X6_79 hB.h0 (by decide) rfl (Nat.le_of_ble_eq_true rfl) ⟨Nat.le_of_ble_eq_true rfl, Nat.le_of_ble_eq_true rfl⟩ ⟨by decide, by decide⟩ dX6_readSymbol_36 (fun v36 S36 w36 => ?_)
    · exact hB.h0
    obtain ⟨u36, y36, rfl, yl36_0, yl36_1, p36⟩ := w36
    rw [u36]
    try rw [u36] at p36
    have p36a := p36.1 t (pq_ko hB.et hB.h0 ha (by decide))
    refine pq_callS (As := [_]) F (k_X6_escaped l D cy _ _ ?_ ?_) ml_X6_167 (Nat.le_of_ble_eq_true rfl) ⟨Nat.le_of_ble_eq_true rfl, Nat.le_of_ble_eq_true rfl⟩ ⟨by decide, by decide⟩ dX6_readSymbol_39 (fun v39 S39 w39 => ?_)
    · focus ((try clear p8); (try clear p8a); (try clear p36); (try clear p36a); (try clear p39); (try clear hB); simp only [vp_in_iff, Int32.lt_iff_toInt_lt, Int32.le_iff_toInt_le, ← Int32.toInt_inj, Int32.toInt_add, Int32.toInt_sub, Int32.toInt_mul, Int32.toInt_neg, pq_NuO, pq_NuI, pq_NuJ, pq_NuR, pq_shr6, pq_shr7, pq_shr8, lqm1, lq0, lq1, lq32, lq92, lq126] at *; (try simp (disch := omega) only [pq_bm] at *); all_goals omega)
    · focus ((try clear p8); (try clear p8a); (try clear p36); (try clear p36a); (try clear p39); (try clear hB); simp only [vp_in_iff, Int32.lt_iff_toInt_lt, Int32.le_iff_toInt_le, ← Int32.toInt_inj, Int32.toInt_add, Int32.toInt_sub, Int32.toInt_mul, Int32.toInt_neg, pq_NuO, pq_NuI, pq_NuJ, pq_NuR, pq_shr6, pq_shr7, pq_shr8, lqm1, lq0, lq1, lq32, lq92, lq126] at *; (try simp (disch := omega) only [pq_bm] at *); all_goals omega)
    obtain ⟨u39, y39, rfl, yl39_0, yl39_1, p39⟩ := w39
    rw [u39]
    try rw [u39] at p39
    refine pq_istore_n F dX6_readSymbol_42 rfl (by decide) ?_
    refine pq_goto (tgt := 69) F dX6_readSymbol_43 (by decide) ?_
    refine pq_iload_n F dX6_readSymbol_69 rfl rfl ?_
    refine pq_if_ge (tgt := 84) F dX6_readSymbol_70 (by decide) (fun c70 => ?_) (fun c70 => ?_)
    · skip
      refine pq_aload_n F dX6_readSymbol_84 rfl rfl ?_
      refine pq_dup F dX6_readSymbol_85 rfl ?_
      refine pq_get F ha (by decide) lk_X6_38 pq_ks dX6_readSymbol_86 ?_
      refine pq_iconst (v := 1) F dX6_readSymbol_89 (by decide) ?_
      refine pq_iadd F dX6_readSymbol_90 ?_
      refine pq_putI F ha (by decide) lp_X6_38 rfl (pq_any1 _) (pq_any2 _) dX6_readSymbol_91 ?_
      refine pq_iload_n F dX6_readSymbol_94 rfl rfl ?_
      exact pq_iret F hr hlk hA (Nat.le_refl _) (Nat.le_refl _) ((by have h5 : (at1 + 1).toInt < t.toInt := Int.not_le.mp (fun z => absurd c70 (by rw [p39 (by rw [p36a z]; decide)]; decide)); exact ⟨((pq_Fr.rf.uO ha (by decide)).uO ha (by decide)), _, rfl, (by focus ((try clear p8); (try clear p8a); (try clear p36); (try clear p36a); (try clear p39); (try clear hB); simp only [vp_in_iff, Int32.lt_iff_toInt_lt, Int32.le_iff_toInt_le, ← Int32.toInt_inj, Int32.toInt_add, Int32.toInt_sub, Int32.toInt_mul, Int32.toInt_neg, pq_NuO, pq_NuI, pq_NuJ, pq_NuR, pq_shr6, pq_shr7, pq_shr8, lqm1, lq0, lq1, lq32, lq92, lq126] at *; (try simp (disch := omega) only [pq_bm] at *); all_goals omega)), (by focus ((try clear p8); (try clear p8a); (try clear p36); (try clear p36a); (try clear p39); (try clear hB); simp only [vp_in_iff, Int32.lt_iff_toInt_lt, Int32.le_iff_toInt_le, ← Int32.toInt_inj, Int32.toInt_add, Int32.toInt_sub, Int32.toInt_mul, Int32.toInt_neg, pq_NuO, pq_NuI, pq_NuJ, pq_NuR, pq_shr6, pq_shr7, pq_shr8, lqm1, lq0, lq1, lq32, lq92, lq126] at *; (try simp (disch := omega) only [pq_bm] at *); all_goals omega)), _, br, (hB.p5 (by focus ((try clear p8); (try clear p8a); (try clear p36); (try clear p36a); (try clear p39); (try clear hB); simp only [vp_in_iff, Int32.lt_iff_toInt_lt, Int32.le_iff_toInt_le, ← Int32.toInt_inj, Int32.toInt_add, Int32.toInt_sub, Int32.toInt_mul, Int32.toInt_neg, pq_NuO, pq_NuI, pq_NuJ, pq_NuR, pq_shr6, pq_shr7, pq_shr8, lqm1, lq0, lq1, lq32, lq92, lq126] at *; (try simp (disch := omega) only [pq_bm] at *); all_goals omega)) (by focus ((try clear p8); (try clear p8a); (try clear p36); (try clear p36a); (try clear p39); (try clear hB); simp only [vp_in_iff, Int32.lt_iff_toInt_lt, Int32.le_iff_toInt_le, ← Int32.toInt_inj, Int32.toInt_add, Int32.toInt_sub, Int32.toInt_mul, Int32.toInt_neg, pq_NuO, pq_NuI, pq_NuJ, pq_NuR, pq_shr6, pq_shr7, pq_shr8, lqm1, lq0, lq1, lq32, lq92, lq126] at *; (try simp (disch := omega) only [pq_bm] at *); all_goals omega))).p5 (by focus ((try clear p8); (try clear p8a); (try clear p36); (try clear p36a); (try clear p39); (try clear hB); simp only [vp_in_iff, Int32.lt_iff_toInt_lt, Int32.le_iff_toInt_le, ← Int32.toInt_inj, Int32.toInt_add, Int32.toInt_sub, Int32.toInt_mul, Int32.toInt_neg, pq_NuO, pq_NuI, pq_NuJ, pq_NuR, pq_shr6, pq_shr7, pq_shr8, lqm1, lq0, lq1, lq32, lq92, lq126] at *; (try simp (disch := omega) only [pq_bm] at *); all_goals omega)) (by focus ((try clear p8); (try clear p8a); (try clear p36); (try clear p36a); (try clear p39); (try clear hB); simp only [vp_in_iff, Int32.lt_iff_toInt_lt, Int32.le_iff_toInt_le, ← Int32.toInt_inj, Int32.toInt_add, Int32.toInt_sub, Int32.toInt_mul, Int32.toInt_neg, pq_NuO, pq_NuI, pq_NuJ, pq_NuR, pq_shr6, pq_shr7, pq_shr8, lqm1, lq0, lq1, lq32, lq92, lq126] at *; (try simp (disch := omega) only [pq_bm] at *); all_goals omega)), ⟨(by focus ((try clear p8); (try clear p8a); (try clear p36); (try clear p36a); (try clear p39); (try clear hB); simp only [vp_in_iff, Int32.lt_iff_toInt_lt, Int32.le_iff_toInt_le, ← Int32.toInt_inj, Int32.toInt_add, Int32.toInt_sub, Int32.toInt_mul, Int32.toInt_neg, pq_NuO, pq_NuI, pq_NuJ, pq_NuR, pq_shr6, pq_shr7, pq_shr8, lqm1, lq0, lq1, lq32, lq92, lq126] at *; (try simp (disch := omega) only [pq_bm] at *); all_goals omega)), (by focus ((try clear p8); (try clear p8a); (try clear p36); (try clear p36a); (try clear p39); (try clear hB); simp only [vp_in_iff, Int32.lt_iff_toInt_lt, Int32.le_iff_toInt_le, ← Int32.toInt_inj, Int32.toInt_add, Int32.toInt_sub, Int32.toInt_mul, Int32.toInt_neg, pq_NuO, pq_NuI, pq_NuJ, pq_NuR, pq_shr6, pq_shr7, pq_shr8, lqm1, lq0, lq1, lq32, lq92, lq126] at *; (try simp (disch := omega) only [pq_bm] at *); all_goals omega))⟩, Or.inr ⟨rfl, (by focus ((try clear p8); (try clear p8a); (try clear p36); (try clear p36a); (try clear p39); (try clear hB); simp only [vp_in_iff, Int32.lt_iff_toInt_lt, Int32.le_iff_toInt_le, ← Int32.toInt_inj, Int32.toInt_add, Int32.toInt_sub, Int32.toInt_mul, Int32.toInt_neg, pq_NuO, pq_NuI, pq_NuJ, pq_NuR, pq_shr6, pq_shr7, pq_shr8, lqm1, lq0, lq1, lq32, lq92, lq126] at *; (try simp (disch := omega) only [pq_bm] at *); all_goals omega)), (by focus ((try clear p8); (try clear p8a); (try clear p36); (try clear p36a); (try clear p39); (try clear hB); simp only [vp_in_iff, Int32.lt_iff_toInt_lt, Int32.le_iff_toInt_le, ← Int32.toInt_inj, Int32.toInt_add, Int32.toInt_sub, Int32.toInt_mul, Int32.toInt_neg, pq_NuO, pq_NuI, pq_NuJ, pq_NuR, pq_shr6, pq_shr7, pq_shr8, lqm1, lq0, lq1, lq32, lq92, lq126] at *; (try simp (disch := omega) only [pq_bm] at *); all_goals omega))⟩⟩)) dX6_readSymbol_95
    · skip
      refine pq_aload_n F dX6_readSymbol_73 rfl rfl ?_
      refine pq_aload_n F dX6_readSymbol_74 rfl rfl ?_
      refine pq_get F ha (by decide) lk_X6_38 pq_ks dX6_readSymbol_75 ?_
      refine pq_putI F ha (by decide) lp_X6_42 rfl (pq_any1 _) (pq_any2 _) dX6_readSymbol_78 ?_
      refine pq_goto (tgt := 94) F dX6_readSymbol_81 (by decide) ?_
      refine pq_iload_n F dX6_readSymbol_94 rfl rfl ?_
      exact pq_iret F hr hlk hA (Nat.le_refl _) (Nat.le_refl _) (⟨((pq_Fr.rf.uO ha (by decide)).uO ha (by decide)), _, rfl, (by focus ((try clear p8); (try clear p8a); (try clear p36); (try clear p36a); (try clear p39); (try clear hB); simp only [vp_in_iff, Int32.lt_iff_toInt_lt, Int32.le_iff_toInt_le, ← Int32.toInt_inj, Int32.toInt_add, Int32.toInt_sub, Int32.toInt_mul, Int32.toInt_neg, pq_NuO, pq_NuI, pq_NuJ, pq_NuR, pq_shr6, pq_shr7, pq_shr8, lqm1, lq0, lq1, lq32, lq92, lq126] at *; (try simp (disch := omega) only [pq_bm] at *); all_goals omega)), (by focus ((try clear p8); (try clear p8a); (try clear p36); (try clear p36a); (try clear p39); (try clear hB); simp only [vp_in_iff, Int32.lt_iff_toInt_lt, Int32.le_iff_toInt_le, ← Int32.toInt_inj, Int32.toInt_add, Int32.toInt_sub, Int32.toInt_mul, Int32.toInt_neg, pq_NuO, pq_NuI, pq_NuJ, pq_NuR, pq_shr6, pq_shr7, pq_shr8, lqm1, lq0, lq1, lq32, lq92, lq126] at *; (try simp (disch := omega) only [pq_bm] at *); all_goals omega)), _, _, (hB.p5 (by focus ((try clear p8); (try clear p8a); (try clear p36); (try clear p36a); (try clear p39); (try clear hB); simp only [vp_in_iff, Int32.lt_iff_toInt_lt, Int32.le_iff_toInt_le, ← Int32.toInt_inj, Int32.toInt_add, Int32.toInt_sub, Int32.toInt_mul, Int32.toInt_neg, pq_NuO, pq_NuI, pq_NuJ, pq_NuR, pq_shr6, pq_shr7, pq_shr8, lqm1, lq0, lq1, lq32, lq92, lq126] at *; (try simp (disch := omega) only [pq_bm] at *); all_goals omega)) (by focus ((try clear p8); (try clear p8a); (try clear p36); (try clear p36a); (try clear p39); (try clear hB); simp only [vp_in_iff, Int32.lt_iff_toInt_lt, Int32.le_iff_toInt_le, ← Int32.toInt_inj, Int32.toInt_add, Int32.toInt_sub, Int32.toInt_mul, Int32.toInt_neg, pq_NuO, pq_NuI, pq_NuJ, pq_NuR, pq_shr6, pq_shr7, pq_shr8, lqm1, lq0, lq1, lq32, lq92, lq126] at *; (try simp (disch := omega) only [pq_bm] at *); all_goals omega))).p7, ⟨(by focus ((try clear p8); (try clear p8a); (try clear p36); (try clear p36a); (try clear p39); (try clear hB); simp only [vp_in_iff, Int32.lt_iff_toInt_lt, Int32.le_iff_toInt_le, ← Int32.toInt_inj, Int32.toInt_add, Int32.toInt_sub, Int32.toInt_mul, Int32.toInt_neg, pq_NuO, pq_NuI, pq_NuJ, pq_NuR, pq_shr6, pq_shr7, pq_shr8, lqm1, lq0, lq1, lq32, lq92, lq126] at *; (try simp (disch := omega) only [pq_bm] at *); all_goals omega)), (by focus ((try clear p8); (try clear p8a); (try clear p36); (try clear p36a); (try clear p39); (try clear hB); simp only [vp_in_iff, Int32.lt_iff_toInt_lt, Int32.le_iff_toInt_le, ← Int32.toInt_inj, Int32.toInt_add, Int32.toInt_sub, Int32.toInt_mul, Int32.toInt_neg, pq_NuO, pq_NuI, pq_NuJ, pq_NuR, pq_shr6, pq_shr7, pq_shr8, lqm1, lq0, lq1, lq32, lq92, lq126] at *; (try simp (disch := omega) only [pq_bm] at *); all_goals omega))⟩, Or.inl (by focus ((try clear p8); (try clear p8a); (try clear p36); (try clear p36a); (try clear p39); (try clear hB); simp only [vp_in_iff, Int32.lt_iff_toInt_lt, Int32.le_iff_toInt_le, ← Int32.toInt_inj, Int32.toInt_add, Int32.toInt_sub, Int32.toInt_mul, Int32.toInt_neg, pq_NuO, pq_NuI, pq_NuJ, pq_NuR, pq_shr6, pq_shr7, pq_shr8, lqm1, lq0, lq1, lq32, lq92, lq126] at *; (try simp (disch := omega) only [pq_bm] at *); all_goals omega))⟩) dX6_readSymbol_95

set_option maxHeartbeats 4000000 in
set_option maxRecDepth 100000 in
theorem k_X6_readCharacter (l : Launch) (D : va_G) (cy : Nat → ClassId) (S : HS) (a : Nat) (ha : pq_R S a 9) (ch sq tp : Nat) (dp at1 br t : Int32) (hB : pq_Rd S a ch sq tp dp at1 br t dp.toInt) (hat : at1.toInt ≤ t.toInt) (hbr : br.toInt < 0) : pq_C l D cy yX6_readCharacter cX6_readCharacter 2 (none) 7 0 0 S [.ref a] (fun v S2 => v = none ∧ pq_Fr [(9, 5), (9, 7), (9, 8), (9, 9)] S S2 ∧ (∃ at2 br2 : Int32, pq_Rd S2 a ch sq tp dp at2 br2 t dp.toInt ∧ (at1.toInt ≤ at2.toInt ∧ at2.toInt ≤ t.toInt) ∧ (0 ≤ br2.toInt ∨ (br2.toInt < 0 ∧ at1.toInt + 1 ≤ at2.toInt)))) := by
  refine pq_start (by decide) (Nat.le_of_ble_eq_true rfl) ?_
  intro p e s m args below meth c A F hr hlk hnm hA
  have lqm1 : (-1 : Int32).toInt = -1 := rfl
  have lq0 : (0 : Int32).toInt = 0 := rfl
  have lq1 : (1 : Int32).toInt = 1 := rfl
  obtain ⟨hd0, hd1, ha0, ha1, ht0, ht1⟩ := hB.b
  refine pq_aload_n F dX6_readCharacter_0 rfl rfl ?_
  refine pq_ldcS (i := 0) F (by decide) rfl rfl dX6_readCharacter_1 ?_
  refine pq_callV (As := [_]) F (k_X6_readSymbol l D cy _ _ ?_ 0 ?_ _ _ _ _ _ _ _ hB hat) ml_X6_124 ha (by decide) rfl (Nat.le_of_ble_eq_true rfl) ⟨Nat.le_of_ble_eq_true rfl, Nat.le_of_ble_eq_true rfl⟩ ⟨by decide, by decide⟩ dX6_readCharacter_3 (fun v3 S3 w3 => ?_)
  · exact ha
  · decide
  obtain ⟨hF3, y3, rfl, yl3_0, yl3_1, p3⟩ := w3
  have ha_3 := (hF3.1 _ _ ha (by decide)).1
  have hz_3 := (hF3.1 _ _ hB.h2 (by decide)).1
  have ec3_2_ha_3 := hF3.O ha (by decide) (by decide) hB.e2
  have hz_3z := (hF3.1 _ _ hB.h3 (by decide)).1
  have ec3_3_ha_3 := hF3.O ha (by decide) (by decide) hB.e3
  have hz_3zz := (hF3.1 _ _ hB.h0 (by decide)).1
  have ec3_0_ha_3 := hF3.O ha (by decide) (by decide) hB.e0
  have ec3_6_ha_3 := hF3.O ha (by decide) (by decide) hB.e6
  obtain ⟨at2, br2, hB2, hq1, hq2⟩ := p3
  refine pq_istore_n F dX6_readCharacter_6 rfl (by decide) ?_
  refine pq_aload_n F dX6_readCharacter_7 rfl rfl ?_
  refine pq_iload_n F dX6_readCharacter_8 rfl rfl ?_
  refine pq_iload_n F dX6_readCharacter_9 rfl rfl ?_
  refine pq_callV (As := [_, _]) F (k_X6_include l D cy _ _ ?_ _ _) ml_X6_128 ha_3 (by decide) rfl (Nat.le_of_ble_eq_true rfl) ⟨Nat.le_of_ble_eq_true rfl, Nat.le_of_ble_eq_true rfl⟩ ⟨by decide, by decide⟩ dX6_readCharacter_10 (fun v10 S10 w10 => ?_)
  · exact ha_3
  obtain ⟨rfl, hF10⟩ := w10
  have ha_10 := (hF10.1 _ _ ha_3 (by decide)).1
  have hz_10 := (hF10.1 _ _ hz_3 (by decide)).1
  have ec10_2_ha_10 := hF10.O ha_3 (by decide) (by decide) ec3_2_ha_3
  have hz_3z_10 := (hF10.1 _ _ hz_3z (by decide)).1
  have ec10_3_ha_10 := hF10.O ha_3 (by decide) (by decide) ec3_3_ha_3
  have hz_3zz_10 := (hF10.1 _ _ hz_3zz (by decide)).1
  have ec10_0_ha_10 := hF10.O ha_3 (by decide) (by decide) ec3_0_ha_3
  have ec10_6_ha_10 := hF10.O ha_3 (by decide) (by decide) ec3_6_ha_3
  have hB3 := hB2.fr hF10 (by decide)
  exact pq_vret F hr hlk hA (Nat.le_refl _) (Nat.le_refl _) (⟨rfl, ((pq_Fr.rf.cm hF3 (by decide)).cm hF10 (by decide)), at2, br2, hB3, hq1, (by rcases hq2 with z | ⟨z1, z2, z3⟩; exact Or.inl z; exact Or.inr ⟨by rw [z1]; exact hbr, z2⟩)⟩) dX6_readCharacter_13

set_option maxHeartbeats 4000000 in
set_option maxRecDepth 100000 in
theorem k_X6_readPart (l : Launch) (D : va_G) (cy : Nat → ClassId) (S : HS) (a : Nat) (ha : pq_R S a 9) (ch sq tp : Nat) (dp at1 br t : Int32) (hB : pq_Rd S a ch sq tp dp at1 br t dp.toInt) (hat : at1.toInt ≤ t.toInt) (hbr : br.toInt < 0) : pq_C l D cy yX6_readPart cX6_readPart 4 (none) 7 0 0 S [.ref a] (fun v S2 => v = none ∧ pq_Fr [(9, 5), (9, 7), (9, 8), (9, 9)] S S2 ∧ (∃ at2 br2 : Int32, pq_Rd S2 a ch sq tp dp at2 br2 t dp.toInt ∧ (at1.toInt ≤ at2.toInt ∧ at2.toInt ≤ t.toInt) ∧ (0 ≤ br2.toInt ∨ (br2.toInt < 0 ∧ at1.toInt + 1 ≤ at2.toInt)))) := by
  refine pq_start (by decide) (Nat.le_of_ble_eq_true rfl) ?_
  intro p e s m args below meth c A F hr hlk hnm hA
  have lqm1 : (-1 : Int32).toInt = -1 := rfl
  have lq0 : (0 : Int32).toInt = 0 := rfl
  have lq1 : (1 : Int32).toInt = 1 := rfl
  have lq45 : (45 : Int32).toInt = 45 := rfl
  obtain ⟨hd0, hd1, ha0, ha1, ht0, ht1⟩ := hB.b
  refine pq_aload_n F dX6_readPart_0 rfl rfl ?_
  refine pq_ldcS (i := 1) F (by decide) rfl rfl dX6_readPart_1 ?_
  refine pq_callV (As := [_]) F (k_X6_readSymbol l D cy _ _ ?_ 1 ?_ _ _ _ _ _ _ _ hB hat) ml_X6_124 ha (by decide) rfl (Nat.le_of_ble_eq_true rfl) ⟨Nat.le_of_ble_eq_true rfl, Nat.le_of_ble_eq_true rfl⟩ ⟨by decide, by decide⟩ dX6_readPart_3 (fun v3 S3 w3 => ?_)
  · exact ha
  · decide
  obtain ⟨hF3, y3, rfl, yl3_0, yl3_1, p3⟩ := w3
  have ha_3 := (hF3.1 _ _ ha (by decide)).1
  have hz_3 := (hF3.1 _ _ hB.h2 (by decide)).1
  have ec3_2_ha_3 := hF3.O ha (by decide) (by decide) hB.e2
  have hz_3z := (hF3.1 _ _ hB.h3 (by decide)).1
  have ec3_3_ha_3 := hF3.O ha (by decide) (by decide) hB.e3
  have hz_3zz := (hF3.1 _ _ hB.h0 (by decide)).1
  have ec3_0_ha_3 := hF3.O ha (by decide) (by decide) hB.e0
  have ec3_6_ha_3 := hF3.O ha (by decide) (by decide) hB.e6
  obtain ⟨at2, br2, hB2, hq1, hq2⟩ := p3
  refine pq_istore_n F dX6_readPart_6 rfl (by decide) ?_
  refine pq_iload_n F dX6_readPart_7 rfl rfl ?_
  refine pq_istore_n F dX6_readPart_8 rfl (by decide) ?_
  refine pq_aload_n F dX6_readPart_9 rfl rfl ?_
  refine pq_get F ha_3 (by decide) lk_X6_42 hB2.e7 dX6_readPart_10 ?_
  refine pq_if_ge (tgt := 71) F dX6_readPart_13 (by decide) (fun c13 => ?_) (fun c13 => ?_)
  · skip
    refine pq_aload_n F dX6_readPart_71 rfl rfl ?_
    refine pq_iload_n F dX6_readPart_72 rfl rfl ?_
    refine pq_iload_n F dX6_readPart_73 rfl rfl ?_
    refine pq_callV (As := [_, _]) F (k_X6_include l D cy _ _ ?_ _ _) ml_X6_128 ha_3 (by decide) rfl (Nat.le_of_ble_eq_true rfl) ⟨Nat.le_of_ble_eq_true rfl, Nat.le_of_ble_eq_true rfl⟩ ⟨by decide, by decide⟩ dX6_readPart_74 (fun v74 S74 w74 => ?_)
    · exact ha_3
    obtain ⟨rfl, hF74⟩ := w74
    have ha_74 := (hF74.1 _ _ ha_3 (by decide)).1
    have hz_74 := (hF74.1 _ _ hz_3 (by decide)).1
    have ec74_2_ha_74 := hF74.O ha_3 (by decide) (by decide) ec3_2_ha_3
    have hz_3z_74 := (hF74.1 _ _ hz_3z (by decide)).1
    have ec74_3_ha_74 := hF74.O ha_3 (by decide) (by decide) ec3_3_ha_3
    have hz_3zz_74 := (hF74.1 _ _ hz_3zz (by decide)).1
    have ec74_0_ha_74 := hF74.O ha_3 (by decide) (by decide) ec3_0_ha_3
    have ec74_6_ha_74 := hF74.O ha_3 (by decide) (by decide) ec3_6_ha_3
    have ec74_5_ha_74 := hF74.O ha_3 (by decide) (by decide) hB2.e5
    have ec74_7_ha_74 := hF74.O ha_3 (by decide) (by decide) hB2.e7
    exact pq_vret F hr hlk hA (Nat.le_refl _) (Nat.le_refl _) (⟨rfl, ((pq_Fr.rf.cm hF3 (by decide)).cm hF74 (by decide)), _, _, hB2.fr hF74 (by decide), (by focus ((try clear hB); (try clear hB2); (try clear hB3); (try clear hB4); (try clear p3); (try clear p8); (try clear p18); (try clear p24); (try clear p45); (try clear p50); (try clear p74); (try clear p81); (try clear hJ); simp only [vp_in_iff, Int32.lt_iff_toInt_lt, Int32.le_iff_toInt_le, ← Int32.toInt_inj, Int32.toInt_add, Int32.toInt_sub, Int32.toInt_mul, Int32.toInt_neg, pq_NuO, pq_NuI, pq_NuJ, pq_NuR, pq_shr6, pq_shr7, pq_shr8, lqm1, lq0, lq1, lq45] at *; (try simp (disch := omega) only [pq_bm] at *); all_goals omega))⟩) dX6_readPart_77
  · skip
    refine pq_aload_n F dX6_readPart_16 rfl rfl ?_
    refine pq_get F ha_3 (by decide) lk_X6_25 ec3_0_ha_3 dX6_readPart_17 ?_
    refine pq_aload_n F dX6_readPart_20 rfl rfl ?_
    refine pq_get F ha_3 (by decide) lk_X6_38 hB2.e5 dX6_readPart_21 ?_
    refine pq_callV (As := [_]) F (k_X9_byteAt l D cy _ _ ?_ _) ml_X6_79 hz_3zz (by decide) rfl (Nat.le_of_ble_eq_true rfl) ⟨Nat.le_of_ble_eq_true rfl, Nat.le_of_ble_eq_true rfl⟩ ⟨by decide, by decide⟩ dX6_readPart_24 (fun v24 S24 w24 => ?_)
    · exact hz_3zz
    obtain ⟨u24, y24, rfl, yl24_0, yl24_1, p24⟩ := w24
    rw [u24]
    try rw [u24] at p24
    have p24a := p24.1 t hB2.et
    have hlt : y24 = 45 → at2.toInt < t.toInt := fun z => Int.not_le.mp (fun w => absurd (p24a w) (by rw [z]; decide))
    clear p24a
    refine pq_bipush (v := 45) F dX6_readPart_27 (by decide) ?_
    refine pq_icmp_ne (tgt := 71) F dX6_readPart_29 (by decide) (fun c29 => ?_) (fun c29 => ?_)
    · skip
      refine pq_aload_n F dX6_readPart_71 rfl rfl ?_
      refine pq_iload_n F dX6_readPart_72 rfl rfl ?_
      refine pq_iload_n F dX6_readPart_73 rfl rfl ?_
      refine pq_callV (As := [_, _]) F (k_X6_include l D cy _ _ ?_ _ _) ml_X6_128 ha_3 (by decide) rfl (Nat.le_of_ble_eq_true rfl) ⟨Nat.le_of_ble_eq_true rfl, Nat.le_of_ble_eq_true rfl⟩ ⟨by decide, by decide⟩ dX6_readPart_74 (fun v74 S74 w74 => ?_)
      · exact ha_3
      obtain ⟨rfl, hF74⟩ := w74
      have ha_74 := (hF74.1 _ _ ha_3 (by decide)).1
      have hz_74 := (hF74.1 _ _ hz_3 (by decide)).1
      have ec74_2_ha_74 := hF74.O ha_3 (by decide) (by decide) ec3_2_ha_3
      have hz_3z_74 := (hF74.1 _ _ hz_3z (by decide)).1
      have ec74_3_ha_74 := hF74.O ha_3 (by decide) (by decide) ec3_3_ha_3
      have hz_3zz_74 := (hF74.1 _ _ hz_3zz (by decide)).1
      have ec74_0_ha_74 := hF74.O ha_3 (by decide) (by decide) ec3_0_ha_3
      have ec74_6_ha_74 := hF74.O ha_3 (by decide) (by decide) ec3_6_ha_3
      have ec74_5_ha_74 := hF74.O ha_3 (by decide) (by decide) hB2.e5
      have ec74_7_ha_74 := hF74.O ha_3 (by decide) (by decide) hB2.e7
      exact pq_vret F hr hlk hA (Nat.le_refl _) (Nat.le_refl _) ((by clear hlt; exact ⟨rfl, ((pq_Fr.rf.cm hF3 (by decide)).cm hF74 (by decide)), _, _, hB2.fr hF74 (by decide), (by focus ((try clear hB); (try clear hB2); (try clear hB3); (try clear hB4); (try clear p3); (try clear p8); (try clear p18); (try clear p24); (try clear p45); (try clear p50); (try clear p74); (try clear p81); (try clear hJ); simp only [vp_in_iff, Int32.lt_iff_toInt_lt, Int32.le_iff_toInt_le, ← Int32.toInt_inj, Int32.toInt_add, Int32.toInt_sub, Int32.toInt_mul, Int32.toInt_neg, pq_NuO, pq_NuI, pq_NuJ, pq_NuR, pq_shr6, pq_shr7, pq_shr8, lqm1, lq0, lq1, lq45] at *; (try simp (disch := omega) only [pq_bm] at *); all_goals omega))⟩)) dX6_readPart_77
    · skip
      have hlt2 := hlt c29
      clear hlt
      refine pq_aload_n F dX6_readPart_32 rfl rfl ?_
      refine pq_dup F dX6_readPart_33 rfl ?_
      refine pq_get F ha_3 (by decide) lk_X6_38 hB2.e5 dX6_readPart_34 ?_
      refine pq_iconst (v := 1) F dX6_readPart_37 (by decide) ?_
      refine pq_iadd F dX6_readPart_38 ?_
      refine pq_putI F ha_3 (by decide) lp_X6_38 rfl (pq_any1 _) (pq_any2 _) dX6_readPart_39 ?_
      refine pq_aload_n F dX6_readPart_42 rfl rfl ?_
      refine pq_get F ha_3 (by decide) lk_X6_38 pq_ks dX6_readPart_43 ?_
      refine pq_istore_n F dX6_readPart_46 rfl (by decide) ?_
      refine pq_aload_n F dX6_readPart_47 rfl rfl ?_
      refine pq_ldcS (i := 1) F (by decide) rfl rfl dX6_readPart_48 ?_
      refine pq_callV (As := [_]) F (k_X6_readSymbol l D cy _ _ ?_ 1 ?_ _ _ _ _ _ _ _ (hB2.p5 (by focus ((try clear hB); (try clear hB2); (try clear hB3); (try clear hB4); (try clear p3); (try clear p8); (try clear p18); (try clear p24); (try clear p45); (try clear p50); (try clear p74); (try clear p81); (try clear hJ); simp only [vp_in_iff, Int32.lt_iff_toInt_lt, Int32.le_iff_toInt_le, ← Int32.toInt_inj, Int32.toInt_add, Int32.toInt_sub, Int32.toInt_mul, Int32.toInt_neg, pq_NuO, pq_NuI, pq_NuJ, pq_NuR, pq_shr6, pq_shr7, pq_shr8, lqm1, lq0, lq1, lq45] at *; (try simp (disch := omega) only [pq_bm] at *); all_goals omega)) (by focus ((try clear hB); (try clear hB2); (try clear hB3); (try clear hB4); (try clear p3); (try clear p8); (try clear p18); (try clear p24); (try clear p45); (try clear p50); (try clear p74); (try clear p81); (try clear hJ); simp only [vp_in_iff, Int32.lt_iff_toInt_lt, Int32.le_iff_toInt_le, ← Int32.toInt_inj, Int32.toInt_add, Int32.toInt_sub, Int32.toInt_mul, Int32.toInt_neg, pq_NuO, pq_NuI, pq_NuJ, pq_NuR, pq_shr6, pq_shr7, pq_shr8, lqm1, lq0, lq1, lq45] at *; (try simp (disch := omega) only [pq_bm] at *); all_goals omega))) ?_) ml_X6_124 ha_3 (by decide) rfl (Nat.le_of_ble_eq_true rfl) ⟨Nat.le_of_ble_eq_true rfl, Nat.le_of_ble_eq_true rfl⟩ ⟨by decide, by decide⟩ dX6_readPart_50 (fun v50 S50 w50 => ?_)
      · exact ha_3
      · decide
      · focus ((try clear hB); (try clear hB2); (try clear hB3); (try clear hB4); (try clear p3); (try clear p8); (try clear p18); (try clear p24); (try clear p45); (try clear p50); (try clear p74); (try clear p81); (try clear hJ); simp only [vp_in_iff, Int32.lt_iff_toInt_lt, Int32.le_iff_toInt_le, ← Int32.toInt_inj, Int32.toInt_add, Int32.toInt_sub, Int32.toInt_mul, Int32.toInt_neg, pq_NuO, pq_NuI, pq_NuJ, pq_NuR, pq_shr6, pq_shr7, pq_shr8, lqm1, lq0, lq1, lq45] at *; (try simp (disch := omega) only [pq_bm] at *); all_goals omega)
      obtain ⟨hF50, y50, rfl, yl50_0, yl50_1, p50⟩ := w50
      have ha_50 := (hF50.1 _ _ ha_3 (by decide)).1
      have hz_50 := (hF50.1 _ _ hz_3 (by decide)).1
      have ec50_2_ha_50 := hF50.O ha_3 (by decide) (by decide) (pq_kp ec3_2_ha_3 (by decide))
      have hz_3z_50 := (hF50.1 _ _ hz_3z (by decide)).1
      have ec50_3_ha_50 := hF50.O ha_3 (by decide) (by decide) (pq_kp ec3_3_ha_3 (by decide))
      have hz_3zz_50 := (hF50.1 _ _ hz_3zz (by decide)).1
      have ec50_0_ha_50 := hF50.O ha_3 (by decide) (by decide) (pq_kp ec3_0_ha_3 (by decide))
      have ec50_6_ha_50 := hF50.O ha_3 (by decide) (by decide) (pq_kp ec3_6_ha_3 (by decide))
      obtain ⟨at3, br3, hB3, hr1, hr2⟩ := p50
      refine pq_istore_n F dX6_readPart_53 rfl (by decide) ?_
      refine pq_aload_n F dX6_readPart_54 rfl rfl ?_
      refine pq_get F ha_50 (by decide) lk_X6_42 hB3.e7 dX6_readPart_55 ?_
      refine pq_if_ge (tgt := 71) F dX6_readPart_58 (by decide) (fun c58 => ?_) (fun c58 => ?_)
      · skip
        refine pq_aload_n F dX6_readPart_71 rfl rfl ?_
        refine pq_iload_n F dX6_readPart_72 rfl rfl ?_
        refine pq_iload_n F dX6_readPart_73 rfl rfl ?_
        refine pq_callV (As := [_, _]) F (k_X6_include l D cy _ _ ?_ _ _) ml_X6_128 ha_50 (by decide) rfl (Nat.le_of_ble_eq_true rfl) ⟨Nat.le_of_ble_eq_true rfl, Nat.le_of_ble_eq_true rfl⟩ ⟨by decide, by decide⟩ dX6_readPart_74 (fun v74 S74 w74 => ?_)
        · exact ha_50
        obtain ⟨rfl, hF74⟩ := w74
        have ha_74 := (hF74.1 _ _ ha_50 (by decide)).1
        have hz_74 := (hF74.1 _ _ hz_50 (by decide)).1
        have ec74_2_ha_74 := hF74.O ha_50 (by decide) (by decide) ec50_2_ha_50
        have hz_3z_74 := (hF74.1 _ _ hz_3z_50 (by decide)).1
        have ec74_3_ha_74 := hF74.O ha_50 (by decide) (by decide) ec50_3_ha_50
        have hz_3zz_74 := (hF74.1 _ _ hz_3zz_50 (by decide)).1
        have ec74_0_ha_74 := hF74.O ha_50 (by decide) (by decide) ec50_0_ha_50
        have ec74_6_ha_74 := hF74.O ha_50 (by decide) (by decide) ec50_6_ha_50
        have ec74_5_ha_74 := hF74.O ha_50 (by decide) (by decide) hB3.e5
        have ec74_7_ha_74 := hF74.O ha_50 (by decide) (by decide) hB3.e7
        exact pq_vret F hr hlk hA (Nat.le_refl _) (Nat.le_refl _) (⟨rfl, ((((pq_Fr.rf.cm hF3 (by decide)).uO ha_3 (by decide)).cm hF50 (by decide)).cm hF74 (by decide)), _, _, hB3.fr hF74 (by decide), (by focus ((try clear hB); (try clear hB2); (try clear hB3); (try clear hB4); (try clear p3); (try clear p8); (try clear p18); (try clear p24); (try clear p45); (try clear p50); (try clear p74); (try clear p81); (try clear hJ); simp only [vp_in_iff, Int32.lt_iff_toInt_lt, Int32.le_iff_toInt_le, ← Int32.toInt_inj, Int32.toInt_add, Int32.toInt_sub, Int32.toInt_mul, Int32.toInt_neg, pq_NuO, pq_NuI, pq_NuJ, pq_NuR, pq_shr6, pq_shr7, pq_shr8, lqm1, lq0, lq1, lq45] at *; (try simp (disch := omega) only [pq_bm] at *); all_goals omega))⟩) dX6_readPart_77
      · skip
        refine pq_iload_n F dX6_readPart_61 rfl rfl ?_
        refine pq_iload_n F dX6_readPart_62 rfl rfl ?_
        refine pq_icmp_ge (tgt := 71) F dX6_readPart_63 (by decide) (fun c63 => ?_) (fun c63 => ?_)
        · skip
          refine pq_aload_n F dX6_readPart_71 rfl rfl ?_
          refine pq_iload_n F dX6_readPart_72 rfl rfl ?_
          refine pq_iload_n F dX6_readPart_73 rfl rfl ?_
          refine pq_callV (As := [_, _]) F (k_X6_include l D cy _ _ ?_ _ _) ml_X6_128 ha_50 (by decide) rfl (Nat.le_of_ble_eq_true rfl) ⟨Nat.le_of_ble_eq_true rfl, Nat.le_of_ble_eq_true rfl⟩ ⟨by decide, by decide⟩ dX6_readPart_74 (fun v74 S74 w74 => ?_)
          · exact ha_50
          obtain ⟨rfl, hF74⟩ := w74
          have ha_74 := (hF74.1 _ _ ha_50 (by decide)).1
          have hz_74 := (hF74.1 _ _ hz_50 (by decide)).1
          have ec74_2_ha_74 := hF74.O ha_50 (by decide) (by decide) ec50_2_ha_50
          have hz_3z_74 := (hF74.1 _ _ hz_3z_50 (by decide)).1
          have ec74_3_ha_74 := hF74.O ha_50 (by decide) (by decide) ec50_3_ha_50
          have hz_3zz_74 := (hF74.1 _ _ hz_3zz_50 (by decide)).1
          have ec74_0_ha_74 := hF74.O ha_50 (by decide) (by decide) ec50_0_ha_50
          have ec74_6_ha_74 := hF74.O ha_50 (by decide) (by decide) ec50_6_ha_50
          have ec74_5_ha_74 := hF74.O ha_50 (by decide) (by decide) hB3.e5
          have ec74_7_ha_74 := hF74.O ha_50 (by decide) (by decide) hB3.e7
          exact pq_vret F hr hlk hA (Nat.le_refl _) (Nat.le_refl _) (⟨rfl, ((((pq_Fr.rf.cm hF3 (by decide)).uO ha_3 (by decide)).cm hF50 (by decide)).cm hF74 (by decide)), _, _, hB3.fr hF74 (by decide), (by focus ((try clear hB); (try clear hB2); (try clear hB3); (try clear hB4); (try clear p3); (try clear p8); (try clear p18); (try clear p24); (try clear p45); (try clear p50); (try clear p74); (try clear p81); (try clear hJ); simp only [vp_in_iff, Int32.lt_iff_toInt_lt, Int32.le_iff_toInt_le, ← Int32.toInt_inj, Int32.toInt_add, Int32.toInt_sub, Int32.toInt_mul, Int32.toInt_neg, pq_NuO, pq_NuI, pq_NuJ, pq_NuR, pq_shr6, pq_shr7, pq_shr8, lqm1, lq0, lq1, lq45] at *; (try simp (disch := omega) only [pq_bm] at *); all_goals omega))⟩) dX6_readPart_77
        · skip
          refine pq_aload_n F dX6_readPart_66 rfl rfl ?_
          refine pq_iload_n F dX6_readPart_67 rfl rfl ?_
          refine pq_putI F ha_50 (by decide) lp_X6_42 rfl (pq_any1 _) (pq_any2 _) dX6_readPart_68 ?_
          refine pq_aload_n F dX6_readPart_71 rfl rfl ?_
          refine pq_iload_n F dX6_readPart_72 rfl rfl ?_
          refine pq_iload_n F dX6_readPart_73 rfl rfl ?_
          refine pq_callV (As := [_, _]) F (k_X6_include l D cy _ _ ?_ _ _) ml_X6_128 ha_50 (by decide) rfl (Nat.le_of_ble_eq_true rfl) ⟨Nat.le_of_ble_eq_true rfl, Nat.le_of_ble_eq_true rfl⟩ ⟨by decide, by decide⟩ dX6_readPart_74 (fun v74 S74 w74 => ?_)
          · exact ha_50
          obtain ⟨rfl, hF74⟩ := w74
          have ha_74 := (hF74.1 _ _ ha_50 (by decide)).1
          have hz_74 := (hF74.1 _ _ hz_50 (by decide)).1
          have ec74_2_ha_74 := hF74.O ha_50 (by decide) (by decide) (pq_kp ec50_2_ha_50 (by decide))
          have hz_3z_74 := (hF74.1 _ _ hz_3z_50 (by decide)).1
          have ec74_3_ha_74 := hF74.O ha_50 (by decide) (by decide) (pq_kp ec50_3_ha_50 (by decide))
          have hz_3zz_74 := (hF74.1 _ _ hz_3zz_50 (by decide)).1
          have ec74_0_ha_74 := hF74.O ha_50 (by decide) (by decide) (pq_kp ec50_0_ha_50 (by decide))
          have ec74_6_ha_74 := hF74.O ha_50 (by decide) (by decide) (pq_kp ec50_6_ha_50 (by decide))
          have ec74_5_ha_74 := hF74.O ha_50 (by decide) (by decide) (pq_kp hB3.e5 (by decide))
          have ec74_7_ha_74 := hF74.O ha_50 (by decide) (by decide) pq_ks
          exact pq_vret F hr hlk hA (Nat.le_refl _) (Nat.le_refl _) (⟨rfl, (((((pq_Fr.rf.cm hF3 (by decide)).uO ha_3 (by decide)).cm hF50 (by decide)).uO ha_50 (by decide)).cm hF74 (by decide)), _, _, hB3.p7.fr hF74 (by decide), (by focus ((try clear hB); (try clear hB2); (try clear hB3); (try clear hB4); (try clear p3); (try clear p8); (try clear p18); (try clear p24); (try clear p45); (try clear p50); (try clear p74); (try clear p81); (try clear hJ); simp only [vp_in_iff, Int32.lt_iff_toInt_lt, Int32.le_iff_toInt_le, ← Int32.toInt_inj, Int32.toInt_add, Int32.toInt_sub, Int32.toInt_mul, Int32.toInt_neg, pq_NuO, pq_NuI, pq_NuJ, pq_NuR, pq_shr6, pq_shr7, pq_shr8, lqm1, lq0, lq1, lq45] at *; (try simp (disch := omega) only [pq_bm] at *); all_goals omega))⟩) dX6_readPart_77

set_option maxHeartbeats 4000000 in
set_option maxRecDepth 100000 in
theorem k_X6_readAny (l : Launch) (D : va_G) (cy : Nat → ClassId) (S : HS) (a : Nat) (ha : pq_R S a 9) (ch sq tp : Nat) (dp at1 br t : Int32) (hB : pq_Rd S a ch sq tp dp at1 br t dp.toInt) (hat : at1.toInt ≤ t.toInt) : pq_C l D cy yX6_readAny cX6_readAny 1 (none) 1 0 0 S [.ref a] (fun v S2 => v = none ∧ pq_Fr [(9, 5), (9, 8), (9, 9)] S S2 ∧ (pq_Rd S2 a ch sq tp dp (at1 + 1) br t dp.toInt)) := by
  refine pq_start (by decide) (Nat.le_of_ble_eq_true rfl) ?_
  intro p e s m args below meth c A F hr hlk hnm hA
  have lqm1 : (-1 : Int32).toInt = -1 := rfl
  have lq0 : (0 : Int32).toInt = 0 := rfl
  have lq1 : (1 : Int32).toInt = 1 := rfl
  obtain ⟨hd0, hd1, ha0, ha1, ht0, ht1⟩ := hB.b
  refine pq_aload_n F dX6_readAny_0 rfl rfl ?_
  refine pq_dup F dX6_readAny_1 rfl ?_
  refine pq_get F ha (by decide) lk_X6_38 hB.e5 dX6_readAny_2 ?_
  refine pq_iconst (v := 1) F dX6_readAny_5 (by decide) ?_
  refine pq_iadd F dX6_readAny_6 ?_
  refine pq_putI F ha (by decide) lp_X6_38 rfl (pq_any1 _) (pq_any2 _) dX6_readAny_7 ?_
  refine pq_aload_n F dX6_readAny_10 rfl rfl ?_
  refine pq_ldc2 F lc_X6_118 dX6_readAny_11 ?_
  refine pq_put F ha (by decide) lp_X6_96 rfl rfl (⟨_, rfl⟩) dX6_readAny_14 ?_
  refine pq_aload_n F dX6_readAny_17 rfl rfl ?_
  refine pq_ldc2 F lc_X6_120 dX6_readAny_18 ?_
  refine pq_put F ha (by decide) lp_X6_100 rfl rfl (⟨_, rfl⟩) dX6_readAny_21 ?_
  exact pq_vret F hr hlk hA (Nat.le_refl _) (Nat.le_refl _) (⟨rfl, (((pq_Fr.rf.uO ha (by decide)).uO ha (by decide)).uO ha (by decide)), ((hB.p5 (by focus ((try clear hB); (try clear hB2); (try clear hB3); (try clear hB4); (try clear p3); (try clear p8); (try clear p18); (try clear p24); (try clear p45); (try clear p50); (try clear p74); (try clear p81); (try clear hJ); simp only [vp_in_iff, Int32.lt_iff_toInt_lt, Int32.le_iff_toInt_le, ← Int32.toInt_inj, Int32.toInt_add, Int32.toInt_sub, Int32.toInt_mul, Int32.toInt_neg, pq_NuO, pq_NuI, pq_NuJ, pq_NuR, pq_shr6, pq_shr7, pq_shr8, lqm1, lq0, lq1] at *; (try simp (disch := omega) only [pq_bm] at *); all_goals omega)) (by focus ((try clear hB); (try clear hB2); (try clear hB3); (try clear hB4); (try clear p3); (try clear p8); (try clear p18); (try clear p24); (try clear p45); (try clear p50); (try clear p74); (try clear p81); (try clear hJ); simp only [vp_in_iff, Int32.lt_iff_toInt_lt, Int32.le_iff_toInt_le, ← Int32.toInt_inj, Int32.toInt_add, Int32.toInt_sub, Int32.toInt_mul, Int32.toInt_neg, pq_NuO, pq_NuI, pq_NuJ, pq_NuR, pq_shr6, pq_shr7, pq_shr8, lqm1, lq0, lq1] at *; (try simp (disch := omega) only [pq_bm] at *); all_goals omega))).p8 (Or.inl rfl)).p8 (Or.inr rfl)⟩) dX6_readAny_24

set_option maxHeartbeats 4000000 in
set_option maxRecDepth 100000 in
theorem k_X6_readClass (l : Launch) (D : va_G) (cy : Nat → ClassId) (S : HS) (a : Nat) (ha : pq_R S a 9) (ch sq tp : Nat) (dp at1 br t : Int32) (hB : pq_Rd S a ch sq tp dp at1 br t dp.toInt) (hat : at1.toInt < t.toInt) (hbr : br.toInt < 0) : pq_C l D cy yX6_readClass cX6_readClass 3 (none) 8 0 0 S [.ref a] (fun v S2 => v = none ∧ pq_Fr [(9, 5), (9, 7), (9, 8), (9, 9)] S S2 ∧ (∃ at2 br2 : Int32, pq_Rd S2 a ch sq tp dp at2 br2 t dp.toInt ∧ (at1.toInt + 1 ≤ at2.toInt ∧ at2.toInt ≤ t.toInt + 1))) := by
  refine pq_start (by decide) (Nat.le_of_ble_eq_true rfl) ?_
  intro p e s m args below meth c A F hr hlk hnm hA
  have lqm1 : (-1 : Int32).toInt = -1 := rfl
  have lq0 : (0 : Int32).toInt = 0 := rfl
  have lq1 : (1 : Int32).toInt = 1 := rfl
  have lq93 : (93 : Int32).toInt = 93 := rfl
  have lq94 : (94 : Int32).toInt = 94 := rfl
  have lq2048 : (2048 : Int32).toInt = 2048 := rfl
  obtain ⟨hd0, hd1, ha0, ha1, ht0, ht1⟩ := hB.b
  have L52 : ∀  (fu : Nat) (S1 : HS) (ot : Int32) (k : Int32) (at3 br3 : Int32) (hF : pq_Fr [(9, 5), (9, 7), (9, 8), (9, 9)] S S1) (hB3 : pq_Rd S1 a ch sq tp dp at3 br3 t dp.toInt) (h31 : at1.toInt + 1 ≤ at3.toInt) (h32 : at3.toInt ≤ t.toInt) (hk0 : 0 ≤ k.toInt) (hk1 : k.toInt ≤ 2048), (2048 - k.toInt).toNat < fu → pq_At p l e (pq_rm 8 0 0) s m args below meth c (pq_Z below args s D cy S 0 0 (fun v S2 => v = none ∧ pq_Fr [(9, 5), (9, 7), (9, 8), (9, 9)] S S2 ∧ (∃ at2 br2 : Int32, pq_Rd S2 a ch sq tp dp at2 br2 t dp.toInt ∧ (at1.toInt + 1 ≤ at2.toInt ∧ at2.toInt ≤ t.toInt + 1)))) D cy A 3 0 0 52 S1 [some (.ref a), some (.int ot), some (.int k)] [] := by
    intro  fu
    induction fu with
    | zero => intro S1 ot k at3 br3 hF hB3 h31 h32 hk0 hk1 hm; exact absurd hm (Nat.not_lt_zero _)
    | succ fu ih =>
      intro S1 ot k at3 br3 hF hB3 h31 h32 hk0 hk1 hm
      have haL := hF.R ha (by first | decide | omega)
      refine pq_iload_n F dX6_readClass_52 rfl rfl ?_
      refine pq_sipush (v := 2048) F dX6_readClass_53 (by decide) ?_
      refine pq_icmp_ge (tgt := 92) F dX6_readClass_56 (by decide) (fun c56 => ?_) (fun c56 => ?_)
      · skip
        refine pq_aload_n F dX6_readClass_92 rfl rfl ?_
        refine pq_dup F dX6_readClass_93 rfl ?_
        refine pq_get F haL (by decide) lk_X6_38 hB3.e5 dX6_readClass_94 ?_
        refine pq_iconst (v := 1) F dX6_readClass_97 (by decide) ?_
        refine pq_iadd F dX6_readClass_98 ?_
        refine pq_putI F haL (by decide) lp_X6_38 rfl (pq_any1 _) (pq_any2 _) dX6_readClass_99 ?_
        refine pq_iload_n F dX6_readClass_102 rfl rfl ?_
        refine pq_if_eq (tgt := 130) F dX6_readClass_103 (by decide) (fun c103 => ?_) (fun c103 => ?_)
        · skip
          exact pq_vret F hr hlk hA (Nat.le_refl _) (Nat.le_refl _) (⟨rfl, (hF.uO haL (by decide)), _, _, hB3.p5 (by focus ((try clear hB); (try clear hB2); (try clear hB3); (try clear hB4); (try clear p3); (try clear p8); (try clear p18); (try clear p24); (try clear p45); (try clear p50); (try clear p74); (try clear p81); (try clear hJ); (try clear hlt); (try clear p18a); simp only [vp_in_iff, Int32.lt_iff_toInt_lt, Int32.le_iff_toInt_le, ← Int32.toInt_inj, Int32.toInt_add, Int32.toInt_sub, Int32.toInt_mul, Int32.toInt_neg, pq_NuO, pq_NuI, pq_NuJ, pq_NuR, pq_shr6, pq_shr7, pq_shr8, lqm1, lq0, lq1, lq93, lq94, lq2048] at *; (try simp (disch := omega) only [pq_bm] at *); all_goals omega)) (by focus ((try clear hB); (try clear hB2); (try clear hB3); (try clear hB4); (try clear p3); (try clear p8); (try clear p18); (try clear p24); (try clear p45); (try clear p50); (try clear p74); (try clear p81); (try clear hJ); (try clear hlt); (try clear p18a); simp only [vp_in_iff, Int32.lt_iff_toInt_lt, Int32.le_iff_toInt_le, ← Int32.toInt_inj, Int32.toInt_add, Int32.toInt_sub, Int32.toInt_mul, Int32.toInt_neg, pq_NuO, pq_NuI, pq_NuJ, pq_NuR, pq_shr6, pq_shr7, pq_shr8, lqm1, lq0, lq1, lq93, lq94, lq2048] at *; (try simp (disch := omega) only [pq_bm] at *); all_goals omega)), (by focus ((try clear hB); (try clear hB2); (try clear hB3); (try clear hB4); (try clear p3); (try clear p8); (try clear p18); (try clear p24); (try clear p45); (try clear p50); (try clear p74); (try clear p81); (try clear hJ); (try clear hlt); (try clear p18a); simp only [vp_in_iff, Int32.lt_iff_toInt_lt, Int32.le_iff_toInt_le, ← Int32.toInt_inj, Int32.toInt_add, Int32.toInt_sub, Int32.toInt_mul, Int32.toInt_neg, pq_NuO, pq_NuI, pq_NuJ, pq_NuR, pq_shr6, pq_shr7, pq_shr8, lqm1, lq0, lq1, lq93, lq94, lq2048] at *; (try simp (disch := omega) only [pq_bm] at *); all_goals omega))⟩) dX6_readClass_130
        · skip
          refine pq_aload_n F dX6_readClass_106 rfl rfl ?_
          refine pq_aload_n F dX6_readClass_107 rfl rfl ?_
          refine pq_getJ F haL (by decide) lk_X6_96 rfl dX6_readClass_108 (fun x108 e108 => ?_)
          refine pq_ldc2 F lc_X6_120 dX6_readClass_111 ?_
          refine pq_lxor F dX6_readClass_114 ?_
          refine pq_put F haL (by decide) lp_X6_96 rfl rfl (⟨_, rfl⟩) dX6_readClass_115 ?_
          refine pq_aload_n F dX6_readClass_118 rfl rfl ?_
          refine pq_aload_n F dX6_readClass_119 rfl rfl ?_
          refine pq_getJ F haL (by decide) lk_X6_100 rfl dX6_readClass_120 (fun x120 e120 => ?_)
          refine pq_ldc2 F lc_X6_120 dX6_readClass_123 ?_
          refine pq_lxor F dX6_readClass_126 ?_
          refine pq_put F haL (by decide) lp_X6_100 rfl rfl (⟨_, rfl⟩) dX6_readClass_127 ?_
          exact pq_vret F hr hlk hA (Nat.le_refl _) (Nat.le_refl _) (⟨rfl, (((hF.uO haL (by decide)).uO haL (by decide)).uO haL (by decide)), _, _, ((hB3.p5 (by focus ((try clear hB); (try clear hB2); (try clear hB3); (try clear hB4); (try clear p3); (try clear p8); (try clear p18); (try clear p24); (try clear p45); (try clear p50); (try clear p74); (try clear p81); (try clear hJ); (try clear hlt); (try clear p18a); simp only [vp_in_iff, Int32.lt_iff_toInt_lt, Int32.le_iff_toInt_le, ← Int32.toInt_inj, Int32.toInt_add, Int32.toInt_sub, Int32.toInt_mul, Int32.toInt_neg, pq_NuO, pq_NuI, pq_NuJ, pq_NuR, pq_shr6, pq_shr7, pq_shr8, lqm1, lq0, lq1, lq93, lq94, lq2048] at *; (try simp (disch := omega) only [pq_bm] at *); all_goals omega)) (by focus ((try clear hB); (try clear hB2); (try clear hB3); (try clear hB4); (try clear p3); (try clear p8); (try clear p18); (try clear p24); (try clear p45); (try clear p50); (try clear p74); (try clear p81); (try clear hJ); (try clear hlt); (try clear p18a); simp only [vp_in_iff, Int32.lt_iff_toInt_lt, Int32.le_iff_toInt_le, ← Int32.toInt_inj, Int32.toInt_add, Int32.toInt_sub, Int32.toInt_mul, Int32.toInt_neg, pq_NuO, pq_NuI, pq_NuJ, pq_NuR, pq_shr6, pq_shr7, pq_shr8, lqm1, lq0, lq1, lq93, lq94, lq2048] at *; (try simp (disch := omega) only [pq_bm] at *); all_goals omega))).p8 (Or.inl rfl)).p8 (Or.inr rfl), (by focus ((try clear hB); (try clear hB2); (try clear hB3); (try clear hB4); (try clear p3); (try clear p8); (try clear p18); (try clear p24); (try clear p45); (try clear p50); (try clear p74); (try clear p81); (try clear hJ); (try clear hlt); (try clear p18a); simp only [vp_in_iff, Int32.lt_iff_toInt_lt, Int32.le_iff_toInt_le, ← Int32.toInt_inj, Int32.toInt_add, Int32.toInt_sub, Int32.toInt_mul, Int32.toInt_neg, pq_NuO, pq_NuI, pq_NuJ, pq_NuR, pq_shr6, pq_shr7, pq_shr8, lqm1, lq0, lq1, lq93, lq94, lq2048] at *; (try simp (disch := omega) only [pq_bm] at *); all_goals omega))⟩) dX6_readClass_130
      · skip
        refine pq_aload_n F dX6_readClass_59 rfl rfl ?_
        refine pq_get F haL (by decide) lk_X6_42 hB3.e7 dX6_readClass_60 ?_
        refine pq_if_ge (tgt := 92) F dX6_readClass_63 (by decide) (fun c63 => ?_) (fun c63 => ?_)
        · skip
          refine pq_aload_n F dX6_readClass_92 rfl rfl ?_
          refine pq_dup F dX6_readClass_93 rfl ?_
          refine pq_get F haL (by decide) lk_X6_38 hB3.e5 dX6_readClass_94 ?_
          refine pq_iconst (v := 1) F dX6_readClass_97 (by decide) ?_
          refine pq_iadd F dX6_readClass_98 ?_
          refine pq_putI F haL (by decide) lp_X6_38 rfl (pq_any1 _) (pq_any2 _) dX6_readClass_99 ?_
          refine pq_iload_n F dX6_readClass_102 rfl rfl ?_
          refine pq_if_eq (tgt := 130) F dX6_readClass_103 (by decide) (fun c103 => ?_) (fun c103 => ?_)
          · skip
            exact pq_vret F hr hlk hA (Nat.le_refl _) (Nat.le_refl _) (⟨rfl, (hF.uO haL (by decide)), _, _, hB3.p5 (by focus ((try clear hB); (try clear hB2); (try clear hB3); (try clear hB4); (try clear p3); (try clear p8); (try clear p18); (try clear p24); (try clear p45); (try clear p50); (try clear p74); (try clear p81); (try clear hJ); (try clear hlt); (try clear p18a); simp only [vp_in_iff, Int32.lt_iff_toInt_lt, Int32.le_iff_toInt_le, ← Int32.toInt_inj, Int32.toInt_add, Int32.toInt_sub, Int32.toInt_mul, Int32.toInt_neg, pq_NuO, pq_NuI, pq_NuJ, pq_NuR, pq_shr6, pq_shr7, pq_shr8, lqm1, lq0, lq1, lq93, lq94, lq2048] at *; (try simp (disch := omega) only [pq_bm] at *); all_goals omega)) (by focus ((try clear hB); (try clear hB2); (try clear hB3); (try clear hB4); (try clear p3); (try clear p8); (try clear p18); (try clear p24); (try clear p45); (try clear p50); (try clear p74); (try clear p81); (try clear hJ); (try clear hlt); (try clear p18a); simp only [vp_in_iff, Int32.lt_iff_toInt_lt, Int32.le_iff_toInt_le, ← Int32.toInt_inj, Int32.toInt_add, Int32.toInt_sub, Int32.toInt_mul, Int32.toInt_neg, pq_NuO, pq_NuI, pq_NuJ, pq_NuR, pq_shr6, pq_shr7, pq_shr8, lqm1, lq0, lq1, lq93, lq94, lq2048] at *; (try simp (disch := omega) only [pq_bm] at *); all_goals omega)), (by focus ((try clear hB); (try clear hB2); (try clear hB3); (try clear hB4); (try clear p3); (try clear p8); (try clear p18); (try clear p24); (try clear p45); (try clear p50); (try clear p74); (try clear p81); (try clear hJ); (try clear hlt); (try clear p18a); simp only [vp_in_iff, Int32.lt_iff_toInt_lt, Int32.le_iff_toInt_le, ← Int32.toInt_inj, Int32.toInt_add, Int32.toInt_sub, Int32.toInt_mul, Int32.toInt_neg, pq_NuO, pq_NuI, pq_NuJ, pq_NuR, pq_shr6, pq_shr7, pq_shr8, lqm1, lq0, lq1, lq93, lq94, lq2048] at *; (try simp (disch := omega) only [pq_bm] at *); all_goals omega))⟩) dX6_readClass_130
          · skip
            refine pq_aload_n F dX6_readClass_106 rfl rfl ?_
            refine pq_aload_n F dX6_readClass_107 rfl rfl ?_
            refine pq_getJ F haL (by decide) lk_X6_96 rfl dX6_readClass_108 (fun x108 e108 => ?_)
            refine pq_ldc2 F lc_X6_120 dX6_readClass_111 ?_
            refine pq_lxor F dX6_readClass_114 ?_
            refine pq_put F haL (by decide) lp_X6_96 rfl rfl (⟨_, rfl⟩) dX6_readClass_115 ?_
            refine pq_aload_n F dX6_readClass_118 rfl rfl ?_
            refine pq_aload_n F dX6_readClass_119 rfl rfl ?_
            refine pq_getJ F haL (by decide) lk_X6_100 rfl dX6_readClass_120 (fun x120 e120 => ?_)
            refine pq_ldc2 F lc_X6_120 dX6_readClass_123 ?_
            refine pq_lxor F dX6_readClass_126 ?_
            refine pq_put F haL (by decide) lp_X6_100 rfl rfl (⟨_, rfl⟩) dX6_readClass_127 ?_
            exact pq_vret F hr hlk hA (Nat.le_refl _) (Nat.le_refl _) (⟨rfl, (((hF.uO haL (by decide)).uO haL (by decide)).uO haL (by decide)), _, _, ((hB3.p5 (by focus ((try clear hB); (try clear hB2); (try clear hB3); (try clear hB4); (try clear p3); (try clear p8); (try clear p18); (try clear p24); (try clear p45); (try clear p50); (try clear p74); (try clear p81); (try clear hJ); (try clear hlt); (try clear p18a); simp only [vp_in_iff, Int32.lt_iff_toInt_lt, Int32.le_iff_toInt_le, ← Int32.toInt_inj, Int32.toInt_add, Int32.toInt_sub, Int32.toInt_mul, Int32.toInt_neg, pq_NuO, pq_NuI, pq_NuJ, pq_NuR, pq_shr6, pq_shr7, pq_shr8, lqm1, lq0, lq1, lq93, lq94, lq2048] at *; (try simp (disch := omega) only [pq_bm] at *); all_goals omega)) (by focus ((try clear hB); (try clear hB2); (try clear hB3); (try clear hB4); (try clear p3); (try clear p8); (try clear p18); (try clear p24); (try clear p45); (try clear p50); (try clear p74); (try clear p81); (try clear hJ); (try clear hlt); (try clear p18a); simp only [vp_in_iff, Int32.lt_iff_toInt_lt, Int32.le_iff_toInt_le, ← Int32.toInt_inj, Int32.toInt_add, Int32.toInt_sub, Int32.toInt_mul, Int32.toInt_neg, pq_NuO, pq_NuI, pq_NuJ, pq_NuR, pq_shr6, pq_shr7, pq_shr8, lqm1, lq0, lq1, lq93, lq94, lq2048] at *; (try simp (disch := omega) only [pq_bm] at *); all_goals omega))).p8 (Or.inl rfl)).p8 (Or.inr rfl), (by focus ((try clear hB); (try clear hB2); (try clear hB3); (try clear hB4); (try clear p3); (try clear p8); (try clear p18); (try clear p24); (try clear p45); (try clear p50); (try clear p74); (try clear p81); (try clear hJ); (try clear hlt); (try clear p18a); simp only [vp_in_iff, Int32.lt_iff_toInt_lt, Int32.le_iff_toInt_le, ← Int32.toInt_inj, Int32.toInt_add, Int32.toInt_sub, Int32.toInt_mul, Int32.toInt_neg, pq_NuO, pq_NuI, pq_NuJ, pq_NuR, pq_shr6, pq_shr7, pq_shr8, lqm1, lq0, lq1, lq93, lq94, lq2048] at *; (try simp (disch := omega) only [pq_bm] at *); all_goals omega))⟩) dX6_readClass_130
        · skip
          refine pq_aload_n F dX6_readClass_66 rfl rfl ?_
          refine pq_get F haL (by decide) lk_X6_25 hB3.e0 dX6_readClass_67 ?_
          refine pq_aload_n F dX6_readClass_70 rfl rfl ?_
          refine pq_get F haL (by decide) lk_X6_38 hB3.e5 dX6_readClass_71 ?_
          refine pq_callV (As := [_]) F (k_X9_byteAt l D cy _ _ ?_ _) ml_X6_79 hB3.h0 (by decide) rfl (Nat.le_of_ble_eq_true rfl) ⟨Nat.le_of_ble_eq_true rfl, Nat.le_of_ble_eq_true rfl⟩ ⟨by decide, by decide⟩ dX6_readClass_74 (fun v74 S74 w74 => ?_)
          · exact hB3.h0
          obtain ⟨u74, y74, rfl, yl74_0, yl74_1, p74⟩ := w74
          rw [u74]
          try rw [u74] at p74
          refine pq_bipush (v := 93) F dX6_readClass_77 (by decide) ?_
          refine pq_icmp_eq (tgt := 92) F dX6_readClass_79 (by decide) (fun c79 => ?_) (fun c79 => ?_)
          · skip
            refine pq_aload_n F dX6_readClass_92 rfl rfl ?_
            refine pq_dup F dX6_readClass_93 rfl ?_
            refine pq_get F haL (by decide) lk_X6_38 hB3.e5 dX6_readClass_94 ?_
            refine pq_iconst (v := 1) F dX6_readClass_97 (by decide) ?_
            refine pq_iadd F dX6_readClass_98 ?_
            refine pq_putI F haL (by decide) lp_X6_38 rfl (pq_any1 _) (pq_any2 _) dX6_readClass_99 ?_
            refine pq_iload_n F dX6_readClass_102 rfl rfl ?_
            refine pq_if_eq (tgt := 130) F dX6_readClass_103 (by decide) (fun c103 => ?_) (fun c103 => ?_)
            · skip
              exact pq_vret F hr hlk hA (Nat.le_refl _) (Nat.le_refl _) (⟨rfl, (hF.uO haL (by decide)), _, _, hB3.p5 (by focus ((try clear hB); (try clear hB2); (try clear hB3); (try clear hB4); (try clear p3); (try clear p8); (try clear p18); (try clear p24); (try clear p45); (try clear p50); (try clear p74); (try clear p81); (try clear hJ); (try clear hlt); (try clear p18a); simp only [vp_in_iff, Int32.lt_iff_toInt_lt, Int32.le_iff_toInt_le, ← Int32.toInt_inj, Int32.toInt_add, Int32.toInt_sub, Int32.toInt_mul, Int32.toInt_neg, pq_NuO, pq_NuI, pq_NuJ, pq_NuR, pq_shr6, pq_shr7, pq_shr8, lqm1, lq0, lq1, lq93, lq94, lq2048] at *; (try simp (disch := omega) only [pq_bm] at *); all_goals omega)) (by focus ((try clear hB); (try clear hB2); (try clear hB3); (try clear hB4); (try clear p3); (try clear p8); (try clear p18); (try clear p24); (try clear p45); (try clear p50); (try clear p74); (try clear p81); (try clear hJ); (try clear hlt); (try clear p18a); simp only [vp_in_iff, Int32.lt_iff_toInt_lt, Int32.le_iff_toInt_le, ← Int32.toInt_inj, Int32.toInt_add, Int32.toInt_sub, Int32.toInt_mul, Int32.toInt_neg, pq_NuO, pq_NuI, pq_NuJ, pq_NuR, pq_shr6, pq_shr7, pq_shr8, lqm1, lq0, lq1, lq93, lq94, lq2048] at *; (try simp (disch := omega) only [pq_bm] at *); all_goals omega)), (by focus ((try clear hB); (try clear hB2); (try clear hB3); (try clear hB4); (try clear p3); (try clear p8); (try clear p18); (try clear p24); (try clear p45); (try clear p50); (try clear p74); (try clear p81); (try clear hJ); (try clear hlt); (try clear p18a); simp only [vp_in_iff, Int32.lt_iff_toInt_lt, Int32.le_iff_toInt_le, ← Int32.toInt_inj, Int32.toInt_add, Int32.toInt_sub, Int32.toInt_mul, Int32.toInt_neg, pq_NuO, pq_NuI, pq_NuJ, pq_NuR, pq_shr6, pq_shr7, pq_shr8, lqm1, lq0, lq1, lq93, lq94, lq2048] at *; (try simp (disch := omega) only [pq_bm] at *); all_goals omega))⟩) dX6_readClass_130
            · skip
              refine pq_aload_n F dX6_readClass_106 rfl rfl ?_
              refine pq_aload_n F dX6_readClass_107 rfl rfl ?_
              refine pq_getJ F haL (by decide) lk_X6_96 rfl dX6_readClass_108 (fun x108 e108 => ?_)
              refine pq_ldc2 F lc_X6_120 dX6_readClass_111 ?_
              refine pq_lxor F dX6_readClass_114 ?_
              refine pq_put F haL (by decide) lp_X6_96 rfl rfl (⟨_, rfl⟩) dX6_readClass_115 ?_
              refine pq_aload_n F dX6_readClass_118 rfl rfl ?_
              refine pq_aload_n F dX6_readClass_119 rfl rfl ?_
              refine pq_getJ F haL (by decide) lk_X6_100 rfl dX6_readClass_120 (fun x120 e120 => ?_)
              refine pq_ldc2 F lc_X6_120 dX6_readClass_123 ?_
              refine pq_lxor F dX6_readClass_126 ?_
              refine pq_put F haL (by decide) lp_X6_100 rfl rfl (⟨_, rfl⟩) dX6_readClass_127 ?_
              exact pq_vret F hr hlk hA (Nat.le_refl _) (Nat.le_refl _) (⟨rfl, (((hF.uO haL (by decide)).uO haL (by decide)).uO haL (by decide)), _, _, ((hB3.p5 (by focus ((try clear hB); (try clear hB2); (try clear hB3); (try clear hB4); (try clear p3); (try clear p8); (try clear p18); (try clear p24); (try clear p45); (try clear p50); (try clear p74); (try clear p81); (try clear hJ); (try clear hlt); (try clear p18a); simp only [vp_in_iff, Int32.lt_iff_toInt_lt, Int32.le_iff_toInt_le, ← Int32.toInt_inj, Int32.toInt_add, Int32.toInt_sub, Int32.toInt_mul, Int32.toInt_neg, pq_NuO, pq_NuI, pq_NuJ, pq_NuR, pq_shr6, pq_shr7, pq_shr8, lqm1, lq0, lq1, lq93, lq94, lq2048] at *; (try simp (disch := omega) only [pq_bm] at *); all_goals omega)) (by focus ((try clear hB); (try clear hB2); (try clear hB3); (try clear hB4); (try clear p3); (try clear p8); (try clear p18); (try clear p24); (try clear p45); (try clear p50); (try clear p74); (try clear p81); (try clear hJ); (try clear hlt); (try clear p18a); simp only [vp_in_iff, Int32.lt_iff_toInt_lt, Int32.le_iff_toInt_le, ← Int32.toInt_inj, Int32.toInt_add, Int32.toInt_sub, Int32.toInt_mul, Int32.toInt_neg, pq_NuO, pq_NuI, pq_NuJ, pq_NuR, pq_shr6, pq_shr7, pq_shr8, lqm1, lq0, lq1, lq93, lq94, lq2048] at *; (try simp (disch := omega) only [pq_bm] at *); all_goals omega))).p8 (Or.inl rfl)).p8 (Or.inr rfl), (by focus ((try clear hB); (try clear hB2); (try clear hB3); (try clear hB4); (try clear p3); (try clear p8); (try clear p18); (try clear p24); (try clear p45); (try clear p50); (try clear p74); (try clear p81); (try clear hJ); (try clear hlt); (try clear p18a); simp only [vp_in_iff, Int32.lt_iff_toInt_lt, Int32.le_iff_toInt_le, ← Int32.toInt_inj, Int32.toInt_add, Int32.toInt_sub, Int32.toInt_mul, Int32.toInt_neg, pq_NuO, pq_NuI, pq_NuJ, pq_NuR, pq_shr6, pq_shr7, pq_shr8, lqm1, lq0, lq1, lq93, lq94, lq2048] at *; (try simp (disch := omega) only [pq_bm] at *); all_goals omega))⟩) dX6_readClass_130
          · skip
            refine pq_aload_n F dX6_readClass_82 rfl rfl ?_
            refine pq_callV (As := []) F (k_X6_readPart l D cy _ _ ?_ _ _ _ _ _ _ _ hB3 ?_ ?_) ml_X6_162 haL (by decide) rfl (Nat.le_of_ble_eq_true rfl) ⟨Nat.le_of_ble_eq_true rfl, Nat.le_of_ble_eq_true rfl⟩ ⟨by decide, by decide⟩ dX6_readClass_83 (fun v83 S83 w83 => ?_)
            · exact haL
            · focus ((try clear hB); (try clear hB2); (try clear hB3); (try clear hB4); (try clear p3); (try clear p8); (try clear p18); (try clear p24); (try clear p45); (try clear p50); (try clear p74); (try clear p81); (try clear hJ); (try clear hlt); (try clear p18a); simp only [vp_in_iff, Int32.lt_iff_toInt_lt, Int32.le_iff_toInt_le, ← Int32.toInt_inj, Int32.toInt_add, Int32.toInt_sub, Int32.toInt_mul, Int32.toInt_neg, pq_NuO, pq_NuI, pq_NuJ, pq_NuR, pq_shr6, pq_shr7, pq_shr8, lqm1, lq0, lq1, lq93, lq94, lq2048] at *; (try simp (disch := omega) only [pq_bm] at *); all_goals omega)
            · focus ((try clear hB); (try clear hB2); (try clear hB3); (try clear hB4); (try clear p3); (try clear p8); (try clear p18); (try clear p24); (try clear p45); (try clear p50); (try clear p74); (try clear p81); (try clear hJ); (try clear hlt); (try clear p18a); simp only [vp_in_iff, Int32.lt_iff_toInt_lt, Int32.le_iff_toInt_le, ← Int32.toInt_inj, Int32.toInt_add, Int32.toInt_sub, Int32.toInt_mul, Int32.toInt_neg, pq_NuO, pq_NuI, pq_NuJ, pq_NuR, pq_shr6, pq_shr7, pq_shr8, lqm1, lq0, lq1, lq93, lq94, lq2048] at *; (try simp (disch := omega) only [pq_bm] at *); all_goals omega)
            obtain ⟨rfl, hF83, p83⟩ := w83
            have haL_83 := (hF83.1 _ _ haL (by decide)).1
            have hz_83 := (hF83.1 _ _ hB3.h0 (by decide)).1
            have ec83_0_haL_83 := hF83.O haL (by decide) (by decide) hB3.e0
            obtain ⟨at4, br4, hB4, hr⟩ := p83
            refine pq_iinc (v := 1) F dX6_readClass_86 rfl (by decide) (by decide) ?_
            refine pq_goto (tgt := 52) F dX6_readClass_89 (by decide) ?_
            exact pq_fgm [true, true, true] (ih _ _ _ _ _ (hF.cm hF83 (by decide)) hB4 (by focus ((try clear hB); (try clear hB2); (try clear hB3); (try clear hB4); (try clear p3); (try clear p8); (try clear p18); (try clear p24); (try clear p45); (try clear p50); (try clear p74); (try clear p81); (try clear hJ); (try clear hlt); (try clear p18a); simp only [vp_in_iff, Int32.lt_iff_toInt_lt, Int32.le_iff_toInt_le, ← Int32.toInt_inj, Int32.toInt_add, Int32.toInt_sub, Int32.toInt_mul, Int32.toInt_neg, pq_NuO, pq_NuI, pq_NuJ, pq_NuR, pq_shr6, pq_shr7, pq_shr8, lqm1, lq0, lq1, lq93, lq94, lq2048] at *; (try simp (disch := omega) only [pq_bm] at *); all_goals omega)) (by focus ((try clear hB); (try clear hB2); (try clear hB3); (try clear hB4); (try clear p3); (try clear p8); (try clear p18); (try clear p24); (try clear p45); (try clear p50); (try clear p74); (try clear p81); (try clear hJ); (try clear hlt); (try clear p18a); simp only [vp_in_iff, Int32.lt_iff_toInt_lt, Int32.le_iff_toInt_le, ← Int32.toInt_inj, Int32.toInt_add, Int32.toInt_sub, Int32.toInt_mul, Int32.toInt_neg, pq_NuO, pq_NuI, pq_NuJ, pq_NuR, pq_shr6, pq_shr7, pq_shr8, lqm1, lq0, lq1, lq93, lq94, lq2048] at *; (try simp (disch := omega) only [pq_bm] at *); all_goals omega)) (by focus ((try clear hB); (try clear hB2); (try clear hB3); (try clear hB4); (try clear p3); (try clear p8); (try clear p18); (try clear p24); (try clear p45); (try clear p50); (try clear p74); (try clear p81); (try clear hJ); (try clear hlt); (try clear p18a); simp only [vp_in_iff, Int32.lt_iff_toInt_lt, Int32.le_iff_toInt_le, ← Int32.toInt_inj, Int32.toInt_add, Int32.toInt_sub, Int32.toInt_mul, Int32.toInt_neg, pq_NuO, pq_NuI, pq_NuJ, pq_NuR, pq_shr6, pq_shr7, pq_shr8, lqm1, lq0, lq1, lq93, lq94, lq2048] at *; (try simp (disch := omega) only [pq_bm] at *); all_goals omega)) (by focus ((try clear hB); (try clear hB2); (try clear hB3); (try clear hB4); (try clear p3); (try clear p8); (try clear p18); (try clear p24); (try clear p45); (try clear p50); (try clear p74); (try clear p81); (try clear hJ); (try clear hlt); (try clear p18a); simp only [vp_in_iff, Int32.lt_iff_toInt_lt, Int32.le_iff_toInt_le, ← Int32.toInt_inj, Int32.toInt_add, Int32.toInt_sub, Int32.toInt_mul, Int32.toInt_neg, pq_NuO, pq_NuI, pq_NuJ, pq_NuR, pq_shr6, pq_shr7, pq_shr8, lqm1, lq0, lq1, lq93, lq94, lq2048] at *; (try simp (disch := omega) only [pq_bm] at *); all_goals omega)) (by focus ((try clear hB); (try clear hB2); (try clear hB3); (try clear hB4); (try clear p3); (try clear p8); (try clear p18); (try clear p24); (try clear p45); (try clear p50); (try clear p74); (try clear p81); (try clear hJ); (try clear hlt); (try clear p18a); simp only [vp_in_iff, Int32.lt_iff_toInt_lt, Int32.le_iff_toInt_le, ← Int32.toInt_inj, Int32.toInt_add, Int32.toInt_sub, Int32.toInt_mul, Int32.toInt_neg, pq_NuO, pq_NuI, pq_NuJ, pq_NuR, pq_shr6, pq_shr7, pq_shr8, lqm1, lq0, lq1, lq93, lq94, lq2048] at *; (try simp (disch := omega) only [pq_bm] at *); all_goals omega)))
  refine pq_aload_n F dX6_readClass_0 rfl rfl ?_
  refine pq_dup F dX6_readClass_1 rfl ?_
  refine pq_get F ha (by decide) lk_X6_38 hB.e5 dX6_readClass_2 ?_
  refine pq_iconst (v := 1) F dX6_readClass_5 (by decide) ?_
  refine pq_iadd F dX6_readClass_6 ?_
  refine pq_putI F ha (by decide) lp_X6_38 rfl (pq_any1 _) (pq_any2 _) dX6_readClass_7 ?_
  refine pq_aload_n F dX6_readClass_10 rfl rfl ?_
  refine pq_get F ha (by decide) lk_X6_25 (pq_kp hB.e0 (by decide)) dX6_readClass_11 ?_
  refine pq_aload_n F dX6_readClass_14 rfl rfl ?_
  refine pq_get F ha (by decide) lk_X6_38 pq_ks dX6_readClass_15 ?_
  refine pq_callV (As := [_]) F (k_X9_byteAt l D cy _ _ ?_ _) ml_X6_79 hB.h0 (by decide) rfl (Nat.le_of_ble_eq_true rfl) ⟨Nat.le_of_ble_eq_true rfl, Nat.le_of_ble_eq_true rfl⟩ ⟨by decide, by decide⟩ dX6_readClass_18 (fun v18 S18 w18 => ?_)
  · exact hB.h0
  obtain ⟨u18, y18, rfl, yl18_0, yl18_1, p18⟩ := w18
  rw [u18]
  try rw [u18] at p18
  have p18a := p18.1 t (pq_ko hB.et hB.h0 ha (by decide))
  have hlt : y18 = 94 → (at1 + 1).toInt < t.toInt := fun z => Int.not_le.mp (fun w => absurd (p18a w) (by rw [z]; decide))
  refine pq_bipush (v := 94) F dX6_readClass_21 (by decide) ?_
  refine pq_icmp_ne (tgt := 30) F dX6_readClass_23 (by decide) (fun c23 => ?_) (fun c23 => ?_)
  · skip
    refine pq_iconst (v := 0) F dX6_readClass_30 (by decide) ?_
    refine pq_istore_n F dX6_readClass_31 rfl (by decide) ?_
    refine pq_iload_n F dX6_readClass_32 rfl rfl ?_
    refine pq_if_eq (tgt := 46) F dX6_readClass_33 (by decide) (fun c33 => ?_) (fun c33 => ?_)
    · skip
      refine pq_aload_n F dX6_readClass_46 rfl rfl ?_
      refine pq_callV (As := []) F (k_X6_readPart l D cy _ _ ?_ _ _ _ _ _ _ _ (hB.p5 (by focus ((try clear hB); (try clear hB2); (try clear hB3); (try clear hB4); (try clear p3); (try clear p8); (try clear p18); (try clear p24); (try clear p45); (try clear p50); (try clear p74); (try clear p81); (try clear hJ); (try clear hlt); (try clear p18a); simp only [vp_in_iff, Int32.lt_iff_toInt_lt, Int32.le_iff_toInt_le, ← Int32.toInt_inj, Int32.toInt_add, Int32.toInt_sub, Int32.toInt_mul, Int32.toInt_neg, pq_NuO, pq_NuI, pq_NuJ, pq_NuR, pq_shr6, pq_shr7, pq_shr8, lqm1, lq0, lq1, lq93, lq94, lq2048] at *; (try simp (disch := omega) only [pq_bm] at *); all_goals omega)) (by focus ((try clear hB); (try clear hB2); (try clear hB3); (try clear hB4); (try clear p3); (try clear p8); (try clear p18); (try clear p24); (try clear p45); (try clear p50); (try clear p74); (try clear p81); (try clear hJ); (try clear hlt); (try clear p18a); simp only [vp_in_iff, Int32.lt_iff_toInt_lt, Int32.le_iff_toInt_le, ← Int32.toInt_inj, Int32.toInt_add, Int32.toInt_sub, Int32.toInt_mul, Int32.toInt_neg, pq_NuO, pq_NuI, pq_NuJ, pq_NuR, pq_shr6, pq_shr7, pq_shr8, lqm1, lq0, lq1, lq93, lq94, lq2048] at *; (try simp (disch := omega) only [pq_bm] at *); all_goals omega))) ?_ ?_) ml_X6_162 ha (by decide) rfl (Nat.le_of_ble_eq_true rfl) ⟨Nat.le_of_ble_eq_true rfl, Nat.le_of_ble_eq_true rfl⟩ ⟨by decide, by decide⟩ dX6_readClass_47 (fun v47 S47 w47 => ?_)
      · exact ha
      · focus ((try clear hB); (try clear hB2); (try clear hB3); (try clear hB4); (try clear p3); (try clear p8); (try clear p18); (try clear p24); (try clear p45); (try clear p50); (try clear p74); (try clear p81); (try clear hJ); (try clear hlt); (try clear p18a); simp only [vp_in_iff, Int32.lt_iff_toInt_lt, Int32.le_iff_toInt_le, ← Int32.toInt_inj, Int32.toInt_add, Int32.toInt_sub, Int32.toInt_mul, Int32.toInt_neg, pq_NuO, pq_NuI, pq_NuJ, pq_NuR, pq_shr6, pq_shr7, pq_shr8, lqm1, lq0, lq1, lq93, lq94, lq2048] at *; (try simp (disch := omega) only [pq_bm] at *); all_goals omega)
      · focus ((try clear hB); (try clear hB2); (try clear hB3); (try clear hB4); (try clear p3); (try clear p8); (try clear p18); (try clear p24); (try clear p45); (try clear p50); (try clear p74); (try clear p81); (try clear hJ); (try clear hlt); (try clear p18a); simp only [vp_in_iff, Int32.lt_iff_toInt_lt, Int32.le_iff_toInt_le, ← Int32.toInt_inj, Int32.toInt_add, Int32.toInt_sub, Int32.toInt_mul, Int32.toInt_neg, pq_NuO, pq_NuI, pq_NuJ, pq_NuR, pq_shr6, pq_shr7, pq_shr8, lqm1, lq0, lq1, lq93, lq94, lq2048] at *; (try simp (disch := omega) only [pq_bm] at *); all_goals omega)
      obtain ⟨rfl, hF47, p47⟩ := w47
      have ha_47 := (hF47.1 _ _ ha (by decide)).1
      have hz_47 := (hF47.1 _ _ hB.h2 (by decide)).1
      have ec47_2_ha_47 := hF47.O ha (by decide) (by decide) (pq_kp hB.e2 (by decide))
      have hz_47z := (hF47.1 _ _ hB.h3 (by decide)).1
      have ec47_3_ha_47 := hF47.O ha (by decide) (by decide) (pq_kp hB.e3 (by decide))
      have hz_47zz := (hF47.1 _ _ hB.h0 (by decide)).1
      have ec47_0_ha_47 := hF47.O ha (by decide) (by decide) (pq_kp hB.e0 (by decide))
      have ec47_6_ha_47 := hF47.O ha (by decide) (by decide) (pq_kp hB.e6 (by decide))
      obtain ⟨at3, br3, hB3, hr⟩ := p47
      refine pq_iconst (v := 0) F dX6_readClass_50 (by decide) ?_
      refine pq_istore_n F dX6_readClass_51 rfl (by decide) ?_
      exact pq_fgm [true, true, true] (L52  100000 _ _ _ _ _ ((pq_Fr.rf.uO ha (by decide)).cm hF47 (by decide)) hB3 (by focus ((try clear hB); (try clear hB2); (try clear hB3); (try clear hB4); (try clear p3); (try clear p8); (try clear p18); (try clear p24); (try clear p45); (try clear p50); (try clear p74); (try clear p81); (try clear hJ); (try clear hlt); (try clear p18a); simp only [vp_in_iff, Int32.lt_iff_toInt_lt, Int32.le_iff_toInt_le, ← Int32.toInt_inj, Int32.toInt_add, Int32.toInt_sub, Int32.toInt_mul, Int32.toInt_neg, pq_NuO, pq_NuI, pq_NuJ, pq_NuR, pq_shr6, pq_shr7, pq_shr8, lqm1, lq0, lq1, lq93, lq94, lq2048] at *; (try simp (disch := omega) only [pq_bm] at *); all_goals omega)) (by focus ((try clear hB); (try clear hB2); (try clear hB3); (try clear hB4); (try clear p3); (try clear p8); (try clear p18); (try clear p24); (try clear p45); (try clear p50); (try clear p74); (try clear p81); (try clear hJ); (try clear hlt); (try clear p18a); simp only [vp_in_iff, Int32.lt_iff_toInt_lt, Int32.le_iff_toInt_le, ← Int32.toInt_inj, Int32.toInt_add, Int32.toInt_sub, Int32.toInt_mul, Int32.toInt_neg, pq_NuO, pq_NuI, pq_NuJ, pq_NuR, pq_shr6, pq_shr7, pq_shr8, lqm1, lq0, lq1, lq93, lq94, lq2048] at *; (try simp (disch := omega) only [pq_bm] at *); all_goals omega)) (by focus ((try clear hB); (try clear hB2); (try clear hB3); (try clear hB4); (try clear p3); (try clear p8); (try clear p18); (try clear p24); (try clear p45); (try clear p50); (try clear p74); (try clear p81); (try clear hJ); (try clear hlt); (try clear p18a); simp only [vp_in_iff, Int32.lt_iff_toInt_lt, Int32.le_iff_toInt_le, ← Int32.toInt_inj, Int32.toInt_add, Int32.toInt_sub, Int32.toInt_mul, Int32.toInt_neg, pq_NuO, pq_NuI, pq_NuJ, pq_NuR, pq_shr6, pq_shr7, pq_shr8, lqm1, lq0, lq1, lq93, lq94, lq2048] at *; (try simp (disch := omega) only [pq_bm] at *); all_goals omega)) (by focus ((try clear hB); (try clear hB2); (try clear hB3); (try clear hB4); (try clear p3); (try clear p8); (try clear p18); (try clear p24); (try clear p45); (try clear p50); (try clear p74); (try clear p81); (try clear hJ); (try clear hlt); (try clear p18a); simp only [vp_in_iff, Int32.lt_iff_toInt_lt, Int32.le_iff_toInt_le, ← Int32.toInt_inj, Int32.toInt_add, Int32.toInt_sub, Int32.toInt_mul, Int32.toInt_neg, pq_NuO, pq_NuI, pq_NuJ, pq_NuR, pq_shr6, pq_shr7, pq_shr8, lqm1, lq0, lq1, lq93, lq94, lq2048] at *; (try simp (disch := omega) only [pq_bm] at *); all_goals omega)) (by focus ((try clear hB); (try clear hB2); (try clear hB3); (try clear hB4); (try clear p3); (try clear p8); (try clear p18); (try clear p24); (try clear p45); (try clear p50); (try clear p74); (try clear p81); (try clear hJ); (try clear hlt); (try clear p18a); simp only [vp_in_iff, Int32.lt_iff_toInt_lt, Int32.le_iff_toInt_le, ← Int32.toInt_inj, Int32.toInt_add, Int32.toInt_sub, Int32.toInt_mul, Int32.toInt_neg, pq_NuO, pq_NuI, pq_NuJ, pq_NuR, pq_shr6, pq_shr7, pq_shr8, lqm1, lq0, lq1, lq93, lq94, lq2048] at *; (try simp (disch := omega) only [pq_bm] at *); all_goals omega)))
    · exact absurd rfl c33
  · skip
    have hlt2 := hlt c23
    refine pq_iconst (v := 1) F dX6_readClass_26 (by decide) ?_
    refine pq_goto (tgt := 31) F dX6_readClass_27 (by decide) ?_
    refine pq_istore_n F dX6_readClass_31 rfl (by decide) ?_
    refine pq_iload_n F dX6_readClass_32 rfl rfl ?_
    refine pq_if_eq (tgt := 46) F dX6_readClass_33 (by decide) (fun c33 => ?_) (fun c33 => ?_)
    · exact absurd c33 (by decide)
    · skip
      refine pq_aload_n F dX6_readClass_36 rfl rfl ?_
      refine pq_dup F dX6_readClass_37 rfl ?_
      refine pq_get F ha (by decide) lk_X6_38 pq_ks dX6_readClass_38 ?_
      refine pq_iconst (v := 1) F dX6_readClass_41 (by decide) ?_
      refine pq_iadd F dX6_readClass_42 ?_
      refine pq_putI F ha (by decide) lp_X6_38 rfl (pq_any1 _) (pq_any2 _) dX6_readClass_43 ?_
      refine pq_aload_n F dX6_readClass_46 rfl rfl ?_
      refine pq_callV (As := []) F (k_X6_readPart l D cy _ _ ?_ _ _ _ _ _ _ _ ((hB.p5 (by focus ((try clear hB); (try clear hB2); (try clear hB3); (try clear hB4); (try clear p3); (try clear p8); (try clear p18); (try clear p24); (try clear p45); (try clear p50); (try clear p74); (try clear p81); (try clear hJ); (try clear hlt); (try clear p18a); simp only [vp_in_iff, Int32.lt_iff_toInt_lt, Int32.le_iff_toInt_le, ← Int32.toInt_inj, Int32.toInt_add, Int32.toInt_sub, Int32.toInt_mul, Int32.toInt_neg, pq_NuO, pq_NuI, pq_NuJ, pq_NuR, pq_shr6, pq_shr7, pq_shr8, lqm1, lq0, lq1, lq93, lq94, lq2048] at *; (try simp (disch := omega) only [pq_bm] at *); all_goals omega)) (by focus ((try clear hB); (try clear hB2); (try clear hB3); (try clear hB4); (try clear p3); (try clear p8); (try clear p18); (try clear p24); (try clear p45); (try clear p50); (try clear p74); (try clear p81); (try clear hJ); (try clear hlt); (try clear p18a); simp only [vp_in_iff, Int32.lt_iff_toInt_lt, Int32.le_iff_toInt_le, ← Int32.toInt_inj, Int32.toInt_add, Int32.toInt_sub, Int32.toInt_mul, Int32.toInt_neg, pq_NuO, pq_NuI, pq_NuJ, pq_NuR, pq_shr6, pq_shr7, pq_shr8, lqm1, lq0, lq1, lq93, lq94, lq2048] at *; (try simp (disch := omega) only [pq_bm] at *); all_goals omega))).p5 (by focus ((try clear hB); (try clear hB2); (try clear hB3); (try clear hB4); (try clear p3); (try clear p8); (try clear p18); (try clear p24); (try clear p45); (try clear p50); (try clear p74); (try clear p81); (try clear hJ); (try clear hlt); (try clear p18a); simp only [vp_in_iff, Int32.lt_iff_toInt_lt, Int32.le_iff_toInt_le, ← Int32.toInt_inj, Int32.toInt_add, Int32.toInt_sub, Int32.toInt_mul, Int32.toInt_neg, pq_NuO, pq_NuI, pq_NuJ, pq_NuR, pq_shr6, pq_shr7, pq_shr8, lqm1, lq0, lq1, lq93, lq94, lq2048] at *; (try simp (disch := omega) only [pq_bm] at *); all_goals omega)) (by focus ((try clear hB); (try clear hB2); (try clear hB3); (try clear hB4); (try clear p3); (try clear p8); (try clear p18); (try clear p24); (try clear p45); (try clear p50); (try clear p74); (try clear p81); (try clear hJ); (try clear hlt); (try clear p18a); simp only [vp_in_iff, Int32.lt_iff_toInt_lt, Int32.le_iff_toInt_le, ← Int32.toInt_inj, Int32.toInt_add, Int32.toInt_sub, Int32.toInt_mul, Int32.toInt_neg, pq_NuO, pq_NuI, pq_NuJ, pq_NuR, pq_shr6, pq_shr7, pq_shr8, lqm1, lq0, lq1, lq93, lq94, lq2048] at *; (try simp (disch := omega) only [pq_bm] at *); all_goals omega))) ?_ ?_) ml_X6_162 ha (by decide) rfl (Nat.le_of_ble_eq_true rfl) ⟨Nat.le_of_ble_eq_true rfl, Nat.le_of_ble_eq_true rfl⟩ ⟨by decide, by decide⟩ dX6_readClass_47 (fun v47 S47 w47 => ?_)
      · exact ha
      · focus ((try clear hB); (try clear hB2); (try clear hB3); (try clear hB4); (try clear p3); (try clear p8); (try clear p18); (try clear p24); (try clear p45); (try clear p50); (try clear p74); (try clear p81); (try clear hJ); (try clear hlt); (try clear p18a); simp only [vp_in_iff, Int32.lt_iff_toInt_lt, Int32.le_iff_toInt_le, ← Int32.toInt_inj, Int32.toInt_add, Int32.toInt_sub, Int32.toInt_mul, Int32.toInt_neg, pq_NuO, pq_NuI, pq_NuJ, pq_NuR, pq_shr6, pq_shr7, pq_shr8, lqm1, lq0, lq1, lq93, lq94, lq2048] at *; (try simp (disch := omega) only [pq_bm] at *); all_goals omega)
      · focus ((try clear hB); (try clear hB2); (try clear hB3); (try clear hB4); (try clear p3); (try clear p8); (try clear p18); (try clear p24); (try clear p45); (try clear p50); (try clear p74); (try clear p81); (try clear hJ); (try clear hlt); (try clear p18a); simp only [vp_in_iff, Int32.lt_iff_toInt_lt, Int32.le_iff_toInt_le, ← Int32.toInt_inj, Int32.toInt_add, Int32.toInt_sub, Int32.toInt_mul, Int32.toInt_neg, pq_NuO, pq_NuI, pq_NuJ, pq_NuR, pq_shr6, pq_shr7, pq_shr8, lqm1, lq0, lq1, lq93, lq94, lq2048] at *; (try simp (disch := omega) only [pq_bm] at *); all_goals omega)
      obtain ⟨rfl, hF47, p47⟩ := w47
      have ha_47 := (hF47.1 _ _ ha (by decide)).1
      have hz_47 := (hF47.1 _ _ hB.h2 (by decide)).1
      have ec47_2_ha_47 := hF47.O ha (by decide) (by decide) (pq_kp (pq_kp hB.e2 (by decide)) (by decide))
      have hz_47z := (hF47.1 _ _ hB.h3 (by decide)).1
      have ec47_3_ha_47 := hF47.O ha (by decide) (by decide) (pq_kp (pq_kp hB.e3 (by decide)) (by decide))
      have hz_47zz := (hF47.1 _ _ hB.h0 (by decide)).1
      have ec47_0_ha_47 := hF47.O ha (by decide) (by decide) (pq_kp (pq_kp hB.e0 (by decide)) (by decide))
      have ec47_6_ha_47 := hF47.O ha (by decide) (by decide) (pq_kp (pq_kp hB.e6 (by decide)) (by decide))
      obtain ⟨at3, br3, hB3, hr⟩ := p47
      refine pq_iconst (v := 0) F dX6_readClass_50 (by decide) ?_
      refine pq_istore_n F dX6_readClass_51 rfl (by decide) ?_
      exact pq_fgm [true, true, true] (L52  100000 _ _ _ _ _ (((pq_Fr.rf.uO ha (by decide)).uO ha (by decide)).cm hF47 (by decide)) hB3 (by focus ((try clear hB); (try clear hB2); (try clear hB3); (try clear hB4); (try clear p3); (try clear p8); (try clear p18); (try clear p24); (try clear p45); (try clear p50); (try clear p74); (try clear p81); (try clear hJ); (try clear hlt); (try clear p18a); simp only [vp_in_iff, Int32.lt_iff_toInt_lt, Int32.le_iff_toInt_le, ← Int32.toInt_inj, Int32.toInt_add, Int32.toInt_sub, Int32.toInt_mul, Int32.toInt_neg, pq_NuO, pq_NuI, pq_NuJ, pq_NuR, pq_shr6, pq_shr7, pq_shr8, lqm1, lq0, lq1, lq93, lq94, lq2048] at *; (try simp (disch := omega) only [pq_bm] at *); all_goals omega)) (by focus ((try clear hB); (try clear hB2); (try clear hB3); (try clear hB4); (try clear p3); (try clear p8); (try clear p18); (try clear p24); (try clear p45); (try clear p50); (try clear p74); (try clear p81); (try clear hJ); (try clear hlt); (try clear p18a); simp only [vp_in_iff, Int32.lt_iff_toInt_lt, Int32.le_iff_toInt_le, ← Int32.toInt_inj, Int32.toInt_add, Int32.toInt_sub, Int32.toInt_mul, Int32.toInt_neg, pq_NuO, pq_NuI, pq_NuJ, pq_NuR, pq_shr6, pq_shr7, pq_shr8, lqm1, lq0, lq1, lq93, lq94, lq2048] at *; (try simp (disch := omega) only [pq_bm] at *); all_goals omega)) (by focus ((try clear hB); (try clear hB2); (try clear hB3); (try clear hB4); (try clear p3); (try clear p8); (try clear p18); (try clear p24); (try clear p45); (try clear p50); (try clear p74); (try clear p81); (try clear hJ); (try clear hlt); (try clear p18a); simp only [vp_in_iff, Int32.lt_iff_toInt_lt, Int32.le_iff_toInt_le, ← Int32.toInt_inj, Int32.toInt_add, Int32.toInt_sub, Int32.toInt_mul, Int32.toInt_neg, pq_NuO, pq_NuI, pq_NuJ, pq_NuR, pq_shr6, pq_shr7, pq_shr8, lqm1, lq0, lq1, lq93, lq94, lq2048] at *; (try simp (disch := omega) only [pq_bm] at *); all_goals omega)) (by focus ((try clear hB); (try clear hB2); (try clear hB3); (try clear hB4); (try clear p3); (try clear p8); (try clear p18); (try clear p24); (try clear p45); (try clear p50); (try clear p74); (try clear p81); (try clear hJ); (try clear hlt); (try clear p18a); simp only [vp_in_iff, Int32.lt_iff_toInt_lt, Int32.le_iff_toInt_le, ← Int32.toInt_inj, Int32.toInt_add, Int32.toInt_sub, Int32.toInt_mul, Int32.toInt_neg, pq_NuO, pq_NuI, pq_NuJ, pq_NuR, pq_shr6, pq_shr7, pq_shr8, lqm1, lq0, lq1, lq93, lq94, lq2048] at *; (try simp (disch := omega) only [pq_bm] at *); all_goals omega)) (by focus ((try clear hB); (try clear hB2); (try clear hB3); (try clear hB4); (try clear p3); (try clear p8); (try clear p18); (try clear p24); (try clear p45); (try clear p50); (try clear p74); (try clear p81); (try clear hJ); (try clear hlt); (try clear p18a); simp only [vp_in_iff, Int32.lt_iff_toInt_lt, Int32.le_iff_toInt_le, ← Int32.toInt_inj, Int32.toInt_add, Int32.toInt_sub, Int32.toInt_mul, Int32.toInt_neg, pq_NuO, pq_NuI, pq_NuJ, pq_NuR, pq_shr6, pq_shr7, pq_shr8, lqm1, lq0, lq1, lq93, lq94, lq2048] at *; (try simp (disch := omega) only [pq_bm] at *); all_goals omega)))

