/-- the reading at k: what the levels and places hold, and what the whole comes to -/
def tk_Gi (T : Nat → Int32) (n : Nat) (R : tr_Res) (S : HS) (ch sq am wh pl tk fo k f dn np : Nat) (mk : Nat → tr_M) (F : Nat → Nat → Prop) (ce se EE : Nat → tq_E) (hh tt : Nat → Nat) : Prop := (k ≤ n ∧ n + 1 ≤ k + f) ∧ R = tr_run T n f k dn np mk false ce se tq_e1 F ∧ tk_Co S ch sq am wh hh tt EE ∧ (∀ d, d ≤ dn → EE (2 * d + 1) = ce d ∧ EE (2 * d + 2) = se d) ∧ tk_Pl S pl tk fo np mk F ∧ ∀ d, d ≤ dn → tk_bn np (ce d) ∧ tk_bn np (se d)
theorem tr_upi {α : Type} {f : Nat → α} {k : Nat} : tr_up f k (f k) = f := funext fun j => by
  by_cases h : j = k
  · rw [h, tr_ups]
  · rw [tr_upn h]
theorem tk_Gi.bar {T : Nat → Int32} {n : Nat} {R : tr_Res} {S S2 : HS} {ch sq am wh pl tk fo k f dn np : Nat} {mk : Nat → tr_M} {F : Nat → Nat → Prop} {ce se EE EE2 : Nat → tq_E} {hh tt hh2 tt2 : Nat → Nat} (h : tk_Gi T n R S ch sq am wh pl tk fo k f dn np mk F ce se EE hh tt) (hk : k < n) (hc : T k = 124) (hC : tk_Co S2 ch sq am wh hh2 tt2 EE2) (h1 : EE2 (2 * dn + 1) = tq_or (EE (2 * dn + 1)) (EE (2 * dn + 2))) (h2 : EE2 (2 * dn + 2) = tq_e1) (h3 : ∀ j, j ≠ 2 * dn + 1 → j ≠ 2 * dn + 2 → EE2 j = EE j) (hP : tk_Pl S2 pl tk fo np mk F) : tk_Gi T n R S2 ch sq am wh pl tk fo (k + 1) (f - 1) dn np mk F (tr_up ce dn (tq_or (ce dn) (se dn))) (tr_up se dn tq_e1) EE2 hh2 tt2 := by
  obtain ⟨⟨a1, a2⟩, a3, _, a5, _, a7⟩ := h
  obtain ⟨f, rfl⟩ : ∃ g, f = g + 1 := ⟨f - 1, by omega⟩
  refine ⟨⟨by omega, by omega⟩, ?_, hC, fun d hd => ?_, hP, fun d hd => ?_⟩
  · rw [a3, tr_run.bar hk hc, tq_ap1, tq_li1]; rfl
  · by_cases e : d = dn
    · rw [e, tr_ups, tr_ups, h1, h2, (a5 dn (Nat.le_refl _)).1, (a5 dn (Nat.le_refl _)).2]; exact ⟨rfl, rfl⟩
    · rw [tr_upn e, tr_upn e, h3 _ (by omega) (by omega), h3 _ (by omega) (by omega)]; exact a5 d hd
  · by_cases e : d = dn
    · rw [e, tr_ups, tr_ups]; exact ⟨(a7 dn (Nat.le_refl _)).1.or (a7 dn (Nat.le_refl _)).2, tk_bn.e1⟩
    · rw [tr_upn e, tr_upn e]; exact a7 d hd
theorem tk_Gi.lp {T : Nat → Int32} {n : Nat} {R : tr_Res} {S S2 : HS} {ch sq am wh pl tk fo k f dn np : Nat} {mk : Nat → tr_M} {F : Nat → Nat → Prop} {ce se EE EE2 : Nat → tq_E} {hh tt hh2 tt2 : Nat → Nat} (h : tk_Gi T n R S ch sq am wh pl tk fo k f dn np mk F ce se EE hh tt) (hk : k < n) (hc : T k = 40) (hd4 : dn ≠ 40) (hC : tk_Co S2 ch sq am wh hh2 tt2 EE2) (h1 : EE2 (2 * (dn + 1) + 1) = tq_e0) (h2 : EE2 (2 * (dn + 1) + 2) = tq_e1) (h3 : ∀ j, j ≠ 2 * (dn + 1) + 1 → j ≠ 2 * (dn + 1) + 2 → EE2 j = EE j) (hP : tk_Pl S2 pl tk fo np mk F) : tk_Gi T n R S2 ch sq am wh pl tk fo (k + 1) (f - 1) (dn + 1) np mk F (tr_up ce (dn + 1) tq_e0) (tr_up se (dn + 1) tq_e1) EE2 hh2 tt2 := by
  obtain ⟨⟨a1, a2⟩, a3, _, a5, _, a7⟩ := h
  obtain ⟨f, rfl⟩ : ∃ g, f = g + 1 := ⟨f - 1, by omega⟩
  refine ⟨⟨by omega, by omega⟩, ?_, hC, fun d hd => ?_, hP, fun d hd => ?_⟩
  · rw [a3, tr_run.lp hk hc hd4, tq_ap1, tq_li1, tr_upi]; rfl
  · by_cases e : d = dn + 1
    · rw [e, tr_ups, tr_ups, h1, h2]; exact ⟨rfl, rfl⟩
    · rw [tr_upn e, tr_upn e, h3 _ (by omega) (by omega), h3 _ (by omega) (by omega)]; exact a5 d (by omega)
  · by_cases e : d = dn + 1
    · rw [e, tr_ups, tr_ups]; exact ⟨tk_bn.e0, tk_bn.e1⟩
    · rw [tr_upn e, tr_upn e]; exact a7 d (by omega)
/-- behind an atom with its signs -/
theorem tk_Gi.jo {T : Nat → Int32} {n : Nat} {R : tr_Res} {S2 : HS} {ch sq am wh pl tk fo k3 f3 dn np : Nat} {mk : Nat → tr_M} {F3 : Nat → Nat → Prop} {ce se EE EE2 : Nat → tq_E} {A3 : tq_E} {hh tt : Nat → Nat} (hR : R = tr_run T n f3 k3 dn np mk true ce se A3 F3) (hk : k3 ≤ n) (hf : n + 1 ≤ k3 + f3) (hend : n ≤ k3 ∨ ¬ (T k3 = 42 ∨ T k3 = 43 ∨ T k3 = 63)) (hC : tk_Co S2 ch sq am wh hh tt EE2) (h2 : EE2 (2 * dn + 2) = tq_ap (EE (2 * dn + 2)) A3) (h3 : ∀ j, j ≠ 0 → j ≠ 2 * dn + 2 → EE2 j = EE j) (hP : tk_Pl S2 pl tk fo np mk (tq_li F3 (EE (2 * dn + 2)) A3)) (hA : tk_bn np A3) (a5 : ∀ d, d ≤ dn → EE (2 * d + 1) = ce d ∧ EE (2 * d + 2) = se d) (a7 : ∀ d, d ≤ dn → tk_bn np (ce d) ∧ tk_bn np (se d)) : tk_Gi T n R S2 ch sq am wh pl tk fo k3 f3 dn np mk (tq_li F3 (se dn) A3) ce (tr_up se dn (tq_ap (se dn) A3)) EE2 hh tt := by
  obtain ⟨f, rfl⟩ : ∃ g, f3 = g + 1 := ⟨f3 - 1, by omega⟩
  have e5 := (a5 dn (Nat.le_refl _)).2
  rw [e5] at h2 hP
  refine ⟨⟨hk, hf⟩, ?_, hC, fun d hd => ?_, hP, fun d hd => ?_⟩
  · rw [hR, tr_run.fold hend]
  · by_cases e : d = dn
    · rw [e, tr_ups, h2, h3 _ (by omega) (by omega)]; exact ⟨(a5 dn (Nat.le_refl _)).1, rfl⟩
    · rw [tr_upn e, h3 _ (by omega) (by omega), h3 _ (by omega) (by omega)]; exact a5 d hd
  · by_cases e : d = dn
    · rw [e, tr_ups]; exact ⟨(a7 dn (Nat.le_refl _)).1, (a7 dn (Nat.le_refl _)).2.ap hA⟩
    · rw [tr_upn e]; exact a7 d hd

set_option maxHeartbeats 4000000 in
set_option maxRecDepth 100000 in
theorem k_X6_addPlaceG (l : Launch) (D : va_G) (cy : Nat → ClassId) (S : HS) (a : Nat) (ha : pq_R S a 9) (ch sq tp : Nat) (dp at1 br t : Int32) (hB : pq_Rd S a ch sq tp dp at1 br t dp.toInt) (tb n : Nat) (g0 : hO S tp 0 = .ref tb) (hgb : pq_R S tb 104) (hn : t.toInt = (n : Int)) (k f0 : Nat) (hrun : br.toInt < 0 → at1.toInt = (k : Int) ∧ k ≤ n ∧ n + 1 ≤ k + f0) (am wh dn : Nat) (hdn : dp.toInt = (dn : Int)) (hh tt : Nat → Nat) (EE : Nat → tq_E) (hC : tk_Co S ch sq am wh hh tt EE) (e4 : hO S a 4 = .ref am) (pl tk fo np : Nat) (mk : Nat → tr_M) (F0 : Nat → Nat → Prop) (e1 : hO S a 1 = .ref pl) (hP : tk_Pl S pl tk fo np mk F0) (hnp : np < 400) (hbS : tk_bn np (EE (2 * dn + 2))) (ce se : Nat → tq_E) (lo8 hi8 : Int64) (f8 : hO S a 8 = .long lo8) (f9 : hO S a 9 = .long hi8) : pq_C l D cy yX6_addPlace cX6_addPlace 1 (none) 4 0 0 S [.ref a] (fun v S2 => v = none ∧ pq_Fr [(9, 5), (5, 2), (190, 0), (191, 0), (195, 0), (194, 0), (8, 3)] S S2 ∧ ((0 ≤ br.toInt ∧ pq_Rd S2 a ch sq tp dp at1 br t dp.toInt ∧ tk_Co S2 ch sq am wh hh tt EE) ∨ (br.toInt < 0 ∧ ∃ (at2 : Int32) (k3 f3 : Nat) (A3 : tq_E) (F3 : Nat → Nat → Prop) (EE2 : Nat → tq_E), pq_Rd S2 a ch sq tp dp at2 br t (dp).toInt ∧ (at2.toInt = (k3 : Int) ∧ k ≤ k3 ∧ k3 ≤ n ∧ n + 1 ≤ k3 + f3) ∧ tr_run (hI S tb) n f0 k dn (np + 1) (tr_up mk np (lo8, hi8)) true ce se (tq_ep np) F0 = tr_run (hI S tb) n f3 k3 dn (np + 1) (tr_up mk np (lo8, hi8)) true ce se A3 F3 ∧ (n ≤ k3 ∨ ¬ ((hI S tb) k3 = 42 ∨ (hI S tb) k3 = 43 ∨ (hI S tb) k3 = 63)) ∧ tk_Co S2 ch sq am wh hh tt EE2 ∧ (EE2 (2 * dn + 2) = tq_ap (EE (2 * dn + 2)) A3 ∧ ∀ j, j ≠ 0 → j ≠ 2 * dn + 2 → EE2 j = EE j) ∧ tk_Pl S2 pl tk fo (np + 1) (tr_up mk np (lo8, hi8)) (tq_li F3 (EE (2 * dn + 2)) A3) ∧ tk_bn (np + 1) A3))) := by
  refine pq_start (by decide) (Nat.le_of_ble_eq_true rfl) ?_
  intro p e s m args below meth c A F hr hlk hnm hA
  have lqm1 : (-1 : Int32).toInt = -1 := rfl
  have lq0 : (0 : Int32).toInt = 0 := rfl
  have lq1 : (1 : Int32).toInt = 1 := rfl
  obtain ⟨hd0, hd1, ha0, ha1, ht0, ht1⟩ := hB.b
  have hpl := hP.r
  have hEan : tk_nm S ch sq am wh 0 = some am := tk_nm0
  have hEa := hC.1 0 am (by decide) hEan
  have ham := hEa.r
  refine pq_aload_n F dX6_addPlace_0 rfl rfl ?_
  refine pq_get F ha (by decide) lk_X6_42 hB.e7 dX6_addPlace_1 ?_
  refine pq_if_ge (tgt := 33) F dX6_addPlace_4 (by decide) (fun c4 => ?_) (fun c4 => ?_)
  · skip
    exact pq_vret F hr hlk hA (Nat.le_refl _) (Nat.le_refl _) (⟨rfl, pq_Fr.rf, Or.inl ⟨(by focus ((try clear hB); (try clear hB3); (try clear hB5); (try clear hC); (try clear hC3); (try clear hC5); (try clear hC6); (try clear hC7); (try clear hC8); (try clear hP); (try clear hP3); (try clear hP5); (try clear hbS); (try clear hEa); (try clear hEan); (try clear hrun); (try clear p23); (try clear p26); (try clear p30); (try clear hEc); (try clear hEcn); (try clear hEq); (try clear hEqn); (try clear hEc2); (try clear hEc2n); (try clear hdist); (try clear p31); (try clear p39); (try clear p42); (try clear p54); (try clear p57); (try clear p71); (try clear hEam); (try clear hE5); simp only [vp_in_iff, Int32.lt_iff_toInt_lt, Int32.le_iff_toInt_le, ← Int32.toInt_inj, Int32.toInt_add, Int32.toInt_sub, Int32.toInt_mul, Int32.toInt_neg, pq_NuO, pq_NuI, pq_NuJ, pq_NuR, pq_shr6, pq_shr7, pq_shr8, lqm1, lq0, lq1] at *; (try simp (disch := omega) only [pq_bm] at *); all_goals omega)), hB, hC⟩⟩) dX6_addPlace_33
  · skip
    refine pq_aload_n F dX6_addPlace_7 rfl rfl ?_
    refine pq_get F ha (by decide) lk_X6_21 e4 dX6_addPlace_8 ?_
    refine pq_aload_n F dX6_addPlace_11 rfl rfl ?_
    refine pq_get F ha (by decide) lk_X6_29 e1 dX6_addPlace_12 ?_
    refine pq_aload_n F dX6_addPlace_15 rfl rfl ?_
    refine pq_get F ha (by decide) lk_X6_96 f8 dX6_addPlace_16 ?_
    refine pq_aload_n F dX6_addPlace_19 rfl rfl ?_
    refine pq_get F ha (by decide) lk_X6_100 f9 dX6_addPlace_20 ?_
    refine pq_callV (As := [_, _]) F (k_X5_addG l D cy _ _ ?_ _ _ tk fo np mk F0 hP hnp) ml_X6_132 hpl (by decide) rfl (Nat.le_of_ble_eq_true rfl) ⟨Nat.le_of_ble_eq_true rfl, Nat.le_of_ble_eq_true rfl⟩ ⟨by decide, by decide⟩ dX6_addPlace_23 (fun v23 S23 w23 => ?_)
    · exact hpl
    obtain ⟨hF23, y23, rfl, yl23_0, yl23_1, p23⟩ := w23
    have ha_23 := (hF23.1 _ _ ha (by decide)).1
    have ham_23 := (hF23.1 _ _ ham (by decide)).1
    have hz_23 := (hF23.1 _ _ hB.h2 (by decide)).1
    have ec23_2_ha_23 := hF23.O ha (by decide) (by decide) hB.e2
    have hz_23z := (hF23.1 _ _ hB.h3 (by decide)).1
    have ec23_3_ha_23 := hF23.O ha (by decide) (by decide) hB.e3
    have hz_23zz := (hF23.1 _ _ hB.h0 (by decide)).1
    have ec23_0_ha_23 := hF23.O ha (by decide) (by decide) hB.e0
    have ec23_6_ha_23 := hF23.O ha (by decide) (by decide) hB.e6
    have ec23_5_ha_23 := hF23.O ha (by decide) (by decide) hB.e5
    have ec23_7_ha_23 := hF23.O ha (by decide) (by decide) hB.e7
    have ec23_1_hz_23zz := hF23.O hB.h0 (by decide) (by decide) hB.et
    have hpl_23 := (hF23.1 _ _ hpl (by decide)).1
    have ec23_1_ha_23 := hF23.O ha (by decide) (by decide) e1
    have ec23_4_ha_23 := hF23.O ha (by decide) (by decide) e4
    have ec23_8_ha_23 := hF23.O ha (by decide) (by decide) f8
    have ec23_9_ha_23 := hF23.O ha (by decide) (by decide) f9
    have c4i : br.toInt < 0 := (by focus ((try clear hB); (try clear hB3); (try clear hB5); (try clear hC); (try clear hC3); (try clear hC5); (try clear hC6); (try clear hC7); (try clear hC8); (try clear hP); (try clear hP3); (try clear hP5); (try clear hbS); (try clear hEa); (try clear hEan); (try clear hrun); (try clear p23); (try clear p26); (try clear p30); (try clear hEc); (try clear hEcn); (try clear hEq); (try clear hEqn); (try clear hEc2); (try clear hEc2n); (try clear hdist); (try clear p31); (try clear p39); (try clear p42); (try clear p54); (try clear p57); (try clear p71); (try clear hEam); (try clear hE5); simp only [vp_in_iff, Int32.lt_iff_toInt_lt, Int32.le_iff_toInt_le, ← Int32.toInt_inj, Int32.toInt_add, Int32.toInt_sub, Int32.toInt_mul, Int32.toInt_neg, pq_NuO, pq_NuI, pq_NuJ, pq_NuR, pq_shr6, pq_shr7, pq_shr8, lqm1, lq0, lq1] at *; (try simp (disch := omega) only [pq_bm] at *); all_goals omega))
    refine pq_callV (As := [_]) F (k_X2_placeG l D cy _ _ ?_ _ ?_ ?_ (hh 0) (tt 0) (EE 0) (hEa.fr hF23 (by decide) (by decide) (by decide) (by decide) (by decide)) np p23.1) ml_X6_136 ham_23 (by decide) rfl (Nat.le_of_ble_eq_true rfl) ⟨Nat.le_of_ble_eq_true rfl, Nat.le_of_ble_eq_true rfl⟩ ⟨by decide, by decide⟩ dX6_addPlace_26 (fun v26 S26 w26 => ?_)
    · exact ham_23
    · focus ((try clear hB); (try clear hB3); (try clear hB5); (try clear hC); (try clear hC3); (try clear hC5); (try clear hC6); (try clear hC7); (try clear hC8); (try clear hP); (try clear hP3); (try clear hP5); (try clear hbS); (try clear hEa); (try clear hEan); (try clear hrun); (try clear p23); (try clear p26); (try clear p30); (try clear hEc); (try clear hEcn); (try clear hEq); (try clear hEqn); (try clear hEc2); (try clear hEc2n); (try clear hdist); (try clear p31); (try clear p39); (try clear p42); (try clear p54); (try clear p57); (try clear p71); (try clear hEam); (try clear hE5); simp only [vp_in_iff, Int32.lt_iff_toInt_lt, Int32.le_iff_toInt_le, ← Int32.toInt_inj, Int32.toInt_add, Int32.toInt_sub, Int32.toInt_mul, Int32.toInt_neg, pq_NuO, pq_NuI, pq_NuJ, pq_NuR, pq_shr6, pq_shr7, pq_shr8, lqm1, lq0, lq1] at *; (try simp (disch := omega) only [pq_bm] at *); all_goals omega)
    · focus ((try clear hB); (try clear hB3); (try clear hB5); (try clear hC); (try clear hC3); (try clear hC5); (try clear hC6); (try clear hC7); (try clear hC8); (try clear hP); (try clear hP3); (try clear hP5); (try clear hbS); (try clear hEa); (try clear hEan); (try clear hrun); (try clear p23); (try clear p26); (try clear p30); (try clear hEc); (try clear hEcn); (try clear hEq); (try clear hEqn); (try clear hEc2); (try clear hEc2n); (try clear hdist); (try clear p31); (try clear p39); (try clear p42); (try clear p54); (try clear p57); (try clear p71); (try clear hEam); (try clear hE5); simp only [vp_in_iff, Int32.lt_iff_toInt_lt, Int32.le_iff_toInt_le, ← Int32.toInt_inj, Int32.toInt_add, Int32.toInt_sub, Int32.toInt_mul, Int32.toInt_neg, pq_NuO, pq_NuI, pq_NuJ, pq_NuR, pq_shr6, pq_shr7, pq_shr8, lqm1, lq0, lq1] at *; (try simp (disch := omega) only [pq_bm] at *); all_goals omega)
    obtain ⟨rfl, hF26, p26⟩ := w26
    have ha_26 := (hF26.1 _ _ ha_23 (by decide)).1
    have hz_26 := (hF26.1 _ _ hz_23 (by decide)).1
    have ec26_2_ha_26 := hF26.O ha_23 (by decide) (by decide) ec23_2_ha_23
    have hz_23z_26 := (hF26.1 _ _ hz_23z (by decide)).1
    have ec26_3_ha_26 := hF26.O ha_23 (by decide) (by decide) ec23_3_ha_23
    have hz_23zz_26 := (hF26.1 _ _ hz_23zz (by decide)).1
    have ec26_0_ha_26 := hF26.O ha_23 (by decide) (by decide) ec23_0_ha_23
    have ec26_6_ha_26 := hF26.O ha_23 (by decide) (by decide) ec23_6_ha_23
    have ec26_5_ha_26 := hF26.O ha_23 (by decide) (by decide) ec23_5_ha_23
    have ec26_7_ha_26 := hF26.O ha_23 (by decide) (by decide) ec23_7_ha_23
    have ec26_1_hz_23zz_26 := hF26.O hz_23zz (by decide) (by decide) ec23_1_hz_23zz
    have hpl_26 := (hF26.1 _ _ hpl_23 (by decide)).1
    have ec26_1_ha_26 := hF26.O ha_23 (by decide) (by decide) ec23_1_ha_23
    have ham_26 := (hF26.1 _ _ ham_23 (by decide)).1
    have ec26_4_ha_26 := hF26.O ha_23 (by decide) (by decide) ec23_4_ha_23
    have ec26_8_ha_26 := hF26.O ha_23 (by decide) (by decide) ec23_8_ha_23
    have ec26_9_ha_26 := hF26.O ha_23 (by decide) (by decide) ec23_9_ha_23
    have hC5 := hC.fr hF23 hB.h2 hB.h3 (by decide)
    have hC6 := hC5.af (by decide) tk_nm0 p26.1 p26.2
    refine pq_aload_n F dX6_addPlace_29 rfl rfl ?_
    refine pq_callV (As := []) F (k_X6_repeatG l D cy _ _ ?_ _ _ _ _ _ _ _ ((hB.fr hF23 (by decide)).fr hF26 (by decide)) tb n k (hF26.O (hF23.R hB.h0 (by decide)) (by decide) (by decide) (hF23.O hB.h0 (by decide) (by decide) g0)) (hF26.R (hF23.R hgb (by decide)) (by decide)) hn (hrun c4i).1 (hrun c4i).2.1 am wh dn hdn hh tt _ hC6 (hF26.O (hF23.R ha (by decide)) (by decide) (by decide) (hF23.O ha (by decide) (by decide) e4)) pl tk fo (np + 1) (tr_up mk np (lo8, hi8)) F0 (hF26.O (hF23.R ha (by decide)) (by decide) (by decide) (hF23.O ha (by decide) (by decide) e1)) (p23.2.fr hF26 (by decide) (by decide) (by decide) (by decide) (by decide)) (by rw [tr_ups]; exact tk_bn.ep) (by rw [tr_upn (by omega)]; exact hbS.mn) f0 (hrun c4i).2.2 ce se) ml_X6_115 ha_26 (by decide) rfl (Nat.le_of_ble_eq_true rfl) ⟨Nat.le_of_ble_eq_true rfl, Nat.le_of_ble_eq_true rfl⟩ ⟨by decide, by decide⟩ dX6_addPlace_30 (fun v30 S30 w30 => ?_)
    · exact ha_26
    obtain ⟨rfl, hF30, p30⟩ := w30
    have ha_30 := (hF30.1 _ _ ha_26 (by decide)).1
    have hz_30 := (hF30.1 _ _ hz_26 (by decide)).1
    have ec30_2_ha_30 := hF30.O ha_26 (by decide) (by decide) ec26_2_ha_26
    have hz_23z_30 := (hF30.1 _ _ hz_23z_26 (by decide)).1
    have ec30_3_ha_30 := hF30.O ha_26 (by decide) (by decide) ec26_3_ha_26
    have hz_23zz_30 := (hF30.1 _ _ hz_23zz_26 (by decide)).1
    have ec30_0_ha_30 := hF30.O ha_26 (by decide) (by decide) ec26_0_ha_26
    have ec30_6_ha_30 := hF30.O ha_26 (by decide) (by decide) ec26_6_ha_26
    have ec30_7_ha_30 := hF30.O ha_26 (by decide) (by decide) ec26_7_ha_26
    have ec30_1_hz_23zz_30 := hF30.O hz_23zz_26 (by decide) (by decide) ec26_1_hz_23zz_26
    have hpl_30 := (hF30.1 _ _ hpl_26 (by decide)).1
    have ec30_1_ha_30 := hF30.O ha_26 (by decide) (by decide) ec26_1_ha_26
    have ham_30 := (hF30.1 _ _ ham_26 (by decide)).1
    have ec30_4_ha_30 := hF30.O ha_26 (by decide) (by decide) ec26_4_ha_26
    have ec30_8_ha_30 := hF30.O ha_26 (by decide) (by decide) ec26_8_ha_26
    have ec30_9_ha_30 := hF30.O ha_26 (by decide) (by decide) ec26_9_ha_26
    rw [hF26.I (hF23.R hgb (by decide)) (by decide) (by decide), hF23.I hgb (by decide) (by decide), tr_ups] at p30
    exact pq_vret F hr hlk hA (Nat.le_refl _) (Nat.le_refl _) ((by obtain ⟨at2, k3, f3, A3, F3, EE2, q1, q2, q3, q4, q5, ⟨q6, q7⟩, q8, q9⟩ := p30; rw [tr_upn (show 2 * dn + 2 ≠ 0 by omega)] at q6 q8; exact ⟨rfl, (((pq_Fr.rf.cm hF23 (by decide)).cm hF26 (by decide)).cm hF30 (by decide)), Or.inr ⟨c4i, at2, k3, f3, A3, F3, EE2, q1, q2, q3, q4, q5, ⟨q6, fun j j1 j2 => (by rw [q7 j j1 j2, tr_upn j1])⟩, q8, q9⟩⟩)) dX6_addPlace_33

set_option maxHeartbeats 4000000 in
set_option maxRecDepth 100000 in
theorem k_X6_closeGroupG (l : Launch) (D : va_G) (cy : Nat → ClassId) (S : HS) (a : Nat) (ha : pq_R S a 9) (ch sq tp : Nat) (dp at1 br t : Int32) (hB : pq_Rd S a ch sq tp dp at1 br t dp.toInt) (tb n : Nat) (g0 : hO S tp 0 = .ref tb) (hgb : pq_R S tb 104) (hn : t.toInt = (n : Int)) (k f0 : Nat) (hk : at1.toInt = (k : Int)) (hkn : k < n) (hf0 : n + 1 ≤ k + 1 + f0) (am wh dn : Nat) (hdn : dp.toInt = (dn : Int)) (hh tt : Nat → Nat) (EE : Nat → tq_E) (hC : tk_Co S ch sq am wh hh tt EE) (e4 : hO S a 4 = .ref am) (pl tk fo np : Nat) (mk : Nat → tr_M) (F0 : Nat → Nat → Prop) (e1 : hO S a 1 = .ref pl) (hP : tk_Pl S pl tk fo np mk F0) (hbS : ∀ d, d ≤ dn → tk_bn np (EE (2 * d + 1)) ∧ tk_bn np (EE (2 * d + 2))) (ce se : Nat → tq_E) : pq_C l D cy yX6_closeGroup cX6_closeGroup 1 (none) 4 0 0 S [.ref a] (fun v S2 => v = none ∧ pq_Fr [(9, 5), (9, 6), (9, 7), (5, 2), (190, 0), (191, 0), (195, 0)] S S2 ∧ (∃ (dp2 br2 : Int32), (dn = 0 ∧ br2 = at1 ∧ (∃ at2 : Int32, pq_Rd S2 a ch sq tp dp2 at2 br2 t dp2.toInt) ∧ tk_Co S2 ch sq am wh hh tt EE) ∨ (dn ≠ 0 ∧ br2 = br ∧ dp2 = dp - 1 ∧ (∃ (at2 : Int32) (k3 f3 : Nat) (A3 : tq_E) (F3 : Nat → Nat → Prop) (EE2 : Nat → tq_E), pq_Rd S2 a ch sq tp (dp - 1) at2 br t ((dp - 1)).toInt ∧ (at2.toInt = (k3 : Int) ∧ (k + 1) ≤ k3 ∧ k3 ≤ n ∧ n + 1 ≤ k3 + f3) ∧ tr_run (hI S tb) n f0 (k + 1) (dn - 1) np mk true ce se (tq_or (EE (2 * dn + 1)) (EE (2 * dn + 2))) F0 = tr_run (hI S tb) n f3 k3 (dn - 1) np mk true ce se A3 F3 ∧ (n ≤ k3 ∨ ¬ ((hI S tb) k3 = 42 ∨ (hI S tb) k3 = 43 ∨ (hI S tb) k3 = 63)) ∧ tk_Co S2 ch sq am wh hh tt EE2 ∧ (EE2 (2 * (dn - 1) + 2) = tq_ap (EE (2 * (dn - 1) + 2)) A3 ∧ ∀ j, j ≠ 0 → j ≠ 2 * dn + 1 → j ≠ 2 * (dn - 1) + 2 → EE2 j = EE j) ∧ tk_Pl S2 pl tk fo np mk (tq_li F3 (EE (2 * (dn - 1) + 2)) A3) ∧ tk_bn np A3)))) := by
  refine pq_start (by decide) (Nat.le_of_ble_eq_true rfl) ?_
  intro p e s m args below meth c A F hr hlk hnm hA
  have lqm1 : (-1 : Int32).toInt = -1 := rfl
  have lq0 : (0 : Int32).toInt = 0 := rfl
  have lq1 : (1 : Int32).toInt = 1 := rfl
  obtain ⟨hd0, hd1, ha0, ha1, ht0, ht1⟩ := hB.b
  have hdl : dn ≤ 40 := (by focus ((try clear hB); (try clear hB3); (try clear hB5); (try clear hC); (try clear hC3); (try clear hC5); (try clear hC6); (try clear hC7); (try clear hC8); (try clear hP); (try clear hP3); (try clear hP5); (try clear hbS); (try clear hEa); (try clear hEan); (try clear hrun); (try clear p23); (try clear p26); (try clear p30); (try clear hEc); (try clear hEcn); (try clear hEq); (try clear hEqn); (try clear hEc2); (try clear hEc2n); (try clear hdist); (try clear p31); (try clear p39); (try clear p42); (try clear p54); (try clear p57); (try clear p71); (try clear hEam); (try clear hE5); simp only [vp_in_iff, Int32.lt_iff_toInt_lt, Int32.le_iff_toInt_le, ← Int32.toInt_inj, Int32.toInt_add, Int32.toInt_sub, Int32.toInt_mul, Int32.toInt_neg, pq_NuO, pq_NuI, pq_NuJ, pq_NuR, pq_shr6, pq_shr7, pq_shr8, lqm1, lq0, lq1] at *; (try simp (disch := omega) only [pq_bm] at *); all_goals omega))
  have hpl := hP.r
  have hEan : tk_nm S ch sq am wh 0 = some am := tk_nm0
  have hEa := hC.1 0 am (by decide) hEan
  have ham := hEa.r
  refine pq_aload_n F dX6_closeGroup_0 rfl rfl ?_
  refine pq_get F ha (by decide) lk_X6_45 hB.e6 dX6_closeGroup_1 ?_
  refine pq_if_gt (tgt := 16) F dX6_closeGroup_4 (by decide) (fun c4 => ?_) (fun c4 => ?_)
  · skip
    have hdz : dn ≠ 0 := (by focus ((try clear hB); (try clear hB3); (try clear hB5); (try clear hC); (try clear hC3); (try clear hC5); (try clear hC6); (try clear hC7); (try clear hC8); (try clear hP); (try clear hP3); (try clear hP5); (try clear hbS); (try clear hEa); (try clear hEan); (try clear hrun); (try clear p23); (try clear p26); (try clear p30); (try clear hEc); (try clear hEcn); (try clear hEq); (try clear hEqn); (try clear hEc2); (try clear hEc2n); (try clear hdist); (try clear p31); (try clear p39); (try clear p42); (try clear p54); (try clear p57); (try clear p71); (try clear hEam); (try clear hE5); simp only [vp_in_iff, Int32.lt_iff_toInt_lt, Int32.le_iff_toInt_le, ← Int32.toInt_inj, Int32.toInt_add, Int32.toInt_sub, Int32.toInt_mul, Int32.toInt_neg, pq_NuO, pq_NuI, pq_NuJ, pq_NuR, pq_shr6, pq_shr7, pq_shr8, lqm1, lq0, lq1] at *; (try simp (disch := omega) only [pq_bm] at *); all_goals omega))
    refine pq_aload_n F dX6_closeGroup_16 rfl rfl ?_
    refine pq_dup F dX6_closeGroup_17 rfl ?_
    refine pq_get F ha (by decide) lk_X6_38 hB.e5 dX6_closeGroup_18 ?_
    refine pq_iconst (v := 1) F dX6_closeGroup_21 (by decide) ?_
    refine pq_iadd F dX6_closeGroup_22 ?_
    refine pq_putI F ha (by decide) lp_X6_38 rfl (pq_any1 _) (pq_any2 _) dX6_closeGroup_23 ?_
    refine pq_aload_n F dX6_closeGroup_26 rfl rfl ?_
    refine pq_aload_n F dX6_closeGroup_27 rfl rfl ?_
    refine pq_get F ha (by decide) lk_X6_11 (pq_kp hB.e2 (by decide)) dX6_closeGroup_28 ?_
    refine pq_callV (As := [_]) F (k_X6_hereCP l D cy _ _ ?_ _ ?_ _ (hB.p5 (by focus ((try clear hB); (try clear hB3); (try clear hB5); (try clear hC); (try clear hC3); (try clear hC5); (try clear hC6); (try clear hC7); (try clear hC8); (try clear hP); (try clear hP3); (try clear hP5); (try clear hbS); (try clear hEa); (try clear hEan); (try clear hrun); (try clear p23); (try clear p26); (try clear p30); (try clear hEc); (try clear hEcn); (try clear hEq); (try clear hEqn); (try clear hEc2); (try clear hEc2n); (try clear hdist); (try clear p31); (try clear p39); (try clear p42); (try clear p54); (try clear p57); (try clear p71); (try clear hEam); (try clear hE5); simp only [vp_in_iff, Int32.lt_iff_toInt_lt, Int32.le_iff_toInt_le, ← Int32.toInt_inj, Int32.toInt_add, Int32.toInt_sub, Int32.toInt_mul, Int32.toInt_neg, pq_NuO, pq_NuI, pq_NuJ, pq_NuR, pq_shr6, pq_shr7, pq_shr8, lqm1, lq0, lq1] at *; (try simp (disch := omega) only [pq_bm] at *); all_goals omega)) (by focus ((try clear hB); (try clear hB3); (try clear hB5); (try clear hC); (try clear hC3); (try clear hC5); (try clear hC6); (try clear hC7); (try clear hC8); (try clear hP); (try clear hP3); (try clear hP5); (try clear hbS); (try clear hEa); (try clear hEan); (try clear hrun); (try clear p23); (try clear p26); (try clear p30); (try clear hEc); (try clear hEcn); (try clear hEq); (try clear hEqn); (try clear hEc2); (try clear hEc2n); (try clear hdist); (try clear p31); (try clear p39); (try clear p42); (try clear p54); (try clear p57); (try clear p71); (try clear hEam); (try clear hE5); simp only [vp_in_iff, Int32.lt_iff_toInt_lt, Int32.le_iff_toInt_le, ← Int32.toInt_inj, Int32.toInt_add, Int32.toInt_sub, Int32.toInt_mul, Int32.toInt_neg, pq_NuO, pq_NuI, pq_NuJ, pq_NuR, pq_shr6, pq_shr7, pq_shr8, lqm1, lq0, lq1] at *; (try simp (disch := omega) only [pq_bm] at *); all_goals omega))).e6 hd0 hd1 ((hB.p5 (by focus ((try clear hB); (try clear hB3); (try clear hB5); (try clear hC); (try clear hC3); (try clear hC5); (try clear hC6); (try clear hC7); (try clear hC8); (try clear hP); (try clear hP3); (try clear hP5); (try clear hbS); (try clear hEa); (try clear hEan); (try clear hrun); (try clear p23); (try clear p26); (try clear p30); (try clear hEc); (try clear hEcn); (try clear hEq); (try clear hEqn); (try clear hEc2); (try clear hEc2n); (try clear hdist); (try clear p31); (try clear p39); (try clear p42); (try clear p54); (try clear p57); (try clear p71); (try clear hEam); (try clear hE5); simp only [vp_in_iff, Int32.lt_iff_toInt_lt, Int32.le_iff_toInt_le, ← Int32.toInt_inj, Int32.toInt_add, Int32.toInt_sub, Int32.toInt_mul, Int32.toInt_neg, pq_NuO, pq_NuI, pq_NuJ, pq_NuR, pq_shr6, pq_shr7, pq_shr8, lqm1, lq0, lq1] at *; (try simp (disch := omega) only [pq_bm] at *); all_goals omega)) (by focus ((try clear hB); (try clear hB3); (try clear hB5); (try clear hC); (try clear hC3); (try clear hC5); (try clear hC6); (try clear hC7); (try clear hC8); (try clear hP); (try clear hP3); (try clear hP5); (try clear hbS); (try clear hEa); (try clear hEan); (try clear hrun); (try clear p23); (try clear p26); (try clear p30); (try clear hEc); (try clear hEcn); (try clear hEq); (try clear hEqn); (try clear hEc2); (try clear hEc2n); (try clear hdist); (try clear p31); (try clear p39); (try clear p42); (try clear p54); (try clear p57); (try clear p71); (try clear hEam); (try clear hE5); simp only [vp_in_iff, Int32.lt_iff_toInt_lt, Int32.le_iff_toInt_le, ← Int32.toInt_inj, Int32.toInt_add, Int32.toInt_sub, Int32.toInt_mul, Int32.toInt_neg, pq_NuO, pq_NuI, pq_NuJ, pq_NuR, pq_shr6, pq_shr7, pq_shr8, lqm1, lq0, lq1] at *; (try simp (disch := omega) only [pq_bm] at *); all_goals omega))).c (Int.le_refl _))) ml_X6_59 ha (by decide) rfl (Nat.le_of_ble_eq_true rfl) ⟨Nat.le_of_ble_eq_true rfl, Nat.le_of_ble_eq_true rfl⟩ ⟨by decide, by decide⟩ dX6_closeGroup_31 (fun v31 S31 w31 => ?_)
    · exact ha
    · exact hB.h2
    obtain ⟨u31, y31, rfl, hy31, p31⟩ := w31
    rw [u31]
    rw [u31] at hy31
    try rw [u31] at p31
    have hC5 : tk_Co (pq_uO S a 5 (.int (at1 + 1))) ch sq am wh hh tt EE := hC.fr ((pq_Fr.rf (M := [(9, 5)]) (S := S)).uO ha (by decide)) hB.h2 hB.h3 (by decide)
    have hEcn : tk_nm (pq_uO S a 5 (.int (at1 + 1))) ch sq am wh (2 * dn + 1) = some y31 := (by rw [tk_nmc hdl, ← tk_ix hdn]; exact p31)
    have hEc := hC5.1 _ _ (by omega) hEcn
    refine pq_aload_n F dX6_closeGroup_34 rfl rfl ?_
    refine pq_aload_n F dX6_closeGroup_35 rfl rfl ?_
    refine pq_get F ha (by decide) lk_X6_17 (pq_kp hB.e3 (by decide)) dX6_closeGroup_36 ?_
    refine pq_callV (As := [_]) F (k_X6_hereQP l D cy _ _ ?_ _ ?_ _ (hB.p5 (by focus ((try clear hB); (try clear hB3); (try clear hB5); (try clear hC); (try clear hC3); (try clear hC5); (try clear hC6); (try clear hC7); (try clear hC8); (try clear hP); (try clear hP3); (try clear hP5); (try clear hbS); (try clear hEa); (try clear hEan); (try clear hrun); (try clear p23); (try clear p26); (try clear p30); (try clear hEc); (try clear hEcn); (try clear hEq); (try clear hEqn); (try clear hEc2); (try clear hEc2n); (try clear hdist); (try clear p31); (try clear p39); (try clear p42); (try clear p54); (try clear p57); (try clear p71); (try clear hEam); (try clear hE5); simp only [vp_in_iff, Int32.lt_iff_toInt_lt, Int32.le_iff_toInt_le, ← Int32.toInt_inj, Int32.toInt_add, Int32.toInt_sub, Int32.toInt_mul, Int32.toInt_neg, pq_NuO, pq_NuI, pq_NuJ, pq_NuR, pq_shr6, pq_shr7, pq_shr8, lqm1, lq0, lq1] at *; (try simp (disch := omega) only [pq_bm] at *); all_goals omega)) (by focus ((try clear hB); (try clear hB3); (try clear hB5); (try clear hC); (try clear hC3); (try clear hC5); (try clear hC6); (try clear hC7); (try clear hC8); (try clear hP); (try clear hP3); (try clear hP5); (try clear hbS); (try clear hEa); (try clear hEan); (try clear hrun); (try clear p23); (try clear p26); (try clear p30); (try clear hEc); (try clear hEcn); (try clear hEq); (try clear hEqn); (try clear hEc2); (try clear hEc2n); (try clear hdist); (try clear p31); (try clear p39); (try clear p42); (try clear p54); (try clear p57); (try clear p71); (try clear hEam); (try clear hE5); simp only [vp_in_iff, Int32.lt_iff_toInt_lt, Int32.le_iff_toInt_le, ← Int32.toInt_inj, Int32.toInt_add, Int32.toInt_sub, Int32.toInt_mul, Int32.toInt_neg, pq_NuO, pq_NuI, pq_NuJ, pq_NuR, pq_shr6, pq_shr7, pq_shr8, lqm1, lq0, lq1] at *; (try simp (disch := omega) only [pq_bm] at *); all_goals omega))).e6 hd0 hd1 ((hB.p5 (by focus ((try clear hB); (try clear hB3); (try clear hB5); (try clear hC); (try clear hC3); (try clear hC5); (try clear hC6); (try clear hC7); (try clear hC8); (try clear hP); (try clear hP3); (try clear hP5); (try clear hbS); (try clear hEa); (try clear hEan); (try clear hrun); (try clear p23); (try clear p26); (try clear p30); (try clear hEc); (try clear hEcn); (try clear hEq); (try clear hEqn); (try clear hEc2); (try clear hEc2n); (try clear hdist); (try clear p31); (try clear p39); (try clear p42); (try clear p54); (try clear p57); (try clear p71); (try clear hEam); (try clear hE5); simp only [vp_in_iff, Int32.lt_iff_toInt_lt, Int32.le_iff_toInt_le, ← Int32.toInt_inj, Int32.toInt_add, Int32.toInt_sub, Int32.toInt_mul, Int32.toInt_neg, pq_NuO, pq_NuI, pq_NuJ, pq_NuR, pq_shr6, pq_shr7, pq_shr8, lqm1, lq0, lq1] at *; (try simp (disch := omega) only [pq_bm] at *); all_goals omega)) (by focus ((try clear hB); (try clear hB3); (try clear hB5); (try clear hC); (try clear hC3); (try clear hC5); (try clear hC6); (try clear hC7); (try clear hC8); (try clear hP); (try clear hP3); (try clear hP5); (try clear hbS); (try clear hEa); (try clear hEan); (try clear hrun); (try clear p23); (try clear p26); (try clear p30); (try clear hEc); (try clear hEcn); (try clear hEq); (try clear hEqn); (try clear hEc2); (try clear hEc2n); (try clear hdist); (try clear p31); (try clear p39); (try clear p42); (try clear p54); (try clear p57); (try clear p71); (try clear hEam); (try clear hE5); simp only [vp_in_iff, Int32.lt_iff_toInt_lt, Int32.le_iff_toInt_le, ← Int32.toInt_inj, Int32.toInt_add, Int32.toInt_sub, Int32.toInt_mul, Int32.toInt_neg, pq_NuO, pq_NuI, pq_NuJ, pq_NuR, pq_shr6, pq_shr7, pq_shr8, lqm1, lq0, lq1] at *; (try simp (disch := omega) only [pq_bm] at *); all_goals omega))).q (Int.le_refl _))) ml_X6_59 ha (by decide) rfl (Nat.le_of_ble_eq_true rfl) ⟨Nat.le_of_ble_eq_true rfl, Nat.le_of_ble_eq_true rfl⟩ ⟨by decide, by decide⟩ dX6_closeGroup_39 (fun v39 S39 w39 => ?_)
    · exact ha
    · exact hB.h3
    obtain ⟨u39, y39, rfl, hy39, p39⟩ := w39
    rw [u39]
    rw [u39] at hy39
    try rw [u39] at p39
    have hEqn : tk_nm (pq_uO S a 5 (.int (at1 + 1))) ch sq am wh (2 * dn + 2) = some y39 := (by rw [tk_nmq hdl, ← tk_ix hdn]; exact p39)
    have hEq := hC5.1 _ _ (by omega) hEqn
    have hdist := hC5.2 _ _ _ _ (by omega) (by omega) (show 2 * dn + 1 ≠ 2 * dn + 2 by omega) hEcn hEqn
    refine pq_callV (As := [_]) F (k_X2_addChoiceG l D cy _ _ ?_ _ ?_ (hh (2 * dn + 1)) (tt (2 * dn + 1)) (EE (2 * dn + 1)) hEc (hh (2 * dn + 2)) (tt (2 * dn + 2)) (EE (2 * dn + 2)) hEq hdist.2.1 hdist.2.2) ml_X6_63 hy31 (by decide) rfl (Nat.le_of_ble_eq_true rfl) ⟨Nat.le_of_ble_eq_true rfl, Nat.le_of_ble_eq_true rfl⟩ ⟨by decide, by decide⟩ dX6_closeGroup_42 (fun v42 S42 w42 => ?_)
    · exact hy31
    · exact hy39
    obtain ⟨rfl, hF42, p42⟩ := w42
    have ha_42 := (hF42.1 _ _ ha (by decide)).1
    have hz_42 := (hF42.1 _ _ hB.h2 (by decide)).1
    have ec42_2_ha_42 := hF42.O ha (by decide) (by decide) (pq_kp hB.e2 (by decide))
    have hz_42z := (hF42.1 _ _ hB.h3 (by decide)).1
    have ec42_3_ha_42 := hF42.O ha (by decide) (by decide) (pq_kp hB.e3 (by decide))
    have hz_42zz := (hF42.1 _ _ hB.h0 (by decide)).1
    have ec42_0_ha_42 := hF42.O ha (by decide) (by decide) (pq_kp hB.e0 (by decide))
    have ec42_6_ha_42 := hF42.O ha (by decide) (by decide) (pq_kp hB.e6 (by decide))
    have ec42_7_ha_42 := hF42.O ha (by decide) (by decide) (pq_kp hB.e7 (by decide))
    have ec42_1_hz_42zz := hF42.O hB.h0 (by decide) (by decide) (pq_ko hB.et hB.h0 ha (by decide))
    have hpl_42 := (hF42.1 _ _ hpl (by decide)).1
    have ec42_1_ha_42 := hF42.O ha (by decide) (by decide) (pq_kp e1 (by decide))
    have ham_42 := (hF42.1 _ _ ham (by decide)).1
    have ec42_4_ha_42 := hF42.O ha (by decide) (by decide) (pq_kp e4 (by decide))
    have ec42_5_ha_42 := hF42.O ha (by decide) (by decide) pq_ks
    have hC6 := hC5.af (by omega) hEcn p42.1 p42.2
    refine pq_aload_n F dX6_closeGroup_45 rfl rfl ?_
    refine pq_get F ha_42 (by decide) lk_X6_21 ec42_4_ha_42 dX6_closeGroup_46 ?_
    refine pq_aload_n F dX6_closeGroup_49 rfl rfl ?_
    refine pq_aload_n F dX6_closeGroup_50 rfl rfl ?_
    refine pq_get F ha_42 (by decide) lk_X6_11 ec42_2_ha_42 dX6_closeGroup_51 ?_
    refine pq_callV (As := [_]) F (k_X6_hereCP l D cy _ _ ?_ _ ?_ _ (((hB.p5 (by focus ((try clear hB); (try clear hB3); (try clear hB5); (try clear hC); (try clear hC3); (try clear hC5); (try clear hC6); (try clear hC7); (try clear hC8); (try clear hP); (try clear hP3); (try clear hP5); (try clear hbS); (try clear hEa); (try clear hEan); (try clear hrun); (try clear p23); (try clear p26); (try clear p30); (try clear hEc); (try clear hEcn); (try clear hEq); (try clear hEqn); (try clear hEc2); (try clear hEc2n); (try clear hdist); (try clear p31); (try clear p39); (try clear p42); (try clear p54); (try clear p57); (try clear p71); (try clear hEam); (try clear hE5); simp only [vp_in_iff, Int32.lt_iff_toInt_lt, Int32.le_iff_toInt_le, ← Int32.toInt_inj, Int32.toInt_add, Int32.toInt_sub, Int32.toInt_mul, Int32.toInt_neg, pq_NuO, pq_NuI, pq_NuJ, pq_NuR, pq_shr6, pq_shr7, pq_shr8, lqm1, lq0, lq1] at *; (try simp (disch := omega) only [pq_bm] at *); all_goals omega)) (by focus ((try clear hB); (try clear hB3); (try clear hB5); (try clear hC); (try clear hC3); (try clear hC5); (try clear hC6); (try clear hC7); (try clear hC8); (try clear hP); (try clear hP3); (try clear hP5); (try clear hbS); (try clear hEa); (try clear hEan); (try clear hrun); (try clear p23); (try clear p26); (try clear p30); (try clear hEc); (try clear hEcn); (try clear hEq); (try clear hEqn); (try clear hEc2); (try clear hEc2n); (try clear hdist); (try clear p31); (try clear p39); (try clear p42); (try clear p54); (try clear p57); (try clear p71); (try clear hEam); (try clear hE5); simp only [vp_in_iff, Int32.lt_iff_toInt_lt, Int32.le_iff_toInt_le, ← Int32.toInt_inj, Int32.toInt_add, Int32.toInt_sub, Int32.toInt_mul, Int32.toInt_neg, pq_NuO, pq_NuI, pq_NuJ, pq_NuR, pq_shr6, pq_shr7, pq_shr8, lqm1, lq0, lq1] at *; (try simp (disch := omega) only [pq_bm] at *); all_goals omega))).fr hF42 (by decide))).e6 hd0 hd1 ((((hB.p5 (by focus ((try clear hB); (try clear hB3); (try clear hB5); (try clear hC); (try clear hC3); (try clear hC5); (try clear hC6); (try clear hC7); (try clear hC8); (try clear hP); (try clear hP3); (try clear hP5); (try clear hbS); (try clear hEa); (try clear hEan); (try clear hrun); (try clear p23); (try clear p26); (try clear p30); (try clear hEc); (try clear hEcn); (try clear hEq); (try clear hEqn); (try clear hEc2); (try clear hEc2n); (try clear hdist); (try clear p31); (try clear p39); (try clear p42); (try clear p54); (try clear p57); (try clear p71); (try clear hEam); (try clear hE5); simp only [vp_in_iff, Int32.lt_iff_toInt_lt, Int32.le_iff_toInt_le, ← Int32.toInt_inj, Int32.toInt_add, Int32.toInt_sub, Int32.toInt_mul, Int32.toInt_neg, pq_NuO, pq_NuI, pq_NuJ, pq_NuR, pq_shr6, pq_shr7, pq_shr8, lqm1, lq0, lq1] at *; (try simp (disch := omega) only [pq_bm] at *); all_goals omega)) (by focus ((try clear hB); (try clear hB3); (try clear hB5); (try clear hC); (try clear hC3); (try clear hC5); (try clear hC6); (try clear hC7); (try clear hC8); (try clear hP); (try clear hP3); (try clear hP5); (try clear hbS); (try clear hEa); (try clear hEan); (try clear hrun); (try clear p23); (try clear p26); (try clear p30); (try clear hEc); (try clear hEcn); (try clear hEq); (try clear hEqn); (try clear hEc2); (try clear hEc2n); (try clear hdist); (try clear p31); (try clear p39); (try clear p42); (try clear p54); (try clear p57); (try clear p71); (try clear hEam); (try clear hE5); simp only [vp_in_iff, Int32.lt_iff_toInt_lt, Int32.le_iff_toInt_le, ← Int32.toInt_inj, Int32.toInt_add, Int32.toInt_sub, Int32.toInt_mul, Int32.toInt_neg, pq_NuO, pq_NuI, pq_NuJ, pq_NuR, pq_shr6, pq_shr7, pq_shr8, lqm1, lq0, lq1] at *; (try simp (disch := omega) only [pq_bm] at *); all_goals omega))).fr hF42 (by decide))).c (Int.le_refl _))) ml_X6_59 ha_42 (by decide) rfl (Nat.le_of_ble_eq_true rfl) ⟨Nat.le_of_ble_eq_true rfl, Nat.le_of_ble_eq_true rfl⟩ ⟨by decide, by decide⟩ dX6_closeGroup_54 (fun v54 S54 w54 => ?_)
    · exact ha_42
    · exact hz_42
    obtain ⟨u54, y54, rfl, hy54, p54⟩ := w54
    rw [u54]
    rw [u54] at hy54
    try rw [u54] at p54
    have hEc2n : tk_nm S42 ch sq am wh (2 * dn + 1) = some y54 := (by rw [tk_nmc hdl, ← tk_ix hdn]; exact p54)
    have hEc2 := hC6.1 _ _ (by omega) hEc2n
    rw [tr_ups] at hEc2
    have hEam := hC6.1 0 am (by decide) tk_nm0
    rw [tr_upn (show 0 ≠ 2 * dn + 1 by omega)] at hEam
    refine pq_callV (As := [_]) F (k_X2_becomeG l D cy _ _ ?_ _ ?_ (hh 0) (tt 0) (EE 0) hEam (hh (2 * dn + 1)) (tt (2 * dn + 1)) (tq_or (EE (2 * dn + 1)) (EE (2 * dn + 2))) hEc2) ml_X6_70 ham_42 (by decide) rfl (Nat.le_of_ble_eq_true rfl) ⟨Nat.le_of_ble_eq_true rfl, Nat.le_of_ble_eq_true rfl⟩ ⟨by decide, by decide⟩ dX6_closeGroup_57 (fun v57 S57 w57 => ?_)
    · exact ham_42
    · exact hy54
    obtain ⟨rfl, hF57, p57⟩ := w57
    have ha_57 := (hF57.1 _ _ ha_42 (by decide)).1
    have hz_57 := (hF57.1 _ _ hz_42 (by decide)).1
    have ec57_2_ha_57 := hF57.O ha_42 (by decide) (by decide) ec42_2_ha_42
    have hz_42z_57 := (hF57.1 _ _ hz_42z (by decide)).1
    have ec57_3_ha_57 := hF57.O ha_42 (by decide) (by decide) ec42_3_ha_42
    have hz_42zz_57 := (hF57.1 _ _ hz_42zz (by decide)).1
    have ec57_0_ha_57 := hF57.O ha_42 (by decide) (by decide) ec42_0_ha_42
    have ec57_6_ha_57 := hF57.O ha_42 (by decide) (by decide) ec42_6_ha_42
    have ec57_7_ha_57 := hF57.O ha_42 (by decide) (by decide) ec42_7_ha_42
    have ec57_1_hz_42zz_57 := hF57.O hz_42zz (by decide) (by decide) ec42_1_hz_42zz
    have hpl_57 := (hF57.1 _ _ hpl_42 (by decide)).1
    have ec57_1_ha_57 := hF57.O ha_42 (by decide) (by decide) ec42_1_ha_42
    have ham_57 := (hF57.1 _ _ ham_42 (by decide)).1
    have ec57_4_ha_57 := hF57.O ha_42 (by decide) (by decide) ec42_4_ha_42
    have ec57_5_ha_57 := hF57.O ha_42 (by decide) (by decide) ec42_5_ha_42
    have hC7 := hC6.af (by decide) tk_nm0 p57.1 p57.2
    have hC8 := hC7.fr ((pq_Fr.rf (M := [(9, 6)])).uO (k := 6) (v := .int (dp - 1)) (hF57.R (hF42.R ha (by decide)) (by decide)) (by decide)) (hF57.R (hF42.R hB.h2 (by decide)) (by decide)) (hF57.R (hF42.R hB.h3 (by decide)) (by decide)) (by decide)
    have hP5 := (((hP.fr ((pq_Fr.rf (M := [(9, 5)]) (S := S)).uO ha (by decide)) (by decide) (by decide) (by decide) (by decide) (by decide)).fr hF42 (by decide) (by decide) (by decide) (by decide) (by decide)).fr hF57 (by decide) (by decide) (by decide) (by decide) (by decide)).fr ((pq_Fr.rf (M := [(9, 6)])).uO (k := 6) (v := .int (dp - 1)) (hF57.R (hF42.R ha (by decide)) (by decide)) (by decide)) (by decide) (by decide) (by decide) (by decide) (by decide)
    refine pq_aload_n F dX6_closeGroup_60 rfl rfl ?_
    refine pq_dup F dX6_closeGroup_61 rfl ?_
    refine pq_get F ha_57 (by decide) lk_X6_45 ec57_6_ha_57 dX6_closeGroup_62 ?_
    refine pq_iconst (v := 1) F dX6_closeGroup_65 (by decide) ?_
    refine pq_isub F dX6_closeGroup_66 ?_
    refine pq_putI F ha_57 (by decide) lp_X6_45 rfl (by focus ((try clear hB); (try clear hB3); (try clear hB5); (try clear hC); (try clear hC3); (try clear hC5); (try clear hC6); (try clear hC7); (try clear hC8); (try clear hP); (try clear hP3); (try clear hP5); (try clear hbS); (try clear hEa); (try clear hEan); (try clear hrun); (try clear p23); (try clear p26); (try clear p30); (try clear hEc); (try clear hEcn); (try clear hEq); (try clear hEqn); (try clear hEc2); (try clear hEc2n); (try clear hdist); (try clear p31); (try clear p39); (try clear p42); (try clear p54); (try clear p57); (try clear p71); (try clear hEam); (try clear hE5); simp only [vp_in_iff, Int32.lt_iff_toInt_lt, Int32.le_iff_toInt_le, ← Int32.toInt_inj, Int32.toInt_add, Int32.toInt_sub, Int32.toInt_mul, Int32.toInt_neg, pq_NuO, pq_NuI, pq_NuJ, pq_NuR, pq_shr6, pq_shr7, pq_shr8, lqm1, lq0, lq1] at *; (try simp (disch := omega) only [pq_bm] at *); all_goals omega)) (by focus ((try clear hB); (try clear hB3); (try clear hB5); (try clear hC); (try clear hC3); (try clear hC5); (try clear hC6); (try clear hC7); (try clear hC8); (try clear hP); (try clear hP3); (try clear hP5); (try clear hbS); (try clear hEa); (try clear hEan); (try clear hrun); (try clear p23); (try clear p26); (try clear p30); (try clear hEc); (try clear hEcn); (try clear hEq); (try clear hEqn); (try clear hEc2); (try clear hEc2n); (try clear hdist); (try clear p31); (try clear p39); (try clear p42); (try clear p54); (try clear p57); (try clear p71); (try clear hEam); (try clear hE5); simp only [vp_in_iff, Int32.lt_iff_toInt_lt, Int32.le_iff_toInt_le, ← Int32.toInt_inj, Int32.toInt_add, Int32.toInt_sub, Int32.toInt_mul, Int32.toInt_neg, pq_NuO, pq_NuI, pq_NuJ, pq_NuR, pq_shr6, pq_shr7, pq_shr8, lqm1, lq0, lq1] at *; (try simp (disch := omega) only [pq_bm] at *); all_goals omega)) dX6_closeGroup_67 ?_
    refine pq_aload_n F dX6_closeGroup_70 rfl rfl ?_
    refine pq_callV (As := []) F (k_X6_repeatG l D cy _ _ ?_ _ _ _ _ _ _ _ (((((hB.p5 (by focus ((try clear hB); (try clear hB3); (try clear hB5); (try clear hC); (try clear hC3); (try clear hC5); (try clear hC6); (try clear hC7); (try clear hC8); (try clear hP); (try clear hP3); (try clear hP5); (try clear hbS); (try clear hEa); (try clear hEan); (try clear hrun); (try clear p23); (try clear p26); (try clear p30); (try clear hEc); (try clear hEcn); (try clear hEq); (try clear hEqn); (try clear hEc2); (try clear hEc2n); (try clear hdist); (try clear p31); (try clear p39); (try clear p42); (try clear p54); (try clear p57); (try clear p71); (try clear hEam); (try clear hE5); simp only [vp_in_iff, Int32.lt_iff_toInt_lt, Int32.le_iff_toInt_le, ← Int32.toInt_inj, Int32.toInt_add, Int32.toInt_sub, Int32.toInt_mul, Int32.toInt_neg, pq_NuO, pq_NuI, pq_NuJ, pq_NuR, pq_shr6, pq_shr7, pq_shr8, lqm1, lq0, lq1] at *; (try simp (disch := omega) only [pq_bm] at *); all_goals omega)) (by focus ((try clear hB); (try clear hB3); (try clear hB5); (try clear hC); (try clear hC3); (try clear hC5); (try clear hC6); (try clear hC7); (try clear hC8); (try clear hP); (try clear hP3); (try clear hP5); (try clear hbS); (try clear hEa); (try clear hEan); (try clear hrun); (try clear p23); (try clear p26); (try clear p30); (try clear hEc); (try clear hEcn); (try clear hEq); (try clear hEqn); (try clear hEc2); (try clear hEc2n); (try clear hdist); (try clear p31); (try clear p39); (try clear p42); (try clear p54); (try clear p57); (try clear p71); (try clear hEam); (try clear hE5); simp only [vp_in_iff, Int32.lt_iff_toInt_lt, Int32.le_iff_toInt_le, ← Int32.toInt_inj, Int32.toInt_add, Int32.toInt_sub, Int32.toInt_mul, Int32.toInt_neg, pq_NuO, pq_NuI, pq_NuJ, pq_NuR, pq_shr6, pq_shr7, pq_shr8, lqm1, lq0, lq1] at *; (try simp (disch := omega) only [pq_bm] at *); all_goals omega))).fr hF42 (by decide)).fr hF57 (by decide)).p6 (by focus ((try clear hB); (try clear hB3); (try clear hB5); (try clear hC); (try clear hC3); (try clear hC5); (try clear hC6); (try clear hC7); (try clear hC8); (try clear hP); (try clear hP3); (try clear hP5); (try clear hbS); (try clear hEa); (try clear hEan); (try clear hrun); (try clear p23); (try clear p26); (try clear p30); (try clear hEc); (try clear hEcn); (try clear hEq); (try clear hEqn); (try clear hEc2); (try clear hEc2n); (try clear hdist); (try clear p31); (try clear p39); (try clear p42); (try clear p54); (try clear p57); (try clear p71); (try clear hEam); (try clear hE5); simp only [vp_in_iff, Int32.lt_iff_toInt_lt, Int32.le_iff_toInt_le, ← Int32.toInt_inj, Int32.toInt_add, Int32.toInt_sub, Int32.toInt_mul, Int32.toInt_neg, pq_NuO, pq_NuI, pq_NuJ, pq_NuR, pq_shr6, pq_shr7, pq_shr8, lqm1, lq0, lq1] at *; (try simp (disch := omega) only [pq_bm] at *); all_goals omega)) (by focus ((try clear hB); (try clear hB3); (try clear hB5); (try clear hC); (try clear hC3); (try clear hC5); (try clear hC6); (try clear hC7); (try clear hC8); (try clear hP); (try clear hP3); (try clear hP5); (try clear hbS); (try clear hEa); (try clear hEan); (try clear hrun); (try clear p23); (try clear p26); (try clear p30); (try clear hEc); (try clear hEcn); (try clear hEq); (try clear hEqn); (try clear hEc2); (try clear hEc2n); (try clear hdist); (try clear p31); (try clear p39); (try clear p42); (try clear p54); (try clear p57); (try clear p71); (try clear hEam); (try clear hE5); simp only [vp_in_iff, Int32.lt_iff_toInt_lt, Int32.le_iff_toInt_le, ← Int32.toInt_inj, Int32.toInt_add, Int32.toInt_sub, Int32.toInt_mul, Int32.toInt_neg, pq_NuO, pq_NuI, pq_NuJ, pq_NuR, pq_shr6, pq_shr7, pq_shr8, lqm1, lq0, lq1] at *; (try simp (disch := omega) only [pq_bm] at *); all_goals omega))).less (by focus ((try clear hB); (try clear hB3); (try clear hB5); (try clear hC); (try clear hC3); (try clear hC5); (try clear hC6); (try clear hC7); (try clear hC8); (try clear hP); (try clear hP3); (try clear hP5); (try clear hbS); (try clear hEa); (try clear hEan); (try clear hrun); (try clear p23); (try clear p26); (try clear p30); (try clear hEc); (try clear hEcn); (try clear hEq); (try clear hEqn); (try clear hEc2); (try clear hEc2n); (try clear hdist); (try clear p31); (try clear p39); (try clear p42); (try clear p54); (try clear p57); (try clear p71); (try clear hEam); (try clear hE5); simp only [vp_in_iff, Int32.lt_iff_toInt_lt, Int32.le_iff_toInt_le, ← Int32.toInt_inj, Int32.toInt_add, Int32.toInt_sub, Int32.toInt_mul, Int32.toInt_neg, pq_NuO, pq_NuI, pq_NuJ, pq_NuR, pq_shr6, pq_shr7, pq_shr8, lqm1, lq0, lq1] at *; (try simp (disch := omega) only [pq_bm] at *); all_goals omega))) tb n (k + 1) (pq_ko (hF57.O (hF42.R hB.h0 (by decide)) (by decide) (by decide) (hF42.O hB.h0 (by decide) (by decide) (pq_ko g0 hB.h0 ha (by decide)))) (hF57.R (hF42.R hB.h0 (by decide)) (by decide)) (hF57.R (hF42.R ha (by decide)) (by decide)) (by decide)) (hF57.R (hF42.R hgb (by decide)) (by decide)) hn ?_ ?_ am wh (dn - 1) ?_ hh tt _ hC8 (pq_kp (hF57.O (hF42.R ha (by decide)) (by decide) (by decide) (hF42.O ha (by decide) (by decide) (pq_kp e4 (by decide)))) (by decide)) pl tk fo np mk F0 (pq_kp (hF57.O (hF42.R ha (by decide)) (by decide) (by decide) (hF42.O ha (by decide) (by decide) (pq_kp e1 (by decide)))) (by decide)) hP5 (by rw [tr_ups]; exact ((hbS dn (Nat.le_refl _)).1.or (hbS dn (Nat.le_refl _)).2)) (by rw [tr_upn (by omega), tr_upn (by omega)]; exact (hbS (dn - 1) (Nat.sub_le _ _)).2) f0 ?_ ce se) ml_X6_115 ha_57 (by decide) rfl (Nat.le_of_ble_eq_true rfl) ⟨Nat.le_of_ble_eq_true rfl, Nat.le_of_ble_eq_true rfl⟩ ⟨by decide, by decide⟩ dX6_closeGroup_71 (fun v71 S71 w71 => ?_)
    · exact ha_57
    · focus ((try clear hB); (try clear hB3); (try clear hB5); (try clear hC); (try clear hC3); (try clear hC5); (try clear hC6); (try clear hC7); (try clear hC8); (try clear hP); (try clear hP3); (try clear hP5); (try clear hbS); (try clear hEa); (try clear hEan); (try clear hrun); (try clear p23); (try clear p26); (try clear p30); (try clear hEc); (try clear hEcn); (try clear hEq); (try clear hEqn); (try clear hEc2); (try clear hEc2n); (try clear hdist); (try clear p31); (try clear p39); (try clear p42); (try clear p54); (try clear p57); (try clear p71); (try clear hEam); (try clear hE5); simp only [vp_in_iff, Int32.lt_iff_toInt_lt, Int32.le_iff_toInt_le, ← Int32.toInt_inj, Int32.toInt_add, Int32.toInt_sub, Int32.toInt_mul, Int32.toInt_neg, pq_NuO, pq_NuI, pq_NuJ, pq_NuR, pq_shr6, pq_shr7, pq_shr8, lqm1, lq0, lq1] at *; (try simp (disch := omega) only [pq_bm] at *); all_goals omega)
    · focus ((try clear hB); (try clear hB3); (try clear hB5); (try clear hC); (try clear hC3); (try clear hC5); (try clear hC6); (try clear hC7); (try clear hC8); (try clear hP); (try clear hP3); (try clear hP5); (try clear hbS); (try clear hEa); (try clear hEan); (try clear hrun); (try clear p23); (try clear p26); (try clear p30); (try clear hEc); (try clear hEcn); (try clear hEq); (try clear hEqn); (try clear hEc2); (try clear hEc2n); (try clear hdist); (try clear p31); (try clear p39); (try clear p42); (try clear p54); (try clear p57); (try clear p71); (try clear hEam); (try clear hE5); simp only [vp_in_iff, Int32.lt_iff_toInt_lt, Int32.le_iff_toInt_le, ← Int32.toInt_inj, Int32.toInt_add, Int32.toInt_sub, Int32.toInt_mul, Int32.toInt_neg, pq_NuO, pq_NuI, pq_NuJ, pq_NuR, pq_shr6, pq_shr7, pq_shr8, lqm1, lq0, lq1] at *; (try simp (disch := omega) only [pq_bm] at *); all_goals omega)
    · focus ((try clear hB); (try clear hB3); (try clear hB5); (try clear hC); (try clear hC3); (try clear hC5); (try clear hC6); (try clear hC7); (try clear hC8); (try clear hP); (try clear hP3); (try clear hP5); (try clear hbS); (try clear hEa); (try clear hEan); (try clear hrun); (try clear p23); (try clear p26); (try clear p30); (try clear hEc); (try clear hEcn); (try clear hEq); (try clear hEqn); (try clear hEc2); (try clear hEc2n); (try clear hdist); (try clear p31); (try clear p39); (try clear p42); (try clear p54); (try clear p57); (try clear p71); (try clear hEam); (try clear hE5); simp only [vp_in_iff, Int32.lt_iff_toInt_lt, Int32.le_iff_toInt_le, ← Int32.toInt_inj, Int32.toInt_add, Int32.toInt_sub, Int32.toInt_mul, Int32.toInt_neg, pq_NuO, pq_NuI, pq_NuJ, pq_NuR, pq_shr6, pq_shr7, pq_shr8, lqm1, lq0, lq1] at *; (try simp (disch := omega) only [pq_bm] at *); all_goals omega)
    · focus ((try clear hB); (try clear hB3); (try clear hB5); (try clear hC); (try clear hC3); (try clear hC5); (try clear hC6); (try clear hC7); (try clear hC8); (try clear hP); (try clear hP3); (try clear hP5); (try clear hbS); (try clear hEa); (try clear hEan); (try clear hrun); (try clear p23); (try clear p26); (try clear p30); (try clear hEc); (try clear hEcn); (try clear hEq); (try clear hEqn); (try clear hEc2); (try clear hEc2n); (try clear hdist); (try clear p31); (try clear p39); (try clear p42); (try clear p54); (try clear p57); (try clear p71); (try clear hEam); (try clear hE5); simp only [vp_in_iff, Int32.lt_iff_toInt_lt, Int32.le_iff_toInt_le, ← Int32.toInt_inj, Int32.toInt_add, Int32.toInt_sub, Int32.toInt_mul, Int32.toInt_neg, pq_NuO, pq_NuI, pq_NuJ, pq_NuR, pq_shr6, pq_shr7, pq_shr8, lqm1, lq0, lq1] at *; (try simp (disch := omega) only [pq_bm] at *); all_goals omega)
    obtain ⟨rfl, hF71, p71⟩ := w71
    have ha_71 := (hF71.1 _ _ ha_57 (by decide)).1
    have hz_71 := (hF71.1 _ _ hz_57 (by decide)).1
    have ec71_2_ha_71 := hF71.O ha_57 (by decide) (by decide) (pq_kp ec57_2_ha_57 (by decide))
    have hz_42z_71 := (hF71.1 _ _ hz_42z_57 (by decide)).1
    have ec71_3_ha_71 := hF71.O ha_57 (by decide) (by decide) (pq_kp ec57_3_ha_57 (by decide))
    have hz_42zz_71 := (hF71.1 _ _ hz_42zz_57 (by decide)).1
    have ec71_0_ha_71 := hF71.O ha_57 (by decide) (by decide) (pq_kp ec57_0_ha_57 (by decide))
    have ec71_7_ha_71 := hF71.O ha_57 (by decide) (by decide) (pq_kp ec57_7_ha_57 (by decide))
    have ec71_1_hz_42zz_71 := hF71.O hz_42zz_57 (by decide) (by decide) (pq_ko ec57_1_hz_42zz_57 hz_42zz_57 ha_57 (by decide))
    have hpl_71 := (hF71.1 _ _ hpl_57 (by decide)).1
    have ec71_1_ha_71 := hF71.O ha_57 (by decide) (by decide) (pq_kp ec57_1_ha_57 (by decide))
    have ham_71 := (hF71.1 _ _ ham_57 (by decide)).1
    have ec71_4_ha_71 := hF71.O ha_57 (by decide) (by decide) (pq_kp ec57_4_ha_57 (by decide))
    have ec71_6_ha_71 := hF71.O ha_57 (by decide) (by decide) pq_ks
    simp only [pq_IuO] at p71
    rw [hF57.I (hF42.R hgb (by decide)) (by decide) (by decide), hF42.I hgb (by decide) (by decide)] at p71
    simp only [pq_IuO] at p71
    rw [tr_ups] at p71
    exact pq_vret F hr hlk hA (Nat.le_refl _) (Nat.le_refl _) ((by obtain ⟨at2, k3, f3, A3, F3, EE2, q1, q2, q3, q4, q5, ⟨q6, q7⟩, q8, q9⟩ := p71; rw [tr_upn (show 2 * (dn - 1) + 2 ≠ 0 by omega), tr_upn (show 2 * (dn - 1) + 2 ≠ 2 * dn + 1 by omega)] at q6 q8; exact ⟨rfl, (((((pq_Fr.rf.uO ha (by decide)).cm hF42 (by decide)).cm hF57 (by decide)).uO ha_57 (by decide)).cm hF71 (by decide)), _, _, Or.inr ⟨hdz, rfl, rfl, at2, k3, f3, A3, F3, EE2, q1, q2, q3, q4, q5, ⟨q6, fun j j1 j2 j3 => (by rw [q7 j j1 j3, tr_upn j1, tr_upn j2])⟩, q8, q9⟩⟩)) dX6_closeGroup_74
  · skip
    refine pq_aload_n F dX6_closeGroup_7 rfl rfl ?_
    refine pq_aload_n F dX6_closeGroup_8 rfl rfl ?_
    refine pq_get F ha (by decide) lk_X6_38 hB.e5 dX6_closeGroup_9 ?_
    refine pq_putI F ha (by decide) lp_X6_42 rfl (pq_any1 _) (pq_any2 _) dX6_closeGroup_12 ?_
    exact pq_vret F hr hlk hA (Nat.le_refl _) (Nat.le_refl _) (⟨rfl, (pq_Fr.rf.uO ha (by decide)), dp, _, Or.inl ⟨(by focus ((try clear hB); (try clear hB3); (try clear hB5); (try clear hC); (try clear hC3); (try clear hC5); (try clear hC6); (try clear hC7); (try clear hC8); (try clear hP); (try clear hP3); (try clear hP5); (try clear hbS); (try clear hEa); (try clear hEan); (try clear hrun); (try clear p23); (try clear p26); (try clear p30); (try clear hEc); (try clear hEcn); (try clear hEq); (try clear hEqn); (try clear hEc2); (try clear hEc2n); (try clear hdist); (try clear p31); (try clear p39); (try clear p42); (try clear p54); (try clear p57); (try clear p71); (try clear hEam); (try clear hE5); simp only [vp_in_iff, Int32.lt_iff_toInt_lt, Int32.le_iff_toInt_le, ← Int32.toInt_inj, Int32.toInt_add, Int32.toInt_sub, Int32.toInt_mul, Int32.toInt_neg, pq_NuO, pq_NuI, pq_NuJ, pq_NuR, pq_shr6, pq_shr7, pq_shr8, lqm1, lq0, lq1] at *; (try simp (disch := omega) only [pq_bm] at *); all_goals omega)), rfl, ⟨at1, hB.p7⟩, hC.fr ((pq_Fr.rf (M := [(9, 7)]) (S := S)).uO ha (by decide)) hB.h2 hB.h3 (by decide)⟩⟩) dX6_closeGroup_15

