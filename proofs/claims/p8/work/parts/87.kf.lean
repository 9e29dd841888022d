/-- the Ends that the reader knows: 0 the atom, 2 d + 1 the choices, 2 d + 2 the sequences of level d, 83 the whole -/
def tk_nm (S : HS) (ch sq am wh i : Nat) : Option Nat := if i = 0 then some am else if i = 83 then some wh else if i % 2 = 1 then hR S ch (i / 2) else hR S sq (i / 2 - 1)
def tk_Co (S : HS) (ch sq am wh : Nat) (hh tt : Nat → Nat) (EE : Nat → tq_E) : Prop := (∀ i b, i ≤ 83 → tk_nm S ch sq am wh i = some b → tk_En S b (hh i) (tt i) (EE i)) ∧ ∀ i j b c, i ≤ 83 → j ≤ 83 → i ≠ j → tk_nm S ch sq am wh i = some b → tk_nm S ch sq am wh j = some c → b ≠ c ∧ hh i ≠ hh j ∧ tt i ≠ tt j
theorem tk_nm0 {S : HS} {ch sq am wh : Nat} : tk_nm S ch sq am wh 0 = some am := if_pos rfl
theorem tk_nmw {S : HS} {ch sq am wh : Nat} : tk_nm S ch sq am wh 83 = some wh := by unfold tk_nm; rw [if_neg (by decide), if_pos rfl]
theorem tk_nmc {S : HS} {ch sq am wh d : Nat} (hd : d ≤ 40) : tk_nm S ch sq am wh (2 * d + 1) = hR S ch d := by
  unfold tk_nm
  rw [if_neg (by omega), if_neg (by omega), if_pos (by omega), show (2 * d + 1) / 2 = d by omega]
theorem tk_nmq {S : HS} {ch sq am wh d : Nat} (hd : d ≤ 40) : tk_nm S ch sq am wh (2 * d + 2) = hR S sq d := by
  unfold tk_nm
  rw [if_neg (by omega), if_neg (by omega), if_neg (by omega), show (2 * d + 2) / 2 - 1 = d by omega]
section CO
variable {S S2 : HS} {ch sq am wh : Nat} {hh tt : Nat → Nat} {EE : Nat → tq_E}
theorem tk_nm.e {S S2 : HS} {ch sq am wh i : Nat} (h1 : hR S2 ch = hR S ch) (h2 : hR S2 sq = hR S sq) : tk_nm S2 ch sq am wh i = tk_nm S ch sq am wh i := by
  unfold tk_nm; rw [h1, h2]
/-- one of them changes -/
theorem tk_Co.af {i b : Nat} {E : tq_E} (h : tk_Co S ch sq am wh hh tt EE) (hi : i ≤ 83) (hb : tk_nm S ch sq am wh i = some b) (hA : tk_AF S S2 b (hh i) (tt i)) (hE : tk_En S2 b (hh i) (tt i) E) : tk_Co S2 ch sq am wh hh tt (tr_up EE i E) := by
  have en : ∀ j, tk_nm S2 ch sq am wh j = tk_nm S ch sq am wh j := fun j => tk_nm.e (by rw [hA.2.2.1]) (by rw [hA.2.2.1])
  have hEi := h.1 i b hi hb
  refine ⟨fun j c hj hc => ?_, fun j k c d hj hk hn hc hd => ?_⟩
  · rw [en j] at hc
    by_cases e : j = i
    · subst e
      rw [hb] at hc
      cases hc
      rw [tr_ups]
      exact hE
    · rw [tr_upn e]
      have hEj := h.1 j c hj hc
      obtain ⟨n1, n2, n3⟩ := h.2 j i c b hj hi e hc hb
      exact hEj.ot hA n1 n2 n3 (pq_nrole hEj.r0 hEi.r1 (by decide)) (pq_nrole hEj.r1 hEi.r0 (by decide))
  · rw [en j] at hc
    rw [en k] at hd
    exact h.2 j k c d hj hk hn hc hd
theorem tk_Co.fr {M : List (Nat × Nat)} (h : tk_Co S ch sq am wh hh tt EE) (hF : pq_Fr M S S2) (h1 : pq_R S ch 230) (h2 : pq_R S sq 231) (hM : ∀ q ∈ [(5, 0), (5, 1), (5, 2), (190, 0), (191, 0), (230, 0), (231, 0)], q ∉ M) : tk_Co S2 ch sq am wh hh tt EE := by
  have en : ∀ j, tk_nm S2 ch sq am wh j = tk_nm S ch sq am wh j := fun j => tk_nm.e (hF.2.2 ch 230 h1 (by decide) (hM _ (by decide))).2.2 (hF.2.2 sq 231 h2 (by decide) (hM _ (by decide))).2.2
  refine ⟨fun j c hj hc => ?_, fun j k c d hj hk hn hc hd => ?_⟩
  · rw [en j] at hc
    exact (h.1 j c hj hc).fr hF (hM _ (by decide)) (hM _ (by decide)) (hM _ (by decide)) (hM _ (by decide)) (hM _ (by decide))
  · rw [en j] at hc
    rw [en k] at hd
    exact h.2 j k c d hj hk hn hc hd
/-- a level's Ends is made -/
theorem tk_Co.new {M : List (Nat × Nat)} {i x h t : Nat} (h0 : tk_Co S ch sq am wh hh tt EE) (hF : pq_Fr M S S2) (hM : ∀ q ∈ [(5, 0), (5, 1), (5, 2), (190, 0), (191, 0)], q ∉ M) (hn : ∀ j, j ≠ i → tk_nm S2 ch sq am wh j = tk_nm S ch sq am wh j) (hi : tk_nm S2 ch sq am wh i = some x) (hx : x ∉ S.1) (hh0 : h ∉ S.1) (ht0 : t ∉ S.1) (hE : tk_En S2 x h t tq_e0) : tk_Co S2 ch sq am wh (tr_up hh i h) (tr_up tt i t) (tr_up EE i tq_e0) := by
  have old : ∀ j c, j ≠ i → j ≤ 83 → tk_nm S2 ch sq am wh j = some c → tk_En S c (hh j) (tt j) (EE j) := fun j c e hj hc => h0.1 j c hj (by rw [← hn j e]; exact hc)
  refine ⟨fun j c hj hc => ?_, fun j k c d hj hk hne hc hd => ?_⟩
  · by_cases e : j = i
    · subst e
      rw [hi] at hc
      cases hc
      rw [tr_ups, tr_ups, tr_ups]
      exact hE
    · rw [tr_upn e, tr_upn e, tr_upn e]
      exact (old j c e hj hc).fr hF (hM _ (by decide)) (hM _ (by decide)) (hM _ (by decide)) (hM _ (by decide)) (hM _ (by decide))
  · by_cases e : j = i
    · subst e
      rw [hi] at hc
      cases hc
      have o := old k d (Ne.symm hne) hk hd
      rw [tr_ups, tr_ups, tr_upn (Ne.symm hne), tr_upn (Ne.symm hne)]
      exact ⟨fun z => hx (z ▸ o.r.1), fun z => hh0 (z ▸ o.r0.1), fun z => ht0 (z ▸ o.r1.1)⟩
    · by_cases e2 : k = i
      · subst e2
        rw [hi] at hd
        cases hd
        have o := old j c e hj hc
        rw [tr_ups, tr_ups, tr_upn e, tr_upn e]
        exact ⟨fun z => hx (z ▸ o.r.1), fun z => hh0 (z ▸ o.r0.1), fun z => ht0 (z ▸ o.r1.1)⟩
      · rw [tr_upn e, tr_upn e, tr_upn e2, tr_upn e2]
        exact h0.2 j k c d hj hk hne (by rw [← hn j e]; exact hc) (by rw [← hn k e2]; exact hd)
end CO
/-- the levels up to dp, as the reading names them -/
def tk_Le (S : HS) (ch sq am wh dp : Nat) (A : tq_E) (ce se : Nat → tq_E) : Prop := ∃ (hh tt : Nat → Nat) (EE : Nat → tq_E), tk_Co S ch sq am wh hh tt EE ∧ EE 0 = A ∧ ∀ d, d ≤ dp → EE (2 * d + 1) = ce d ∧ EE (2 * d + 2) = se d
theorem tk_Le.fr {S S2 : HS} {ch sq am wh dp : Nat} {A : tq_E} {ce se : Nat → tq_E} {M : List (Nat × Nat)} (h : tk_Le S ch sq am wh dp A ce se) (hF : pq_Fr M S S2) (h1 : pq_R S ch 230) (h2 : pq_R S sq 231) (hM : ∀ q ∈ [(5, 0), (5, 1), (5, 2), (190, 0), (191, 0), (230, 0), (231, 0)], q ∉ M) : tk_Le S2 ch sq am wh dp A ce se := by
  obtain ⟨hh, tt, EE, a, b⟩ := h
  exact ⟨hh, tt, EE, a.fr hF h1 h2 hM, b⟩

set_option maxHeartbeats 4000000 in
set_option maxRecDepth 100000 in
theorem k_X2_initG (l : Launch) (D : va_G) (cy : Nat → ClassId) (S : HS) (a : Nat) (ha : pq_R S a 65) (e2 : hO S a 2 = .int 0) : pq_C l D cy yX2_init cX2_init 1 (none) 1 2 14 S [.ref a] (fun v S2 => v = none ∧ pq_G a S S2 ∧ pq_R S2 a 5 ∧ (∃ h t : Nat, h ∉ S.1 ∧ t ∉ S.1 ∧ tk_En S2 a h t tq_e0)) := by
  refine pq_start (by decide) (Nat.le_of_ble_eq_true rfl) ?_
  intro p e s m args below meth c A F hr hlk hnm hA
  have lqm1 : (-1 : Int32).toInt = -1 := rfl
  have lq0 : (0 : Int32).toInt = 0 := rfl
  have lq1 : (1 : Int32).toInt = 1 := rfl
  have lq7 : (7 : Int32).toInt = 7 := rfl
  refine pq_aload_n F dX2_init_0 rfl rfl ?_
  refine pq_objI F ow_X2_3 ⟨Nat.le_of_ble_eq_true rfl, Nat.le_of_ble_eq_true rfl⟩ dX2_init_1 ?_
  refine pq_aload_n F dX2_init_4 rfl rfl ?_
  refine pq_bipush (v := 7) F dX2_init_5 (by decide) ?_
  refine pq_newJ F (r := 190) (n := 7) (by decide) (by decide) ac_long rfl (by decide) (by focus (simp only [vp_in_iff, Int32.lt_iff_toInt_lt, Int32.le_iff_toInt_le, ← Int32.toInt_inj, Int32.toInt_add, Int32.toInt_sub, Int32.toInt_mul, Int32.toInt_neg, pq_NuO, pq_NuI, pq_NuJ, pq_NuR, pq_shr6, pq_shr7, pq_shr8, lqm1, lq0, lq1, lq7] at *; (try simp (disch := omega) only [pq_bm] at *); all_goals omega)) rfl (by decide) (by decide) (Nat.le_of_ble_eq_true rfl) (Nat.le_of_ble_eq_true rfl) dX2_init_7 (fun q7 nq7 h7 => ?_)
  have ha_7 := pq_nR (r := 190) (n := 7) (ds := (fun _ => Value.null)) nq7 ha
  refine pq_putF F hnm ha_7 (by decide) lf_X2_9 rfl rfl (show pq_ok (pq_ft 65 0) _ _ from trivial) dX2_init_9 ?_
  refine pq_aload_n F dX2_init_12 rfl rfl ?_
  refine pq_bipush (v := 7) F dX2_init_13 (by decide) ?_
  refine pq_newJ F (r := 191) (n := 7) (by decide) (by decide) ac_long rfl (by decide) (by focus (simp only [vp_in_iff, Int32.lt_iff_toInt_lt, Int32.le_iff_toInt_le, ← Int32.toInt_inj, Int32.toInt_add, Int32.toInt_sub, Int32.toInt_mul, Int32.toInt_neg, pq_NuO, pq_NuI, pq_NuJ, pq_NuR, pq_shr6, pq_shr7, pq_shr8, lqm1, lq0, lq1, lq7] at *; (try simp (disch := omega) only [pq_bm] at *); all_goals omega)) rfl (by decide) (by decide) (Nat.le_of_ble_eq_true rfl) (Nat.le_of_ble_eq_true rfl) dX2_init_15 (fun q15 nq15 h15 => ?_)
  have ha_15 := pq_nR (r := 191) (n := 7) (ds := (fun _ => Value.null)) nq15 ha_7
  have h7_15 := pq_nR (r := 191) (n := 7) (ds := (fun _ => Value.null)) nq15 h7
  refine pq_putF F hnm ha_15 (by decide) lf_X2_15 rfl rfl (show pq_ok (pq_ft 65 1) _ _ from trivial) dX2_init_17 ?_
  refine pq_prom (r := 5) ha_15 (by decide) (by decide) (by decide) rfl (fun k => match k with | 0 => (show pq_ok (pq_ft 5 0) _ _ from ⟨by decide, _, (pq_kp (pq_nO nq15 ha_7 pq_ks) (by decide)), h7_15⟩) | 1 => (show pq_ok (pq_ft 5 1) _ _ from ⟨by decide, _, pq_ks, h15⟩) | 2 => (show pq_ok (1, 0, 1) _ _ from ⟨_, (pq_kp (pq_nO nq15 ha_7 (pq_kp (pq_nO nq7 ha e2) (by decide))) (by decide)), (by focus (simp only [vp_in_iff, Int32.lt_iff_toInt_lt, Int32.le_iff_toInt_le, ← Int32.toInt_inj, Int32.toInt_add, Int32.toInt_sub, Int32.toInt_mul, Int32.toInt_neg, pq_NuO, pq_NuI, pq_NuJ, pq_NuR, pq_shr6, pq_shr7, pq_shr8, lqm1, lq0, lq1, lq7] at *; (try simp (disch := omega) only [pq_bm] at *); all_goals omega)), (by focus (simp only [vp_in_iff, Int32.lt_iff_toInt_lt, Int32.le_iff_toInt_le, ← Int32.toInt_inj, Int32.toInt_add, Int32.toInt_sub, Int32.toInt_mul, Int32.toInt_neg, pq_NuO, pq_NuI, pq_NuJ, pq_NuR, pq_shr6, pq_shr7, pq_shr8, lqm1, lq0, lq1, lq7] at *; (try simp (disch := omega) only [pq_bm] at *); all_goals omega))⟩) | _ + 3 => trivial) ?_
  have hpr := pq_rrR (r := 5) ha_15
  exact pq_vret F hr hlk hA (Nat.le_refl _) (Nat.le_refl _) ((by have n15 : q15 ∉ S.1 := (fun w => nq15 (List.mem_append_left _ w)); have ne7 : q7 ≠ q15 := (fun e => nq15 (by rw [← e]; exact List.mem_append_right _ List.mem_cons_self)); exact ⟨rfl, ((pq_G.rf.nw nq7).uO.nw nq15).uO.rr, hpr, q7, q15, nq7, n15, ⟨hpr, (pq_kp (pq_nO nq15 ha_7 pq_ks) (by decide)), (pq_rrO (a := a) (r := 5) h7_15 (pq_nrole h7_15 ha_15 (by decide))), pq_ks, (pq_rrO (a := a) (r := 5) h15 (pq_nrole h15 ha_15 (by decide)))⟩, ⟨0, (pq_kp (pq_nO nq15 ha_7 (pq_kp (pq_nO nq7 ha e2) (by decide))) (by decide)), Or.inl rfl, ⟨False.elim, fun w => absurd w (by decide)⟩⟩, (fun q => ⟨False.elim, fun w => absurd w (tk_bit.z (fun w9 hv9 => congrFun ((va_up_ne _ _ ne7).trans (va_up_self _ _ _)) _))⟩), (fun q => ⟨False.elim, fun w => absurd w (tk_bit.z (fun w9 hv9 => congrFun (va_up_self _ _ _) _))⟩)⟩)) dX2_init_20

set_option maxHeartbeats 4000000 in
set_option maxRecDepth 100000 in
theorem k_X6_hereCN (l : Launch) (D : va_G) (cy : Nat → ClassId) (S : HS) (a : Nat) (ha : pq_R S a 9) (lv : Nat) (hlv : pq_R S lv 230) (dp : Int32) (e6 : hO S a 6 = .int dp) (hd0 : 0 ≤ dp.toInt) (hd1 : dp.toInt ≤ 40) : pq_C l D cy yX6_here cX6_here 2 (some (.object "PatternPairs$Ends")) 2 3 17 S [.ref a, .ref lv] (fun v S2 => pq_Fr [(230, 0)] S S2 ∧ ∃ x : Nat, v = some (.ref x) ∧ pq_R S2 x 5 ∧ (hR S2 lv dp.toNatClampNeg = some x ∧ (∀ i : Nat, i ≠ dp.toNatClampNeg → hR S2 lv i = hR S lv i) ∧ ((hR S lv dp.toNatClampNeg = some x ∧ S2 = S) ∨ (hR S lv dp.toNatClampNeg = none ∧ x ∉ S.1 ∧ ∃ h t : Nat, h ∉ S.1 ∧ t ∉ S.1 ∧ tk_En S2 x h t tq_e0)))) := by
  refine pq_start (by decide) (Nat.le_of_ble_eq_true rfl) ?_
  intro p e s m args below meth c A F hr hlk hnm hA
  have lqm1 : (-1 : Int32).toInt = -1 := rfl
  have lq0 : (0 : Int32).toInt = 0 := rfl
  have lq1 : (1 : Int32).toInt = 1 := rfl
  refine pq_aload_n F dX6_here_0 rfl rfl ?_
  refine pq_aload_n F dX6_here_1 rfl rfl ?_
  refine pq_get F ha (by decide) lk_X6_45 e6 dX6_here_2 ?_
  refine pq_aald F hlv (by decide) (fun n1_5 n2_5 => (by change _ ≤ _ at n1_5; change _ ≤ 41 at n2_5; change 41 ≤ _ at n1_5; focus ((try clear k5); (try clear k27); (try clear e5); (try clear e27); (try clear p18); simp only [vp_in_iff, Int32.lt_iff_toInt_lt, Int32.le_iff_toInt_le, ← Int32.toInt_inj, Int32.toInt_add, Int32.toInt_sub, Int32.toInt_mul, Int32.toInt_neg, pq_NuO, pq_NuI, pq_NuJ, pq_NuR, pq_shr6, pq_shr7, pq_shr8, lqm1, lq0, lq1] at *; (try simp (disch := omega) only [pq_bm] at *); all_goals omega))) dX6_here_5 (fun o5 e5 k5 => ?_)
  rcases o5 with _ | b5
  · skip
    refine pq_nonnullN F dX6_here_6 ?_
    refine pq_aload_n F dX6_here_9 rfl rfl ?_
    refine pq_aload_n F dX6_here_10 rfl rfl ?_
    refine pq_get F ha (by decide) lk_X6_45 e6 dX6_here_11 ?_
    refine pq_newO F nw_X6_9 (by decide) (fun _ => rfl) (Nat.le_of_ble_eq_true rfl) (Nat.le_of_ble_eq_true rfl) dX6_here_14 (fun q14 nq14 h14 => ?_)
    have ha_14 := pq_nR (r := 65) (n := 0) (ds := (fun k => defaultValue (tyX2 k))) nq14 ha
    have hlv_14 := pq_nR (r := 65) (n := 0) (ds := (fun k => defaultValue (tyX2 k))) nq14 hlv
    refine pq_dup F dX6_here_17 rfl ?_
    refine pq_callI (As := []) F (k_X2_initG l D cy _ _ ?_ (show va_up S.2.2.1 q14 _ q14 2 = _ by rw [va_up_self]; rfl)) ml_X6_20 (Nat.le_of_ble_eq_true rfl) ⟨Nat.le_of_ble_eq_true rfl, Nat.le_of_ble_eq_true rfl⟩ ⟨Nat.le_of_ble_eq_true rfl, Nat.le_of_ble_eq_true rfl⟩ dX6_here_18 (fun v18 S18 w18 => ?_)
    · exact h14
    obtain ⟨rfl, hG18, hy18, p18⟩ := w18
    have ha_18 := (hG18 _ _ ha_14 (pq_nrole ha_14 h14 (by decide))).1
    have hlv_18 := (hG18 _ _ hlv_14 (pq_nrole hlv_14 h14 (by decide))).1
    have ec18_6_ha_18 := hG18.e ha_14 (pq_nrole ha_14 h14 (by decide)) (pq_nO nq14 ha e6)
    refine pq_aast F hlv_18 (by decide) hy18 (by decide) rfl (fun n1_21 n2_21 => (by change _ ≤ 41 at n2_21; change 41 ≤ _ at n1_21; focus ((try clear k5); (try clear k27); (try clear e5); (try clear e27); (try clear p18); simp only [vp_in_iff, Int32.lt_iff_toInt_lt, Int32.le_iff_toInt_le, ← Int32.toInt_inj, Int32.toInt_add, Int32.toInt_sub, Int32.toInt_mul, Int32.toInt_neg, pq_NuO, pq_NuI, pq_NuJ, pq_NuR, pq_shr6, pq_shr7, pq_shr8, lqm1, lq0, lq1] at *; (try simp (disch := omega) only [pq_bm] at *); all_goals omega))) (⟨fun z => absurd z (by decide), fun _ b hb => (by cases hb; exact hy18)⟩) dX6_here_21 ?_
    refine pq_aload_n F dX6_here_22 rfl rfl ?_
    refine pq_aload_n F dX6_here_23 rfl rfl ?_
    refine pq_get F ha_18 (by decide) lk_X6_45 ec18_6_ha_18 dX6_here_24 ?_
    refine pq_aald F hlv_18 (by decide) (fun n1_27 n2_27 => (by change _ ≤ _ at n1_27; change _ ≤ 41 at n2_27; change 41 ≤ _ at n1_27; focus ((try clear k5); (try clear k27); (try clear e5); (try clear e27); (try clear p18); simp only [vp_in_iff, Int32.lt_iff_toInt_lt, Int32.le_iff_toInt_le, ← Int32.toInt_inj, Int32.toInt_add, Int32.toInt_sub, Int32.toInt_mul, Int32.toInt_neg, pq_NuO, pq_NuI, pq_NuJ, pq_NuR, pq_shr6, pq_shr7, pq_shr8, lqm1, lq0, lq1] at *; (try simp (disch := omega) only [pq_bm] at *); all_goals omega))) dX6_here_27 (fun o27 e27 k27 => ?_)
    have e27b : o27 = some q14 := e27.trans (by show va_up S18.2.2.2.2.2.2 lv (va_up (hR S18 lv) dp.toNatClampNeg (some q14)) lv dp.toNatClampNeg = _; rw [va_up_self, va_up_self])
    subst e27b
    have h27 : pq_R _ q14 5 := hy18
    exact pq_aret F hr (by first | exact Or.inl ⟨_, rfl⟩ | exact Or.inr ⟨_, rfl⟩) hlk hA (Nat.le_of_ble_eq_true rfl) (Nat.le_of_ble_eq_true rfl) (⟨((pq_Fr.rf.gn nq14 hG18).uR hlv_18 (by decide)), q14, rfl, h27, (by show va_up S18.2.2.2.2.2.2 lv _ lv dp.toNatClampNeg = _; rw [va_up_self, va_up_self]), (fun i hi => (by show va_up S18.2.2.2.2.2.2 lv _ lv i = _; rw [va_up_self, va_up_ne _ _ hi]; have z := (hG18 lv 230 hlv_14 (pq_nrole hlv_14 h14 (by decide))).2.2.2.2.2; exact (congrFun z i).trans (by show va_up S.2.2.2.2.2.2 q14 _ lv i = _; rw [va_up_ne _ _ (pq_nrole hlv_14 h14 (by decide))]))), (by obtain ⟨h9, t9, hn9, tn9, hE9⟩ := p18; exact Or.inr ⟨e5.symm, nq14, h9, t9, fun w => hn9 (List.mem_append_left _ w), fun w => tn9 (List.mem_append_left _ w), hE9⟩)⟩) dX6_here_28
  · skip
    have h5 : pq_R S b5 5 := k5.2 (Or.inl rfl) b5 rfl
    refine pq_nonnull (tgt := 22) F dX6_here_6 (by decide) ?_
    refine pq_aload_n F dX6_here_22 rfl rfl ?_
    refine pq_aload_n F dX6_here_23 rfl rfl ?_
    refine pq_get F ha (by decide) lk_X6_45 e6 dX6_here_24 ?_
    refine pq_aald F hlv (by decide) (fun n1_27 n2_27 => (by change _ ≤ _ at n1_27; change _ ≤ 41 at n2_27; change 41 ≤ _ at n1_27; focus ((try clear k5); (try clear k27); (try clear e5); (try clear e27); (try clear p18); simp only [vp_in_iff, Int32.lt_iff_toInt_lt, Int32.le_iff_toInt_le, ← Int32.toInt_inj, Int32.toInt_add, Int32.toInt_sub, Int32.toInt_mul, Int32.toInt_neg, pq_NuO, pq_NuI, pq_NuJ, pq_NuR, pq_shr6, pq_shr7, pq_shr8, lqm1, lq0, lq1] at *; (try simp (disch := omega) only [pq_bm] at *); all_goals omega))) dX6_here_27 (fun o27 e27 k27 => ?_)
    rw [← e5] at e27
    subst e27
    have h27 : pq_R S b5 5 := h5
    exact pq_aret F hr (by first | exact Or.inl ⟨_, rfl⟩ | exact Or.inr ⟨_, rfl⟩) hlk hA (Nat.le_of_ble_eq_true rfl) (Nat.le_of_ble_eq_true rfl) (⟨pq_Fr.rf, b5, rfl, h27, e5.symm, fun _ _ => rfl, Or.inl ⟨e5.symm, rfl⟩⟩) dX6_here_28

set_option maxHeartbeats 4000000 in
set_option maxRecDepth 100000 in
theorem k_X6_hereQN (l : Launch) (D : va_G) (cy : Nat → ClassId) (S : HS) (a : Nat) (ha : pq_R S a 9) (lv : Nat) (hlv : pq_R S lv 231) (dp : Int32) (e6 : hO S a 6 = .int dp) (hd0 : 0 ≤ dp.toInt) (hd1 : dp.toInt ≤ 40) : pq_C l D cy yX6_here cX6_here 2 (some (.object "PatternPairs$Ends")) 2 3 17 S [.ref a, .ref lv] (fun v S2 => pq_Fr [(231, 0)] S S2 ∧ ∃ x : Nat, v = some (.ref x) ∧ pq_R S2 x 5 ∧ (hR S2 lv dp.toNatClampNeg = some x ∧ (∀ i : Nat, i ≠ dp.toNatClampNeg → hR S2 lv i = hR S lv i) ∧ ((hR S lv dp.toNatClampNeg = some x ∧ S2 = S) ∨ (hR S lv dp.toNatClampNeg = none ∧ x ∉ S.1 ∧ ∃ h t : Nat, h ∉ S.1 ∧ t ∉ S.1 ∧ tk_En S2 x h t tq_e0)))) := by
  refine pq_start (by decide) (Nat.le_of_ble_eq_true rfl) ?_
  intro p e s m args below meth c A F hr hlk hnm hA
  have lqm1 : (-1 : Int32).toInt = -1 := rfl
  have lq0 : (0 : Int32).toInt = 0 := rfl
  have lq1 : (1 : Int32).toInt = 1 := rfl
  refine pq_aload_n F dX6_here_0 rfl rfl ?_
  refine pq_aload_n F dX6_here_1 rfl rfl ?_
  refine pq_get F ha (by decide) lk_X6_45 e6 dX6_here_2 ?_
  refine pq_aald F hlv (by decide) (fun n1_5 n2_5 => (by change _ ≤ _ at n1_5; change _ ≤ 41 at n2_5; change 41 ≤ _ at n1_5; focus ((try clear k5); (try clear k27); (try clear e5); (try clear e27); (try clear p18); simp only [vp_in_iff, Int32.lt_iff_toInt_lt, Int32.le_iff_toInt_le, ← Int32.toInt_inj, Int32.toInt_add, Int32.toInt_sub, Int32.toInt_mul, Int32.toInt_neg, pq_NuO, pq_NuI, pq_NuJ, pq_NuR, pq_shr6, pq_shr7, pq_shr8, lqm1, lq0, lq1] at *; (try simp (disch := omega) only [pq_bm] at *); all_goals omega))) dX6_here_5 (fun o5 e5 k5 => ?_)
  rcases o5 with _ | b5
  · skip
    refine pq_nonnullN F dX6_here_6 ?_
    refine pq_aload_n F dX6_here_9 rfl rfl ?_
    refine pq_aload_n F dX6_here_10 rfl rfl ?_
    refine pq_get F ha (by decide) lk_X6_45 e6 dX6_here_11 ?_
    refine pq_newO F nw_X6_9 (by decide) (fun _ => rfl) (Nat.le_of_ble_eq_true rfl) (Nat.le_of_ble_eq_true rfl) dX6_here_14 (fun q14 nq14 h14 => ?_)
    have ha_14 := pq_nR (r := 65) (n := 0) (ds := (fun k => defaultValue (tyX2 k))) nq14 ha
    have hlv_14 := pq_nR (r := 65) (n := 0) (ds := (fun k => defaultValue (tyX2 k))) nq14 hlv
    refine pq_dup F dX6_here_17 rfl ?_
    refine pq_callI (As := []) F (k_X2_initG l D cy _ _ ?_ (show va_up S.2.2.1 q14 _ q14 2 = _ by rw [va_up_self]; rfl)) ml_X6_20 (Nat.le_of_ble_eq_true rfl) ⟨Nat.le_of_ble_eq_true rfl, Nat.le_of_ble_eq_true rfl⟩ ⟨Nat.le_of_ble_eq_true rfl, Nat.le_of_ble_eq_true rfl⟩ dX6_here_18 (fun v18 S18 w18 => ?_)
    · exact h14
    obtain ⟨rfl, hG18, hy18, p18⟩ := w18
    have ha_18 := (hG18 _ _ ha_14 (pq_nrole ha_14 h14 (by decide))).1
    have hlv_18 := (hG18 _ _ hlv_14 (pq_nrole hlv_14 h14 (by decide))).1
    have ec18_6_ha_18 := hG18.e ha_14 (pq_nrole ha_14 h14 (by decide)) (pq_nO nq14 ha e6)
    refine pq_aast F hlv_18 (by decide) hy18 (by decide) rfl (fun n1_21 n2_21 => (by change _ ≤ 41 at n2_21; change 41 ≤ _ at n1_21; focus ((try clear k5); (try clear k27); (try clear e5); (try clear e27); (try clear p18); simp only [vp_in_iff, Int32.lt_iff_toInt_lt, Int32.le_iff_toInt_le, ← Int32.toInt_inj, Int32.toInt_add, Int32.toInt_sub, Int32.toInt_mul, Int32.toInt_neg, pq_NuO, pq_NuI, pq_NuJ, pq_NuR, pq_shr6, pq_shr7, pq_shr8, lqm1, lq0, lq1] at *; (try simp (disch := omega) only [pq_bm] at *); all_goals omega))) (⟨fun z => absurd z (by decide), fun _ b hb => (by cases hb; exact hy18)⟩) dX6_here_21 ?_
    refine pq_aload_n F dX6_here_22 rfl rfl ?_
    refine pq_aload_n F dX6_here_23 rfl rfl ?_
    refine pq_get F ha_18 (by decide) lk_X6_45 ec18_6_ha_18 dX6_here_24 ?_
    refine pq_aald F hlv_18 (by decide) (fun n1_27 n2_27 => (by change _ ≤ _ at n1_27; change _ ≤ 41 at n2_27; change 41 ≤ _ at n1_27; focus ((try clear k5); (try clear k27); (try clear e5); (try clear e27); (try clear p18); simp only [vp_in_iff, Int32.lt_iff_toInt_lt, Int32.le_iff_toInt_le, ← Int32.toInt_inj, Int32.toInt_add, Int32.toInt_sub, Int32.toInt_mul, Int32.toInt_neg, pq_NuO, pq_NuI, pq_NuJ, pq_NuR, pq_shr6, pq_shr7, pq_shr8, lqm1, lq0, lq1] at *; (try simp (disch := omega) only [pq_bm] at *); all_goals omega))) dX6_here_27 (fun o27 e27 k27 => ?_)
    have e27b : o27 = some q14 := e27.trans (by show va_up S18.2.2.2.2.2.2 lv (va_up (hR S18 lv) dp.toNatClampNeg (some q14)) lv dp.toNatClampNeg = _; rw [va_up_self, va_up_self])
    subst e27b
    have h27 : pq_R _ q14 5 := hy18
    exact pq_aret F hr (by first | exact Or.inl ⟨_, rfl⟩ | exact Or.inr ⟨_, rfl⟩) hlk hA (Nat.le_of_ble_eq_true rfl) (Nat.le_of_ble_eq_true rfl) (⟨((pq_Fr.rf.gn nq14 hG18).uR hlv_18 (by decide)), q14, rfl, h27, (by show va_up S18.2.2.2.2.2.2 lv _ lv dp.toNatClampNeg = _; rw [va_up_self, va_up_self]), (fun i hi => (by show va_up S18.2.2.2.2.2.2 lv _ lv i = _; rw [va_up_self, va_up_ne _ _ hi]; have z := (hG18 lv 231 hlv_14 (pq_nrole hlv_14 h14 (by decide))).2.2.2.2.2; exact (congrFun z i).trans (by show va_up S.2.2.2.2.2.2 q14 _ lv i = _; rw [va_up_ne _ _ (pq_nrole hlv_14 h14 (by decide))]))), (by obtain ⟨h9, t9, hn9, tn9, hE9⟩ := p18; exact Or.inr ⟨e5.symm, nq14, h9, t9, fun w => hn9 (List.mem_append_left _ w), fun w => tn9 (List.mem_append_left _ w), hE9⟩)⟩) dX6_here_28
  · skip
    have h5 : pq_R S b5 5 := k5.2 (Or.inr rfl) b5 rfl
    refine pq_nonnull (tgt := 22) F dX6_here_6 (by decide) ?_
    refine pq_aload_n F dX6_here_22 rfl rfl ?_
    refine pq_aload_n F dX6_here_23 rfl rfl ?_
    refine pq_get F ha (by decide) lk_X6_45 e6 dX6_here_24 ?_
    refine pq_aald F hlv (by decide) (fun n1_27 n2_27 => (by change _ ≤ _ at n1_27; change _ ≤ 41 at n2_27; change 41 ≤ _ at n1_27; focus ((try clear k5); (try clear k27); (try clear e5); (try clear e27); (try clear p18); simp only [vp_in_iff, Int32.lt_iff_toInt_lt, Int32.le_iff_toInt_le, ← Int32.toInt_inj, Int32.toInt_add, Int32.toInt_sub, Int32.toInt_mul, Int32.toInt_neg, pq_NuO, pq_NuI, pq_NuJ, pq_NuR, pq_shr6, pq_shr7, pq_shr8, lqm1, lq0, lq1] at *; (try simp (disch := omega) only [pq_bm] at *); all_goals omega))) dX6_here_27 (fun o27 e27 k27 => ?_)
    rw [← e5] at e27
    subst e27
    have h27 : pq_R S b5 5 := h5
    exact pq_aret F hr (by first | exact Or.inl ⟨_, rfl⟩ | exact Or.inr ⟨_, rfl⟩) hlk hA (Nat.le_of_ble_eq_true rfl) (Nat.le_of_ble_eq_true rfl) (⟨pq_Fr.rf, b5, rfl, h27, e5.symm, fun _ _ => rfl, Or.inl ⟨e5.symm, rfl⟩⟩) dX6_here_28

