theorem pq_G.nr {a r : Nat} {S S2 : HS} (ha : pq_R S a r) (h6 : 60 ≤ r ∧ r < 100) {b rb : Nat} (hb : pq_R S b rb) (hr : rb < 60 ∨ 100 ≤ rb) : b ≠ a := pq_nrole hb ha (by omega)
theorem tk_En.G {S S2 : HS} {a r b h t : Nat} {E : tq_E} (hE : tk_En S b h t E) (hG : pq_G a S S2) (ha : pq_R S a r) (h6 : 60 ≤ r ∧ r < 100) : tk_En S2 b h t E := by
  have g1 := hG _ _ hE.r (pq_G.nr (S2 := S2) ha h6 hE.r (by decide))
  have g2 := hG _ _ hE.r0 (pq_G.nr (S2 := S2) ha h6 hE.r0 (by decide))
  have g3 := hG _ _ hE.r1 (pq_G.nr (S2 := S2) ha h6 hE.r1 (by decide))
  have e : ∀ k, hO S2 b k = hO S b k := fun k => congrFun g1.2.2.1 k
  refine ⟨⟨g1.1, (e 0).trans hE.a0, g2.1, (e 1).trans hE.a1, g3.1⟩, ?_, fun q => ?_, fun q => ?_⟩
  · obtain ⟨z, x, y⟩ := hE.2.1
    exact ⟨z, (e 2).trans x, y⟩
  · rw [g2.2.2.2.2.1]; exact hE.2.2.1 q
  · rw [g3.2.2.2.2.1]; exact hE.2.2.2 q
theorem tk_Co.beg {S : HS} {ch sq am wh h t h2 t2 : Nat} (hch : ∀ i, hR S ch i = none) (hsq : ∀ i, hR S sq i = none) (h1 : tk_En S am h t tq_e0) (h3 : tk_En S wh h2 t2 tq_e0) (n1 : am ≠ wh) (n2 : h ≠ h2) (n3 : t ≠ t2) : tk_Co S ch sq am wh (fun i => if i = 0 then h else h2) (fun i => if i = 0 then t else t2) (fun _ => tq_e0) := by
  have key : ∀ i b, tk_nm S ch sq am wh i = some b → (i = 0 ∧ am = b) ∨ (i = 83 ∧ wh = b) := fun i b e => by
    unfold tk_nm at e
    by_cases c : i = 0
    · rw [if_pos c] at e; exact Or.inl ⟨c, Option.some.inj e⟩
    · rw [if_neg c] at e
      by_cases c2 : i = 83
      · rw [if_pos c2] at e; exact Or.inr ⟨c2, Option.some.inj e⟩
      · rw [if_neg c2] at e
        by_cases c3 : i % 2 = 1
        · rw [if_pos c3, hch] at e; cases e
        · rw [if_neg c3, hsq] at e; cases e
  refine ⟨fun i b _ e => ?_, fun i j b c _ _ hne e1 e2 => ?_⟩
  · rcases key i b e with ⟨rfl, rfl⟩ | ⟨rfl, rfl⟩
    · exact h1
    · exact h3
  · rcases key i b e1 with ⟨rfl, rfl⟩ | ⟨rfl, rfl⟩ <;> rcases key j c e2 with ⟨rfl, rfl⟩ | ⟨rfl, rfl⟩
    · exact absurd rfl hne
    · exact ⟨n1, n2, n3⟩
    · exact ⟨n1.symm, n2.symm, n3.symm⟩
    · exact absurd rfl hne
/-- the class's parts behind its Reader's constructor -/
def tk_C39 (S : HS) (tb tp rd pl ch sq am wh : Nat) (hh tt : Nat → Nat) : Prop := (pq_R S tp 12 ∧ hO S tp 0 = .ref tb ∧ pq_R S tb 104 ∧ hI S tb = fun _ => 0) ∧ (pq_R S rd 9 ∧ pq_R S pl 8 ∧ hO S rd 2 = .ref ch ∧ pq_R S ch 230 ∧ hO S rd 3 = .ref sq ∧ pq_R S sq 231 ∧ hO S rd 4 = .ref am ∧ hO S pl 2 = .ref wh) ∧ tk_Co S ch sq am wh hh tt (fun _ => tq_e0)
theorem tk_C39.G {S S2 : HS} {a r tb tp rd pl ch sq am wh : Nat} {hh tt : Nat → Nat} (h : tk_C39 S tb tp rd pl ch sq am wh hh tt) (hG : pq_G a S S2) (ha : pq_R S a r) (h6 : 60 ≤ r ∧ r < 100) : tk_C39 S2 tb tp rd pl ch sq am wh hh tt := by
  obtain ⟨⟨a1, a2, a3, a4⟩, ⟨b1, b2, b3, b4, b5, b6, b7, b8⟩, c⟩ := h
  have g1 := hG _ _ a1 (pq_G.nr (S2 := S2) ha h6 a1 (by decide))
  have g3 := hG _ _ a3 (pq_G.nr (S2 := S2) ha h6 a3 (by decide))
  have k1 := hG _ _ b1 (pq_G.nr (S2 := S2) ha h6 b1 (by decide))
  have k2 := hG _ _ b2 (pq_G.nr (S2 := S2) ha h6 b2 (by decide))
  have k4 := hG _ _ b4 (pq_G.nr (S2 := S2) ha h6 b4 (by decide))
  have k6 := hG _ _ b6 (pq_G.nr (S2 := S2) ha h6 b6 (by decide))
  have en : ∀ j, tk_nm S2 ch sq am wh j = tk_nm S ch sq am wh j := fun j => tk_nm.e k4.2.2.2.2.2 k6.2.2.2.2.2
  exact ⟨⟨g1.1, (congrFun g1.2.2.1 0).trans a2, g3.1, g3.2.2.2.1.trans a4⟩, ⟨k1.1, k2.1, (congrFun k1.2.2.1 2).trans b3, k4.1, (congrFun k1.2.2.1 3).trans b5, k6.1, (congrFun k1.2.2.1 4).trans b7, (congrFun k2.2.2.1 2).trans b8⟩, fun i b hi e => (c.1 i b hi (by rw [← en]; exact e)).G hG ha h6, fun i j b d hi hj hne e1 e2 => c.2 i j b d hi hj hne (by rw [← en]; exact e1) (by rw [← en]; exact e2)⟩
theorem tk_C39.w {S : HS} {x tb tp rd pl ch sq am wh : Nat} {hh tt : Nat → Nat} (h : tk_C39 S tb tp rd pl ch sq am wh hh tt) (hx : pq_R S x 13) (e0 : hO S x 0 = .ref tp) (e2 : hO S x 2 = .ref rd) (e1 : hO S x 1 = .ref pl) : tk_Cw S x tb ∧ hI S tb = fun _ => 0 := by
  obtain ⟨⟨a1, a2, a3, a4⟩, ⟨b1, b2, b3, b4, b5, b6, b7, b8⟩, c⟩ := h
  exact ⟨⟨tp, rd, pl, ch, sq, am, wh, hh, tt, _, ⟨⟨hx, e0, a1, a2, a3⟩, ⟨e2, b1, e1, b2⟩, ⟨b3, b4, b5, b6, b7, b8⟩⟩, c⟩, a4⟩

set_option maxHeartbeats 4000000 in
set_option maxRecDepth 100000 in
theorem k_X9_initG (l : Launch) (D : va_G) (cy : Nat → ClassId) (S : HS) (a : Nat) (ha : pq_R S a 72) (d1 : hO S a 1 = .int 0) : pq_C l D cy yX9_init cX9_init 1 (none) 1 1 2048 S [.ref a] (fun v S2 => v = none ∧ pq_G a S S2 ∧ pq_R S2 a 12 ∧ (hO S2 a 1 = .int 0 ∧ ∃ tb : Nat, hO S2 a 0 = .ref tb ∧ pq_R S2 tb 104 ∧ hI S2 tb = fun _ => 0)) := by
  refine pq_start (by decide) (Nat.le_of_ble_eq_true rfl) ?_
  intro p e s m args below meth c A F hr hlk hnm hA
  have lqm1 : (-1 : Int32).toInt = -1 := rfl
  have lq0 : (0 : Int32).toInt = 0 := rfl
  have lq1 : (1 : Int32).toInt = 1 := rfl
  have lq2048 : (2048 : Int32).toInt = 2048 := rfl
  refine pq_aload_n F dX9_init_0 rfl rfl ?_
  refine pq_objI F ow_X9_3 ⟨Nat.le_of_ble_eq_true rfl, Nat.le_of_ble_eq_true rfl⟩ dX9_init_1 ?_
  refine pq_aload_n F dX9_init_4 rfl rfl ?_
  refine pq_sipush (v := 2048) F dX9_init_5 (by decide) ?_
  refine pq_newB F (r := 104) (n := 2048) (by decide) (by decide) ac_byte rfl (by decide) (by focus (simp only [vp_in_iff, Int32.lt_iff_toInt_lt, Int32.le_iff_toInt_le, ← Int32.toInt_inj, Int32.toInt_add, Int32.toInt_sub, Int32.toInt_mul, Int32.toInt_neg, pq_NuO, pq_NuI, pq_NuJ, pq_NuR, pq_shr6, pq_shr7, pq_shr8, lqm1, lq0, lq1, lq2048] at *; (try simp (disch := omega) only [pq_bm] at *); all_goals omega)) rfl (by decide) (Nat.le_of_ble_eq_true rfl) (Nat.le_of_ble_eq_true rfl) (Nat.le_of_ble_eq_true rfl) dX9_init_8 (fun q8 nq8 h8 => ?_)
  have ha_8 := pq_nR (r := 104) (n := 2048) (ds := (fun _ => Value.null)) nq8 ha
  refine pq_putF F hnm ha_8 (by decide) lf_X9_9 rfl rfl (show pq_ok (pq_ft 72 0) _ _ from trivial) dX9_init_10 ?_
  refine pq_prom (r := 12) ha_8 (by decide) (by decide) (by decide) rfl (fun k => match k with | 0 => (show pq_ok (pq_ft 12 0) _ _ from ⟨by decide, _, pq_ks, h8⟩) | 1 => (show pq_ok (1, 0, 2048) _ _ from ⟨_, (pq_kp (pq_nO nq8 ha d1) (by decide)), (by focus (simp only [vp_in_iff, Int32.lt_iff_toInt_lt, Int32.le_iff_toInt_le, ← Int32.toInt_inj, Int32.toInt_add, Int32.toInt_sub, Int32.toInt_mul, Int32.toInt_neg, pq_NuO, pq_NuI, pq_NuJ, pq_NuR, pq_shr6, pq_shr7, pq_shr8, lqm1, lq0, lq1, lq2048] at *; (try simp (disch := omega) only [pq_bm] at *); all_goals omega)), (by focus (simp only [vp_in_iff, Int32.lt_iff_toInt_lt, Int32.le_iff_toInt_le, ← Int32.toInt_inj, Int32.toInt_add, Int32.toInt_sub, Int32.toInt_mul, Int32.toInt_neg, pq_NuO, pq_NuI, pq_NuJ, pq_NuR, pq_shr6, pq_shr7, pq_shr8, lqm1, lq0, lq1, lq2048] at *; (try simp (disch := omega) only [pq_bm] at *); all_goals omega))⟩) | _ + 2 => trivial) ?_
  have hpr := pq_rrR (r := 12) ha_8
  exact pq_vret F hr hlk hA (Nat.le_of_ble_eq_true rfl) (Nat.le_of_ble_eq_true rfl) (⟨rfl, (pq_G.rf.nw nq8).uO.rr, hpr, (pq_kp (pq_nO nq8 ha d1) (by decide)), q8, pq_ks, (pq_rrO (a := a) (r := 12) h8 (pq_nrole h8 ha_8 (by decide))), (by simp only [pq_Irr, pq_IuO, pq_Inw, if_true])⟩) dX9_init_13

set_option maxHeartbeats 4000000 in
set_option maxRecDepth 100000 in
theorem k_X5_initG (l : Launch) (D : va_G) (cy : Nat → ClassId) (S : HS) (a : Nat) (ha : pq_R S a 68) (d3 : hO S a 3 = .int 0) : pq_C l D cy yX5_init cX5_init 1 (none) 2 5 3713 S [.ref a] (fun v S2 => v = none ∧ pq_G a S S2 ∧ pq_R S2 a 8 ∧ (∃ wh h t : Nat, hO S2 a 2 = .ref wh ∧ tk_En S2 wh h t tq_e0)) := by
  refine pq_start (by decide) (Nat.le_of_ble_eq_true rfl) ?_
  intro p e s m args below meth c A F hr hlk hnm hA
  have lqm1 : (-1 : Int32).toInt = -1 := rfl
  have lq0 : (0 : Int32).toInt = 0 := rfl
  have lq1 : (1 : Int32).toInt = 1 := rfl
  have lq896 : (896 : Int32).toInt = 896 := rfl
  have lq2800 : (2800 : Int32).toInt = 2800 := rfl
  refine pq_aload_n F dX5_init_0 rfl rfl ?_
  refine pq_objI F ow_X5_3 ⟨Nat.le_of_ble_eq_true rfl, Nat.le_of_ble_eq_true rfl⟩ dX5_init_1 ?_
  refine pq_aload_n F dX5_init_4 rfl rfl ?_
  refine pq_sipush (v := 896) F dX5_init_5 (by decide) ?_
  refine pq_newJ F (r := 194) (n := 896) (by decide) (by decide) ac_long rfl (by decide) (by focus (simp only [vp_in_iff, Int32.lt_iff_toInt_lt, Int32.le_iff_toInt_le, ← Int32.toInt_inj, Int32.toInt_add, Int32.toInt_sub, Int32.toInt_mul, Int32.toInt_neg, pq_NuO, pq_NuI, pq_NuJ, pq_NuR, pq_shr6, pq_shr7, pq_shr8, lqm1, lq0, lq1, lq896, lq2800] at *; (try simp (disch := omega) only [pq_bm] at *); all_goals omega)) rfl (by decide) (Nat.le_of_ble_eq_true rfl) (Nat.le_of_ble_eq_true rfl) (Nat.le_of_ble_eq_true rfl) dX5_init_8 (fun q8 nq8 h8 => ?_)
  have ha_8 := pq_nR (r := 194) (n := 896) (ds := (fun _ => Value.null)) nq8 ha
  refine pq_putF F hnm ha_8 (by decide) lf_X5_9 rfl rfl (show pq_ok (pq_ft 68 0) _ _ from trivial) dX5_init_10 ?_
  refine pq_aload_n F dX5_init_13 rfl rfl ?_
  refine pq_sipush (v := 2800) F dX5_init_14 (by decide) ?_
  refine pq_newJ F (r := 195) (n := 2800) (by decide) (by decide) ac_long rfl (by decide) (by focus (simp only [vp_in_iff, Int32.lt_iff_toInt_lt, Int32.le_iff_toInt_le, ← Int32.toInt_inj, Int32.toInt_add, Int32.toInt_sub, Int32.toInt_mul, Int32.toInt_neg, pq_NuO, pq_NuI, pq_NuJ, pq_NuR, pq_shr6, pq_shr7, pq_shr8, lqm1, lq0, lq1, lq896, lq2800] at *; (try simp (disch := omega) only [pq_bm] at *); all_goals omega)) rfl (by decide) (Nat.le_of_ble_eq_true rfl) (Nat.le_of_ble_eq_true rfl) (Nat.le_of_ble_eq_true rfl) dX5_init_17 (fun q17 nq17 h17 => ?_)
  have ha_17 := pq_nR (r := 195) (n := 2800) (ds := (fun _ => Value.null)) nq17 ha_8
  have h8_17 := pq_nR (r := 195) (n := 2800) (ds := (fun _ => Value.null)) nq17 h8
  refine pq_putF F hnm ha_17 (by decide) lf_X5_15 rfl rfl (show pq_ok (pq_ft 68 1) _ _ from trivial) dX5_init_19 ?_
  refine pq_aload_n F dX5_init_22 rfl rfl ?_
  refine pq_newO F nw_X5_18 (by decide) (fun _ => rfl) (Nat.le_of_ble_eq_true rfl) (Nat.le_of_ble_eq_true rfl) dX5_init_23 (fun q23 nq23 h23 => ?_)
  have ha_23 := pq_nR (r := 65) (n := 0) (ds := (fun k => defaultValue (tyX2 k))) nq23 ha_17
  have h8_23 := pq_nR (r := 65) (n := 0) (ds := (fun k => defaultValue (tyX2 k))) nq23 h8_17
  have h17_23 := pq_nR (r := 65) (n := 0) (ds := (fun k => defaultValue (tyX2 k))) nq23 h17
  refine pq_dup F dX5_init_26 rfl ?_
  refine pq_callI (As := []) F (k_X2_initG l D cy _ _ ?_ (pq_nwO.trans rfl)) ml_X5_20 (Nat.le_of_ble_eq_true rfl) ⟨Nat.le_of_ble_eq_true rfl, Nat.le_of_ble_eq_true rfl⟩ ⟨Nat.le_of_ble_eq_true rfl, Nat.le_of_ble_eq_true rfl⟩ dX5_init_27 (fun v27 S27 w27 => ?_)
  · exact h23
  obtain ⟨rfl, hG27, hy27, p27⟩ := w27
  have ha_27 := (hG27 _ _ ha_23 (pq_nrole ha_23 h23 (by decide))).1
  have ec27_3_ha_27 := hG27.e ha_23 (pq_nrole ha_23 h23 (by decide)) (pq_nO nq23 ha_17 (pq_kp (pq_nO nq17 ha_8 (pq_kp (pq_nO nq8 ha d3) (by decide))) (by decide)))
  have h8_27 := (hG27 _ _ h8_23 (pq_nrole h8_23 h23 (by decide))).1
  have ec27_0_ha_27 := hG27.e ha_23 (pq_nrole ha_23 h23 (by decide)) (pq_nO nq23 ha_17 (pq_kp (pq_nO nq17 ha_8 pq_ks) (by decide)))
  have h17_27 := (hG27 _ _ h17_23 (pq_nrole h17_23 h23 (by decide))).1
  have ec27_1_ha_27 := hG27.e ha_23 (pq_nrole ha_23 h23 (by decide)) (pq_nO nq23 ha_17 pq_ks)
  obtain ⟨h9, t9, n9, n8, hE9⟩ := p27
  refine pq_putF F hnm ha_27 (by decide) lf_X5_21 rfl rfl (show pq_ok (pq_ft 68 2) _ _ from trivial) dX5_init_30 ?_
  refine pq_prom (r := 8) ha_27 (by decide) (by decide) (by decide) rfl (fun k => match k with | 0 => (show pq_ok (pq_ft 8 0) _ _ from ⟨by decide, _, (pq_kp ec27_0_ha_27 (by decide)), h8_27⟩) | 1 => (show pq_ok (pq_ft 8 1) _ _ from ⟨by decide, _, (pq_kp ec27_1_ha_27 (by decide)), h17_27⟩) | 2 => (show pq_ok (pq_ft 8 2) _ _ from ⟨by decide, _, pq_ks, hy27⟩) | 3 => (show pq_ok (1, 0, 400) _ _ from ⟨_, (pq_kp ec27_3_ha_27 (by decide)), (by focus (simp only [vp_in_iff, Int32.lt_iff_toInt_lt, Int32.le_iff_toInt_le, ← Int32.toInt_inj, Int32.toInt_add, Int32.toInt_sub, Int32.toInt_mul, Int32.toInt_neg, pq_NuO, pq_NuI, pq_NuJ, pq_NuR, pq_shr6, pq_shr7, pq_shr8, lqm1, lq0, lq1, lq896, lq2800] at *; (try simp (disch := omega) only [pq_bm] at *); all_goals omega)), (by focus (simp only [vp_in_iff, Int32.lt_iff_toInt_lt, Int32.le_iff_toInt_le, ← Int32.toInt_inj, Int32.toInt_add, Int32.toInt_sub, Int32.toInt_mul, Int32.toInt_neg, pq_NuO, pq_NuI, pq_NuJ, pq_NuR, pq_shr6, pq_shr7, pq_shr8, lqm1, lq0, lq1, lq896, lq2800] at *; (try simp (disch := omega) only [pq_bm] at *); all_goals omega))⟩) | _ + 4 => trivial) ?_
  have hpr := pq_rrR (r := 8) ha_27
  exact pq_vret F hr hlk hA (Nat.le_of_ble_eq_true rfl) (Nat.le_of_ble_eq_true rfl) (⟨rfl, (((pq_G.rf.nw nq8).uO.nw nq17).uO.gn nq23 hG27).uO.rr, hpr, q23, h9, t9, pq_ks, hE9.G ((pq_G.rf (a := a) (S := S27)).uO.rr) ha_27 (by decide)⟩) dX5_init_33

set_option maxHeartbeats 4000000 in
set_option maxRecDepth 100000 in
theorem k_X6_initG (l : Launch) (D : va_G) (cy : Nat → ClassId) (S : HS) (a : Nat) (ha : pq_R S a 69) (tp : Nat) (htp : pq_R S tp 12) (pl : Nat) (hpl : pq_R S pl 8) (d5 : hO S a 5 = .int 0) (d6 : hO S a 6 = .int 0) (d7 : hO S a 7 = .int 0) (d8 : hO S a 8 = .long 0) (d9 : hO S a 9 = .long 0) : pq_C l D cy yX6_init cX6_init 3 (none) 2 5 99 S [.ref a, .ref tp, .ref pl] (fun v S2 => v = none ∧ pq_G a S S2 ∧ pq_R S2 a 9 ∧ (hO S2 a 0 = .ref tp ∧ hO S2 a 1 = .ref pl ∧ ∃ ch sq am h t : Nat, hO S2 a 2 = .ref ch ∧ pq_R S2 ch 230 ∧ hO S2 a 3 = .ref sq ∧ pq_R S2 sq 231 ∧ hO S2 a 4 = .ref am ∧ tk_En S2 am h t tq_e0 ∧ (∀ i, hR S2 ch i = none) ∧ (∀ i, hR S2 sq i = none) ∧ am ∉ S.1 ∧ h ∉ S.1 ∧ t ∉ S.1)) := by
  refine pq_start (by decide) (Nat.le_of_ble_eq_true rfl) ?_
  intro p e s m args below meth c A F hr hlk hnm hA
  have lqm1 : (-1 : Int32).toInt = -1 := rfl
  have lq0 : (0 : Int32).toInt = 0 := rfl
  have lq1 : (1 : Int32).toInt = 1 := rfl
  have lq41 : (41 : Int32).toInt = 41 := rfl
  refine pq_aload_n F dX6_init_0 rfl rfl ?_
  refine pq_objI F ow_X6_3 ⟨Nat.le_of_ble_eq_true rfl, Nat.le_of_ble_eq_true rfl⟩ dX6_init_1 ?_
  refine pq_aload_n F dX6_init_4 rfl rfl ?_
  refine pq_bipush (v := 41) F dX6_init_5 (by decide) ?_
  refine pq_newR F (r := 230) (n := 41) (by decide) cl_X6_9 (by focus (simp only [vp_in_iff, Int32.lt_iff_toInt_lt, Int32.le_iff_toInt_le, ← Int32.toInt_inj, Int32.toInt_add, Int32.toInt_sub, Int32.toInt_mul, Int32.toInt_neg, pq_NuO, pq_NuI, pq_NuJ, pq_NuR, pq_shr6, pq_shr7, pq_shr8, lqm1, lq0, lq1, lq41] at *; (try simp (disch := omega) only [pq_bm] at *); all_goals omega)) rfl (by decide) (by decide) (Nat.le_of_ble_eq_true rfl) (Nat.le_of_ble_eq_true rfl) (Nat.le_of_ble_eq_true rfl) dX6_init_7 (fun q7 nq7 h7 => ?_)
  have ha_7 := pq_nR (r := 230) (n := 41) (ds := (fun _ => Value.null)) nq7 ha
  have htp_7 := pq_nR (r := 230) (n := 41) (ds := (fun _ => Value.null)) nq7 htp
  have hpl_7 := pq_nR (r := 230) (n := 41) (ds := (fun _ => Value.null)) nq7 hpl
  refine pq_putF F hnm ha_7 (by decide) lf_X6_11 rfl rfl (show pq_ok (pq_ft 69 2) _ _ from trivial) dX6_init_10 ?_
  refine pq_aload_n F dX6_init_13 rfl rfl ?_
  refine pq_bipush (v := 41) F dX6_init_14 (by decide) ?_
  refine pq_newR F (r := 231) (n := 41) (by decide) cl_X6_9 (by focus (simp only [vp_in_iff, Int32.lt_iff_toInt_lt, Int32.le_iff_toInt_le, ← Int32.toInt_inj, Int32.toInt_add, Int32.toInt_sub, Int32.toInt_mul, Int32.toInt_neg, pq_NuO, pq_NuI, pq_NuJ, pq_NuR, pq_shr6, pq_shr7, pq_shr8, lqm1, lq0, lq1, lq41] at *; (try simp (disch := omega) only [pq_bm] at *); all_goals omega)) rfl (by decide) (by decide) (Nat.le_of_ble_eq_true rfl) (Nat.le_of_ble_eq_true rfl) (Nat.le_of_ble_eq_true rfl) dX6_init_16 (fun q16 nq16 h16 => ?_)
  have ha_16 := pq_nR (r := 231) (n := 41) (ds := (fun _ => Value.null)) nq16 ha_7
  have htp_16 := pq_nR (r := 231) (n := 41) (ds := (fun _ => Value.null)) nq16 htp_7
  have hpl_16 := pq_nR (r := 231) (n := 41) (ds := (fun _ => Value.null)) nq16 hpl_7
  have h7_16 := pq_nR (r := 231) (n := 41) (ds := (fun _ => Value.null)) nq16 h7
  refine pq_putF F hnm ha_16 (by decide) lf_X6_17 rfl rfl (show pq_ok (pq_ft 69 3) _ _ from trivial) dX6_init_19 ?_
  refine pq_aload_n F dX6_init_22 rfl rfl ?_
  refine pq_newO F nw_X6_9 (by decide) (fun _ => rfl) (Nat.le_of_ble_eq_true rfl) (Nat.le_of_ble_eq_true rfl) dX6_init_23 (fun q23 nq23 h23 => ?_)
  have ha_23 := pq_nR (r := 65) (n := 0) (ds := (fun k => defaultValue (tyX2 k))) nq23 ha_16
  have htp_23 := pq_nR (r := 65) (n := 0) (ds := (fun k => defaultValue (tyX2 k))) nq23 htp_16
  have hpl_23 := pq_nR (r := 65) (n := 0) (ds := (fun k => defaultValue (tyX2 k))) nq23 hpl_16
  have h7_23 := pq_nR (r := 65) (n := 0) (ds := (fun k => defaultValue (tyX2 k))) nq23 h7_16
  have h16_23 := pq_nR (r := 65) (n := 0) (ds := (fun k => defaultValue (tyX2 k))) nq23 h16
  refine pq_dup F dX6_init_26 rfl ?_
  refine pq_callI (As := []) F (k_X2_initG l D cy _ _ ?_ (pq_nwO.trans rfl)) ml_X6_20 (Nat.le_of_ble_eq_true rfl) ⟨Nat.le_of_ble_eq_true rfl, Nat.le_of_ble_eq_true rfl⟩ ⟨Nat.le_of_ble_eq_true rfl, Nat.le_of_ble_eq_true rfl⟩ dX6_init_27 (fun v27 S27 w27 => ?_)
  · exact h23
  obtain ⟨rfl, hG27, hy27, p27⟩ := w27
  have ha_27 := (hG27 _ _ ha_23 (pq_nrole ha_23 h23 (by decide))).1
  have htp_27 := (hG27 _ _ htp_23 (pq_nrole htp_23 h23 (by decide))).1
  have hpl_27 := (hG27 _ _ hpl_23 (pq_nrole hpl_23 h23 (by decide))).1
  have ec27_5_ha_27 := hG27.e ha_23 (pq_nrole ha_23 h23 (by decide)) (pq_nO nq23 ha_16 (pq_kp (pq_nO nq16 ha_7 (pq_kp (pq_nO nq7 ha d5) (by decide))) (by decide)))
  have ec27_6_ha_27 := hG27.e ha_23 (pq_nrole ha_23 h23 (by decide)) (pq_nO nq23 ha_16 (pq_kp (pq_nO nq16 ha_7 (pq_kp (pq_nO nq7 ha d6) (by decide))) (by decide)))
  have ec27_7_ha_27 := hG27.e ha_23 (pq_nrole ha_23 h23 (by decide)) (pq_nO nq23 ha_16 (pq_kp (pq_nO nq16 ha_7 (pq_kp (pq_nO nq7 ha d7) (by decide))) (by decide)))
  have ec27_8_ha_27 := hG27.e ha_23 (pq_nrole ha_23 h23 (by decide)) (pq_nO nq23 ha_16 (pq_kp (pq_nO nq16 ha_7 (pq_kp (pq_nO nq7 ha d8) (by decide))) (by decide)))
  have ec27_9_ha_27 := hG27.e ha_23 (pq_nrole ha_23 h23 (by decide)) (pq_nO nq23 ha_16 (pq_kp (pq_nO nq16 ha_7 (pq_kp (pq_nO nq7 ha d9) (by decide))) (by decide)))
  have h7_27 := (hG27 _ _ h7_23 (pq_nrole h7_23 h23 (by decide))).1
  have ec27_2_ha_27 := hG27.e ha_23 (pq_nrole ha_23 h23 (by decide)) (pq_nO nq23 ha_16 (pq_kp (pq_nO nq16 ha_7 pq_ks) (by decide)))
  have h16_27 := (hG27 _ _ h16_23 (pq_nrole h16_23 h23 (by decide))).1
  have ec27_3_ha_27 := hG27.e ha_23 (pq_nrole ha_23 h23 (by decide)) (pq_nO nq23 ha_16 pq_ks)
  obtain ⟨h9, t9, n9, n8, hE9⟩ := p27
  refine pq_putF F hnm ha_27 (by decide) lf_X6_21 rfl rfl (show pq_ok (pq_ft 69 4) _ _ from trivial) dX6_init_30 ?_
  refine pq_aload_n F dX6_init_33 rfl rfl ?_
  refine pq_aload_n F dX6_init_34 rfl rfl ?_
  refine pq_putF F hnm ha_27 (by decide) lf_X6_25 rfl rfl (show pq_ok (pq_ft 69 0) _ _ from trivial) dX6_init_35 ?_
  refine pq_aload_n F dX6_init_38 rfl rfl ?_
  refine pq_aload_n F dX6_init_39 rfl rfl ?_
  refine pq_putF F hnm ha_27 (by decide) lf_X6_29 rfl rfl (show pq_ok (pq_ft 69 1) _ _ from trivial) dX6_init_40 ?_
  refine pq_prom (r := 9) ha_27 (by decide) (by decide) (by decide) rfl (fun k => match k with | 0 => (show pq_ok (pq_ft 9 0) _ _ from ⟨by decide, _, (pq_kp pq_ks (by decide)), htp_27⟩) | 1 => (show pq_ok (pq_ft 9 1) _ _ from ⟨by decide, _, pq_ks, hpl_27⟩) | 2 => (show pq_ok (pq_ft 9 2) _ _ from ⟨by decide, _, (pq_kp (pq_kp (pq_kp ec27_2_ha_27 (by decide)) (by decide)) (by decide)), h7_27⟩) | 3 => (show pq_ok (pq_ft 9 3) _ _ from ⟨by decide, _, (pq_kp (pq_kp (pq_kp ec27_3_ha_27 (by decide)) (by decide)) (by decide)), h16_27⟩) | 4 => (show pq_ok (pq_ft 9 4) _ _ from ⟨by decide, _, (pq_kp (pq_kp pq_ks (by decide)) (by decide)), hy27⟩) | 5 => (show pq_ok (1, -2147483648, 2147483647) _ _ from ⟨_, (pq_kp (pq_kp (pq_kp ec27_5_ha_27 (by decide)) (by decide)) (by decide)), (by focus (simp only [vp_in_iff, Int32.lt_iff_toInt_lt, Int32.le_iff_toInt_le, ← Int32.toInt_inj, Int32.toInt_add, Int32.toInt_sub, Int32.toInt_mul, Int32.toInt_neg, pq_NuO, pq_NuI, pq_NuJ, pq_NuR, pq_shr6, pq_shr7, pq_shr8, lqm1, lq0, lq1, lq41] at *; (try simp (disch := omega) only [pq_bm] at *); all_goals omega)), (by focus (simp only [vp_in_iff, Int32.lt_iff_toInt_lt, Int32.le_iff_toInt_le, ← Int32.toInt_inj, Int32.toInt_add, Int32.toInt_sub, Int32.toInt_mul, Int32.toInt_neg, pq_NuO, pq_NuI, pq_NuJ, pq_NuR, pq_shr6, pq_shr7, pq_shr8, lqm1, lq0, lq1, lq41] at *; (try simp (disch := omega) only [pq_bm] at *); all_goals omega))⟩) | 6 => (show pq_ok (1, 0, 40) _ _ from ⟨_, (pq_kp (pq_kp (pq_kp ec27_6_ha_27 (by decide)) (by decide)) (by decide)), (by focus (simp only [vp_in_iff, Int32.lt_iff_toInt_lt, Int32.le_iff_toInt_le, ← Int32.toInt_inj, Int32.toInt_add, Int32.toInt_sub, Int32.toInt_mul, Int32.toInt_neg, pq_NuO, pq_NuI, pq_NuJ, pq_NuR, pq_shr6, pq_shr7, pq_shr8, lqm1, lq0, lq1, lq41] at *; (try simp (disch := omega) only [pq_bm] at *); all_goals omega)), (by focus (simp only [vp_in_iff, Int32.lt_iff_toInt_lt, Int32.le_iff_toInt_le, ← Int32.toInt_inj, Int32.toInt_add, Int32.toInt_sub, Int32.toInt_mul, Int32.toInt_neg, pq_NuO, pq_NuI, pq_NuJ, pq_NuR, pq_shr6, pq_shr7, pq_shr8, lqm1, lq0, lq1, lq41] at *; (try simp (disch := omega) only [pq_bm] at *); all_goals omega))⟩) | 7 => (show pq_ok (1, -2147483648, 2147483647) _ _ from ⟨_, (pq_kp (pq_kp (pq_kp ec27_7_ha_27 (by decide)) (by decide)) (by decide)), (by focus (simp only [vp_in_iff, Int32.lt_iff_toInt_lt, Int32.le_iff_toInt_le, ← Int32.toInt_inj, Int32.toInt_add, Int32.toInt_sub, Int32.toInt_mul, Int32.toInt_neg, pq_NuO, pq_NuI, pq_NuJ, pq_NuR, pq_shr6, pq_shr7, pq_shr8, lqm1, lq0, lq1, lq41] at *; (try simp (disch := omega) only [pq_bm] at *); all_goals omega)), (by focus (simp only [vp_in_iff, Int32.lt_iff_toInt_lt, Int32.le_iff_toInt_le, ← Int32.toInt_inj, Int32.toInt_add, Int32.toInt_sub, Int32.toInt_mul, Int32.toInt_neg, pq_NuO, pq_NuI, pq_NuJ, pq_NuR, pq_shr6, pq_shr7, pq_shr8, lqm1, lq0, lq1, lq41] at *; (try simp (disch := omega) only [pq_bm] at *); all_goals omega))⟩) | 8 => (show pq_ok (pq_ft 9 8) _ _ from ⟨_, (pq_kp (pq_kp (pq_kp ec27_8_ha_27 (by decide)) (by decide)) (by decide))⟩) | 9 => (show pq_ok (pq_ft 9 9) _ _ from ⟨_, (pq_kp (pq_kp (pq_kp ec27_9_ha_27 (by decide)) (by decide)) (by decide))⟩) | _ + 10 => trivial) ?_
  have hpr := pq_rrR (r := 9) ha_27
  have htp_27P := pq_rrO (a := a) (r := 9) htp_27 (pq_nrole htp_27 ha_27 (by decide))
  have hpl_27P := pq_rrO (a := a) (r := 9) hpl_27 (pq_nrole hpl_27 ha_27 (by decide))
  exact pq_vret F hr hlk hA (Nat.le_refl _) (Nat.le_refl _) (⟨rfl, (((pq_G.rf.nw nq7).uO.nw nq16).uO.gn nq23 hG27).uO.uO.uO.rr, hpr, (pq_kp pq_ks (by decide)), pq_ks, q7, q16, q23, h9, t9, (pq_kp (pq_kp (pq_kp ec27_2_ha_27 (by decide)) (by decide)) (by decide)), (pq_rrO (a := a) (r := 9) h7_27 (pq_nrole h7_27 ha_27 (by decide))), (pq_kp (pq_kp (pq_kp ec27_3_ha_27 (by decide)) (by decide)) (by decide)), (pq_rrO (a := a) (r := 9) h16_27 (pq_nrole h16_27 ha_27 (by decide))), (pq_kp (pq_kp pq_ks (by decide)) (by decide)), hE9.G ((pq_G.rf (a := a) (S := S27)).uO.uO.uO.rr) ha_27 (by decide), (fun i => (congrFun (((((pq_G.rf (a := a) (S := (pq_nw S q7 230 41 (fun _ => Value.null)))).uO.nw nq16).uO.gn nq23 hG27).uO.uO.uO.rr) _ _ h7 (pq_nrole h7 (show pq_R _ a 69 from ha_7) (by decide))).2.2.2.2.2 i).trans (congrFun (va_up_self _ _ _) i)), (fun i => (congrFun ((((pq_G.rf (a := a) (S := _)).uO.gn nq23 hG27).uO.uO.uO.rr) _ _ h16 (pq_nrole h16 (show pq_R _ a 69 from ha_16) (by decide))).2.2.2.2.2 i).trans (congrFun (va_up_self _ _ _) i)), (fun w => nq23 (List.mem_append_left _ (List.mem_append_left _ w))), (fun w => n9 (List.mem_append_left _ (List.mem_append_left _ (List.mem_append_left _ w)))), (fun w => n8 (List.mem_append_left _ (List.mem_append_left _ (List.mem_append_left _ w))))⟩) dX6_init_43

