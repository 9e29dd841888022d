theorem tk_rj {o : Value} {a b : Nat} (h : o = .ref a) (g : o = .ref b) : a = b := Value.ref.inj (h.symm.trans g)
/-- the class's own objects -/
def tk_Cv (S : HS) (x tb tp rd pl ch sq at9 wh : Nat) : Prop := (pq_R S x 13 ∧ hO S x 0 = .ref tp ∧ pq_R S tp 12 ∧ hO S tp 0 = .ref tb ∧ pq_R S tb 104) ∧ (hO S x 2 = .ref rd ∧ pq_R S rd 9 ∧ hO S x 1 = .ref pl ∧ pq_R S pl 8) ∧ (hO S rd 2 = .ref ch ∧ pq_R S ch 230 ∧ hO S rd 3 = .ref sq ∧ pq_R S sq 231 ∧ hO S rd 4 = .ref at9 ∧ hO S pl 2 = .ref wh)
/-- the class's object: its Ends are its own -/
def tk_Cw (S : HS) (x tb : Nat) : Prop := ∃ (tp rd pl ch sq at9 wh : Nat) (hh tt : Nat → Nat) (EE : Nat → tq_E), tk_Cv S x tb tp rd pl ch sq at9 wh ∧ tk_Co S ch sq at9 wh hh tt EE
theorem tk_Cv.fr {S S1 : HS} {x tb tp rd pl ch sq at9 wh : Nat} {M : List (Nat × Nat)} (h : tk_Cv S x tb tp rd pl ch sq at9 wh) (hF : pq_Fr M S S1) (hM : ∀ q ∈ [(13, 0), (13, 1), (13, 2), (12, 0), (9, 2), (9, 3), (9, 4), (8, 2)], q ∉ M) : tk_Cv S1 x tb tp rd pl ch sq at9 wh := by
  obtain ⟨⟨a1, a2, a3, a4, a5⟩, ⟨b1, b2, b3, b4⟩, ⟨c1, c2, c3, c4, c5, c6⟩⟩ := h
  exact ⟨⟨hF.R a1 (by decide), hF.O a1 (by decide) (hM _ (by decide)) a2, hF.R a3 (by decide), hF.O a3 (by decide) (hM _ (by decide)) a4, hF.R a5 (by decide)⟩, ⟨hF.O a1 (by decide) (hM _ (by decide)) b1, hF.R b2 (by decide), hF.O a1 (by decide) (hM _ (by decide)) b3, hF.R b4 (by decide)⟩, ⟨hF.O b2 (by decide) (hM _ (by decide)) c1, hF.R c2 (by decide), hF.O b2 (by decide) (hM _ (by decide)) c3, hF.R c4 (by decide), hF.O b2 (by decide) (hM _ (by decide)) c5, hF.O b4 (by decide) (hM _ (by decide)) c6⟩⟩
theorem tk_Cw.fr {S S1 : HS} {x tb : Nat} {M : List (Nat × Nat)} (h : tk_Cw S x tb) (hF : pq_Fr M S S1) (hM : ∀ q ∈ [(13, 0), (13, 1), (13, 2), (12, 0), (9, 2), (9, 3), (9, 4), (8, 2), (5, 0), (5, 1), (5, 2), (190, 0), (191, 0), (230, 0), (231, 0)], q ∉ M) : tk_Cw S1 x tb := by
  obtain ⟨tp, rd, pl, ch, sq, at9, wh, hh, tt, EE, h1, h2⟩ := h
  exact ⟨tp, rd, pl, ch, sq, at9, wh, hh, tt, EE, h1.fr hF (fun q hq => hM q (by revert q; decide)), h2.fr hF h1.2.2.2.1 h1.2.2.2.2.2.1 (fun q hq => hM q (by revert q; decide))⟩
theorem tk_all0 {T : Nat → Int32} {z : tr_Z} (h : tr_all T 0 = Sum.inr z) : z.1 = 0 := by
  unfold tr_all at h
  rw [tr_run.z (Nat.le_refl _)] at h
  rw [← Sum.inr.inj h]
theorem tk_Pl.zero {S : HS} {pl tk fo np : Nat} {mk : Nat → tr_M} {F : Nat → Nat → Prop} (h : tk_Pl S pl tk fo np mk F) (h0 : np = 0) {i : Nat} (hi : i < 896) : hJ S tk i = 0 := by
  have e := tk_bit.ext (r := fun _ => 0) (r' := hJ S tk) (st := 0) (st' := 7 * (i / 7)) (fun q => ⟨fun v => absurd ((h.2.2.2.1 (i / 7) q (by omega)).mp v).1 (by omega), fun v => absurd v (tk_bit.z (fun _ _ => rfl))⟩) (i % 7) (Nat.mod_lt _ (by decide))
  rwa [Nat.div_add_mod] at e
theorem tk_CM.lt {z : tr_Z} {se : Nat → Int64} {sp bk : Nat → Int32} {K ns nb : Nat} {pd : Nat → Prop} (h : tk_CM z se sp K ns bk nb pd) {s2 bl : Int32} (hs : s2.toInt = (ns : Int)) (hb : bl.toInt = (nb : Int)) : pq_lt bk s2.toInt bl.toInt := fun i hi => by
  obtain ⟨j, j1, j2⟩ := h.1 i (by omega)
  omega

set_option maxHeartbeats 4000000 in
set_option maxRecDepth 100000 in
theorem k_X0_liveGA (l : Launch) (D : va_G) (cy : Nat → ClassId) (S : HS) (a : Nat) (ha : pq_R S a 3) (sn : Int32) (e5 : hO S a 5 = .int sn) (h1 : 1 ≤ sn.toInt) (h2 : sn.toInt ≤ 201) : pq_C l D cy yX0_liveStates cX0_liveStates 1 (some .int) 1 0 0 S [.ref a] (fun v S2 => S2 = S ∧ ∃ x : Int32, v = some (.int x) ∧ 0 ≤ x.toInt ∧ x.toInt ≤ 200 ∧ (x.toInt = sn.toInt - 1)) := by
  refine pq_start (by decide) (Nat.le_of_ble_eq_true rfl) ?_
  intro p e s m args below meth c A F hr hlk hnm hA
  have lqm1 : (-1 : Int32).toInt = -1 := rfl
  have lq0 : (0 : Int32).toInt = 0 := rfl
  have lq1 : (1 : Int32).toInt = 1 := rfl
  refine pq_aload_n F dX0_liveStates_0 rfl rfl ?_
  refine pq_get F ha (by decide) lk_X0_31 e5 dX0_liveStates_1 ?_
  refine pq_iconst (v := 1) F dX0_liveStates_4 (by decide) ?_
  refine pq_isub F dX0_liveStates_5 ?_
  exact pq_iret F hr hlk hA (Nat.le_refl _) (Nat.le_refl _) (⟨rfl, _, rfl, (by focus (simp only [vp_in_iff, Int32.lt_iff_toInt_lt, Int32.le_iff_toInt_le, ← Int32.toInt_inj, Int32.toInt_add, Int32.toInt_sub, Int32.toInt_mul, Int32.toInt_neg, pq_NuO, pq_NuI, pq_NuJ, pq_NuR, pq_shr6, pq_shr7, pq_shr8, lqm1, lq0, lq1] at *; (try simp (disch := omega) only [pq_bm] at *); all_goals omega)), (by focus (simp only [vp_in_iff, Int32.lt_iff_toInt_lt, Int32.le_iff_toInt_le, ← Int32.toInt_inj, Int32.toInt_add, Int32.toInt_sub, Int32.toInt_mul, Int32.toInt_neg, pq_NuO, pq_NuI, pq_NuJ, pq_NuR, pq_shr6, pq_shr7, pq_shr8, lqm1, lq0, lq1] at *; (try simp (disch := omega) only [pq_bm] at *); all_goals omega)), (by focus (simp only [vp_in_iff, Int32.lt_iff_toInt_lt, Int32.le_iff_toInt_le, ← Int32.toInt_inj, Int32.toInt_add, Int32.toInt_sub, Int32.toInt_mul, Int32.toInt_neg, pq_NuO, pq_NuI, pq_NuJ, pq_NuR, pq_shr6, pq_shr7, pq_shr8, lqm1, lq0, lq1] at *; (try simp (disch := omega) only [pq_bm] at *); all_goals omega))⟩) dX0_liveStates_6

set_option maxHeartbeats 4000000 in
set_option maxRecDepth 100000 in
theorem k_X0_liveGB (l : Launch) (D : va_G) (cy : Nat → ClassId) (S : HS) (a : Nat) (ha : pq_R S a 33) (sn : Int32) (e5 : hO S a 5 = .int sn) (h1 : 1 ≤ sn.toInt) (h2 : sn.toInt ≤ 201) : pq_C l D cy yX0_liveStates cX0_liveStates 1 (some .int) 1 0 0 S [.ref a] (fun v S2 => S2 = S ∧ ∃ x : Int32, v = some (.int x) ∧ 0 ≤ x.toInt ∧ x.toInt ≤ 200 ∧ (x.toInt = sn.toInt - 1)) := by
  refine pq_start (by decide) (Nat.le_of_ble_eq_true rfl) ?_
  intro p e s m args below meth c A F hr hlk hnm hA
  have lqm1 : (-1 : Int32).toInt = -1 := rfl
  have lq0 : (0 : Int32).toInt = 0 := rfl
  have lq1 : (1 : Int32).toInt = 1 := rfl
  refine pq_aload_n F dX0_liveStates_0 rfl rfl ?_
  refine pq_get F ha (by decide) lk_X0_31 e5 dX0_liveStates_1 ?_
  refine pq_iconst (v := 1) F dX0_liveStates_4 (by decide) ?_
  refine pq_isub F dX0_liveStates_5 ?_
  exact pq_iret F hr hlk hA (Nat.le_refl _) (Nat.le_refl _) (⟨rfl, _, rfl, (by focus (simp only [vp_in_iff, Int32.lt_iff_toInt_lt, Int32.le_iff_toInt_le, ← Int32.toInt_inj, Int32.toInt_add, Int32.toInt_sub, Int32.toInt_mul, Int32.toInt_neg, pq_NuO, pq_NuI, pq_NuJ, pq_NuR, pq_shr6, pq_shr7, pq_shr8, lqm1, lq0, lq1] at *; (try simp (disch := omega) only [pq_bm] at *); all_goals omega)), (by focus (simp only [vp_in_iff, Int32.lt_iff_toInt_lt, Int32.le_iff_toInt_le, ← Int32.toInt_inj, Int32.toInt_add, Int32.toInt_sub, Int32.toInt_mul, Int32.toInt_neg, pq_NuO, pq_NuI, pq_NuJ, pq_NuR, pq_shr6, pq_shr7, pq_shr8, lqm1, lq0, lq1] at *; (try simp (disch := omega) only [pq_bm] at *); all_goals omega)), (by focus (simp only [vp_in_iff, Int32.lt_iff_toInt_lt, Int32.le_iff_toInt_le, ← Int32.toInt_inj, Int32.toInt_add, Int32.toInt_sub, Int32.toInt_mul, Int32.toInt_neg, pq_NuO, pq_NuI, pq_NuJ, pq_NuR, pq_shr6, pq_shr7, pq_shr8, lqm1, lq0, lq1] at *; (try simp (disch := omega) only [pq_bm] at *); all_goals omega))⟩) dX0_liveStates_6

