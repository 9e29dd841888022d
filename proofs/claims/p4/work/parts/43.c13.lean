/-! ===== new cells; what the class's object holds ===== -/
theorem pq_nwO {S : HS} {q r n k : Nat} {ds : Nat → Value} : hO (pq_nw S q r n ds) q k = ds k := by
  show va_up S.2.2.1 q ds q k = _
  rw [va_up_self]
theorem pq_Inw {S : HS} {q r n b : Nat} {ds : Nat → Value} : hI (pq_nw S q r n ds) b = if b = q then (fun _ => 0) else hI S b := rfl
theorem pq_Nnw {S : HS} {q r n b : Nat} {ds : Nat → Value} : hN (pq_nw S q r n ds) b = if b = q then n else hN S b := rfl
theorem pq_Irr {S : HS} {a r : Nat} : hI (pq_rr S a r) = hI S := rfl
theorem pq_Nrr {S : HS} {a r : Nat} : hN (pq_rr S a r) = hN S := rfl
theorem pq_G.uIn {a q : Nat} {f : Nat → Int32} {S S1 : HS} (h : pq_G a S S1) (hq : q ∉ S.1) : pq_G a S (pq_uI S1 q f) := fun b rb hb hne => by
  obtain ⟨a1, a2, a3, a4, a5, a6⟩ := h b rb hb hne
  refine ⟨a1, a2, a3, ?_, a5, a6⟩
  show va_up S1.2.2.2.1 q f b = _
  rw [va_up_ne _ _ (show b ≠ q from fun e => hq (e ▸ hb.1))]; exact a4
theorem pq_G.uRn {a q : Nat} {f : Nat → Option Nat} {S S0 S1 : HS} (h : pq_G a S S1) (h0 : pq_G a S S0) (hq : q ∉ S0.1) : pq_G a S (pq_uR S1 q f) := fun b rb hb hne => by
  obtain ⟨a1, a2, a3, a4, a5, a6⟩ := h b rb hb hne
  refine ⟨a1, a2, a3, a4, a5, ?_⟩
  show va_up S1.2.2.2.2.2.2 q f b = _
  rw [va_up_ne _ _ (show b ≠ q from fun e => hq (e ▸ (h0 b rb hb hne).1.1))]; exact a6
theorem pq_Fr.uOr {M : List (Nat × Nat)} {S S1 : HS} {a r k : Nat} {v : Value} (h : pq_Fr M S S1) (ha : pq_R S1 a r) (h1 : 60 ≤ r ∧ r < 100) : pq_Fr M S (pq_uO S1 a k v) := by
  refine ⟨fun b rb hb hr => h.1 b rb hb hr, fun b rb hb hr j hj => ?_, h.2.2⟩
  have h6 := (h.1 b rb hb (Or.inl hr)).1
  have hne : b ≠ a := fun e => by
    subst e
    have := h6.2.symm.trans ha.2
    omega
  show va_up S1.2.2.1 a (va_up (S1.2.2.1 a) k v) b j = _
  rw [va_up_ne _ _ hne]; exact h.2.1 b rb hb hr j hj
theorem pq_Fr.rrr {M : List (Nat × Nat)} {S S1 : HS} {a r r0 : Nat} (h : pq_Fr M S S1) (ha : pq_R S1 a r0) (h1 : 60 ≤ r0 ∧ r0 < 100) : pq_Fr M S (pq_rr S1 a r) := by
  refine ⟨fun b rb hb hr => ?_, h.2.1, h.2.2⟩
  obtain ⟨h6, h7⟩ := h.1 b rb hb hr
  have hne : b ≠ a := fun e => by
    subst e
    have := h6.2.symm.trans ha.2
    omega
  exact ⟨pq_rrO h6 hne, h7⟩
def pq_If (S : HS) (x tp pl rd wk mg pt ct sr A B : Nat) : Prop := (hO S x 0 = .ref tp ∧ hO S x 1 = .ref pl ∧ hO S x 2 = .ref rd ∧ hO S x 3 = .ref wk ∧ hO S x 4 = .ref mg ∧ hO S x 5 = .ref pt ∧ hO S x 6 = .ref ct ∧ hO S x 7 = .ref sr) ∧ (pq_R S x 13 ∧ pq_R S tp 12 ∧ pq_R S pl 8 ∧ pq_R S rd 9 ∧ pq_R S wk 11 ∧ pq_R S mg 7 ∧ pq_R S pt 220 ∧ pq_R S ct 4 ∧ pq_R S sr 10) ∧ (hO S rd 0 = .ref tp ∧ hO S rd 1 = .ref pl ∧ hO S wk 0 = .ref pl ∧ hO S mg 0 = .ref wk) ∧ (hR S pt 0 = some A ∧ hR S pt 1 = some B ∧ pq_R S A 3 ∧ pq_R S B 33)
def pq_Iau (S : HS) (A rk rs : Nat) : Prop := ∃ (ko st : Nat) (n sn s0 : Int32) (P : Int32 → Prop), pq_Au S A rk rs ko st n sn s0 P
def pq_Is (S : HS) (sr np nq : Nat) : Prop := ∃ (pr og sn tx : Nat) (le : Int32), (hO S sr 2 = .ref pr ∧ pq_R S pr 164 ∧ hO S sr 3 = .ref og ∧ pq_R S og 165 ∧ hO S sr 4 = .ref sn ∧ pq_R S sn 196 ∧ hO S sr 6 = .ref tx ∧ pq_R S tx 103) ∧ hO S sr 7 = .int le ∧ (0 ≤ le.toInt ∧ le.toInt ≤ (hN S tx : Int)) ∧ hN S pr = np ∧ hN S og = np ∧ hN S sn = nq
def pq_Ix (S : HS) (x : Nat) (t : Int32) (np nq : Nat) : Prop := ∃ tp pl rd wk mg pt ct sr A B : Nat, pq_If S x tp pl rd wk mg pt ct sr A B ∧ hO S tp 1 = .int t ∧ (0 ≤ t.toInt ∧ t.toInt ≤ 2048) ∧ pq_Iau S A 150 152 ∧ pq_Iau S B 153 155 ∧ pq_Is S sr np nq
def pq_Ifl : List (Nat × Nat) := [(13, 0), (13, 1), (13, 2), (13, 3), (13, 4), (13, 5), (13, 6), (13, 7), (9, 0), (9, 1), (11, 0), (7, 0), (220, 0)]
theorem pq_If.fr {S S1 : HS} {x tp pl rd wk mg pt ct sr A B : Nat} (h : pq_If S x tp pl rd wk mg pt ct sr A B) {M : List (Nat × Nat)} (hF : pq_Fr M S S1) (hM : ∀ q ∈ M, q ∉ pq_Ifl) : pq_If S1 x tp pl rd wk mg pt ct sr A B := by
  have nm : ∀ q, q ∈ pq_Ifl → q ∉ M := fun q hq hm => hM q hm hq
  obtain ⟨⟨a0, a1, a2, a3, a4, a5, a6, a7⟩, ⟨b0, b1, b2, b3, b4, b5, b6, b7, b8⟩, ⟨c0, c1, c2, c3⟩, ⟨d0, d1, d2, d3⟩⟩ := h
  have hr := (hF.2.2 pt 220 b6 (by decide) (nm _ (by decide))).2.2
  exact ⟨⟨hF.O b0 (by decide) (nm _ (by decide)) a0, hF.O b0 (by decide) (nm _ (by decide)) a1, hF.O b0 (by decide) (nm _ (by decide)) a2, hF.O b0 (by decide) (nm _ (by decide)) a3, hF.O b0 (by decide) (nm _ (by decide)) a4, hF.O b0 (by decide) (nm _ (by decide)) a5, hF.O b0 (by decide) (nm _ (by decide)) a6, hF.O b0 (by decide) (nm _ (by decide)) a7⟩,
    ⟨hF.R b0 (by decide), hF.R b1 (by decide), hF.R b2 (by decide), hF.R b3 (by decide), hF.R b4 (by decide), hF.R b5 (by decide), hF.R b6 (by decide), hF.R b7 (by decide), hF.R b8 (by decide)⟩,
    ⟨hF.O b3 (by decide) (nm _ (by decide)) c0, hF.O b3 (by decide) (nm _ (by decide)) c1, hF.O b4 (by decide) (nm _ (by decide)) c2, hF.O b5 (by decide) (nm _ (by decide)) c3⟩,
    ⟨by rw [hr]; exact d0, by rw [hr]; exact d1, hF.R d2 (by decide), hF.R d3 (by decide)⟩⟩
theorem pq_Iau.fr {S S1 : HS} {A r rk rs : Nat} (h : pq_Iau S A rk rs) (ht : pq_R S A r) (hr : r < 60) (h1 : 100 ≤ rk) (h2 : 100 ≤ rs) {M : List (Nat × Nat)} (hF : pq_Fr M S S1) (hM : ∀ q ∈ M, q ∉ [(r, 0), (r, 3), (r, 4), (r, 5), (r, 6), (rk, 0), (rs, 0)]) : pq_Iau S1 A rk rs := by
  obtain ⟨ko, st, n, sn, s0, P, h⟩ := h
  exact ⟨ko, st, n, sn, s0, P, h.fr ht hr h1 h2 hF hM⟩
theorem pq_Is.fr {S S1 : HS} {sr np nq : Nat} (h : pq_Is S sr np nq) (ht : pq_R S sr 10) {M : List (Nat × Nat)} (hF : pq_Fr M S S1) (hM : ∀ q ∈ M, q ∉ [(10, 2), (10, 3), (10, 4), (10, 6), (10, 7)]) : pq_Is S1 sr np nq := by
  have nm : ∀ q, q ∈ [(10, 2), (10, 3), (10, 4), (10, 6), (10, 7)] → q ∉ M := fun q hq hm => hM q hm hq
  obtain ⟨pr, og, sn, tx, le, ⟨a1, a2, a3, a4, a5, a6, a7, a8⟩, b1, b2, b3, b4, b5⟩ := h
  exact ⟨pr, og, sn, tx, le, ⟨hF.O ht (by decide) (nm _ (by decide)) a1, hF.R a2 (by decide), hF.O ht (by decide) (nm _ (by decide)) a3, hF.R a4 (by decide), hF.O ht (by decide) (nm _ (by decide)) a5, hF.R a6 (by decide), hF.O ht (by decide) (nm _ (by decide)) a7, hF.R a8 (by decide)⟩, hF.O ht (by decide) (nm _ (by decide)) b1, ⟨b2.1, by rw [(hF.1 tx 103 a8 (by decide)).2]; exact b2.2⟩, (hF.1 pr 164 a2 (by decide)).2.trans b3, (hF.1 og 165 a4 (by decide)).2.trans b4, (hF.1 sn 196 a6 (by decide)).2.trans b5⟩

set_option maxHeartbeats 4000000 in
set_option maxRecDepth 100000 in
theorem k_X9_init (l : Launch) (D : va_G) (cy : Nat → ClassId) (S : HS) (a : Nat) (ha : pq_R S a 72) (d1 : hO S a 1 = .int 0) : pq_C l D cy yX9_init cX9_init 1 (none) 1 1 2048 S [.ref a] (fun v S2 => v = none ∧ pq_G a S S2 ∧ pq_R S2 a 12 ∧ (hO S2 a 1 = .int 0)) := by
  refine pq_start (by decide) (Nat.le_of_ble_eq_true rfl) ?_
  intro p e s m args below meth c A F hr hlk hnm hA
  have lqm1 : (-1 : Int32).toInt = -1 := rfl
  have lq0 : (0 : Int32).toInt = 0 := rfl
  have lq1 : (1 : Int32).toInt = 1 := rfl
  have lq2048 : (2048 : Int32).toInt = 2048 := rfl
  refine pq_aload_n F dX9_init_0 rfl rfl ?_
  refine pq_objI F ow_X9_3 ⟨Nat.le_of_ble_eq_true rfl, Nat.le_of_ble_eq_true rfl⟩ dX9_init_1 ?_
  refine pq_aload_n F dX9_init_4 rfl rfl ?_
  refine pq_sipush (v := 2048) F dX9_init_5 (by decide) ?_
  refine pq_newB F (r := 104) (n := 2048) (by decide) (by decide) ac_byte rfl (by decide) (by focus (simp only [vp_in_iff, Int32.lt_iff_toInt_lt, Int32.le_iff_toInt_le, ← Int32.toInt_inj, Int32.toInt_add, Int32.toInt_sub, Int32.toInt_mul, Int32.toInt_neg, pq_NuO, pq_NuI, pq_NuJ, pq_NuR, pq_shr6, pq_shr7, pq_shr8, lqm1, lq0, lq1, lq2048] at *; (try simp (disch := omega) only [pq_bm] at *); all_goals omega)) rfl (by decide) (Nat.le_of_ble_eq_true rfl) (Nat.le_of_ble_eq_true rfl) (Nat.le_of_ble_eq_true rfl) dX9_init_8 (fun q8 nq8 h8 => ?_)
  have ha_8 := pq_nR (r := 104) (n := 2048) (ds := (fun _ => Value.null)) nq8 ha
  refine pq_putF F hnm ha_8 (by decide) lf_X9_9 rfl rfl (show pq_ok (pq_ft 72 0) _ _ from trivial) dX9_init_10 ?_
  refine pq_prom (r := 12) ha_8 (by decide) (by decide) (by decide) rfl (fun k => match k with | 0 => (show pq_ok (pq_ft 12 0) _ _ from ⟨by decide, _, pq_ks, h8⟩) | 1 => (show pq_ok (1, 0, 2048) _ _ from ⟨_, (pq_kp (pq_nO nq8 ha d1) (by decide)), (by focus (simp only [vp_in_iff, Int32.lt_iff_toInt_lt, Int32.le_iff_toInt_le, ← Int32.toInt_inj, Int32.toInt_add, Int32.toInt_sub, Int32.toInt_mul, Int32.toInt_neg, pq_NuO, pq_NuI, pq_NuJ, pq_NuR, pq_shr6, pq_shr7, pq_shr8, lqm1, lq0, lq1, lq2048] at *; (try simp (disch := omega) only [pq_bm] at *); all_goals omega)), (by focus (simp only [vp_in_iff, Int32.lt_iff_toInt_lt, Int32.le_iff_toInt_le, ← Int32.toInt_inj, Int32.toInt_add, Int32.toInt_sub, Int32.toInt_mul, Int32.toInt_neg, pq_NuO, pq_NuI, pq_NuJ, pq_NuR, pq_shr6, pq_shr7, pq_shr8, lqm1, lq0, lq1, lq2048] at *; (try simp (disch := omega) only [pq_bm] at *); all_goals omega))⟩) | _ + 2 => trivial) ?_
  have hpr := pq_rrR (r := 12) ha_8
  exact pq_vret F hr hlk hA (Nat.le_of_ble_eq_true rfl) (Nat.le_of_ble_eq_true rfl) (⟨rfl, (pq_G.rf.nw nq8).uO.rr, hpr, (pq_kp (pq_nO nq8 ha d1) (by decide))⟩) dX9_init_13

set_option maxHeartbeats 4000000 in
set_option maxRecDepth 100000 in
theorem k_X5_init (l : Launch) (D : va_G) (cy : Nat → ClassId) (S : HS) (a : Nat) (ha : pq_R S a 68) (d3 : hO S a 3 = .int 0) : pq_C l D cy yX5_init cX5_init 1 (none) 2 5 3713 S [.ref a] (fun v S2 => v = none ∧ pq_G a S S2 ∧ pq_R S2 a 8) := by
  refine pq_start (by decide) (Nat.le_of_ble_eq_true rfl) ?_
  intro p e s m args below meth c A F hr hlk hnm hA
  have lqm1 : (-1 : Int32).toInt = -1 := rfl
  have lq0 : (0 : Int32).toInt = 0 := rfl
  have lq1 : (1 : Int32).toInt = 1 := rfl
  have lq896 : (896 : Int32).toInt = 896 := rfl
  have lq2800 : (2800 : Int32).toInt = 2800 := rfl
  refine pq_aload_n F dX5_init_0 rfl rfl ?_
  refine pq_objI F ow_X5_3 ⟨Nat.le_of_ble_eq_true rfl, Nat.le_of_ble_eq_true rfl⟩ dX5_init_1 ?_
  refine pq_aload_n F dX5_init_4 rfl rfl ?_
  refine pq_sipush (v := 896) F dX5_init_5 (by decide) ?_
  refine pq_newJ F (r := 194) (n := 896) (by decide) (by decide) ac_long rfl (by decide) (by focus (simp only [vp_in_iff, Int32.lt_iff_toInt_lt, Int32.le_iff_toInt_le, ← Int32.toInt_inj, Int32.toInt_add, Int32.toInt_sub, Int32.toInt_mul, Int32.toInt_neg, pq_NuO, pq_NuI, pq_NuJ, pq_NuR, pq_shr6, pq_shr7, pq_shr8, lqm1, lq0, lq1, lq896, lq2800] at *; (try simp (disch := omega) only [pq_bm] at *); all_goals omega)) rfl (by decide) (Nat.le_of_ble_eq_true rfl) (Nat.le_of_ble_eq_true rfl) (Nat.le_of_ble_eq_true rfl) dX5_init_8 (fun q8 nq8 h8 => ?_)
  have ha_8 := pq_nR (r := 194) (n := 896) (ds := (fun _ => Value.null)) nq8 ha
  refine pq_putF F hnm ha_8 (by decide) lf_X5_9 rfl rfl (show pq_ok (pq_ft 68 0) _ _ from trivial) dX5_init_10 ?_
  refine pq_aload_n F dX5_init_13 rfl rfl ?_
  refine pq_sipush (v := 2800) F dX5_init_14 (by decide) ?_
  refine pq_newJ F (r := 195) (n := 2800) (by decide) (by decide) ac_long rfl (by decide) (by focus (simp only [vp_in_iff, Int32.lt_iff_toInt_lt, Int32.le_iff_toInt_le, ← Int32.toInt_inj, Int32.toInt_add, Int32.toInt_sub, Int32.toInt_mul, Int32.toInt_neg, pq_NuO, pq_NuI, pq_NuJ, pq_NuR, pq_shr6, pq_shr7, pq_shr8, lqm1, lq0, lq1, lq896, lq2800] at *; (try simp (disch := omega) only [pq_bm] at *); all_goals omega)) rfl (by decide) (Nat.le_of_ble_eq_true rfl) (Nat.le_of_ble_eq_true rfl) (Nat.le_of_ble_eq_true rfl) dX5_init_17 (fun q17 nq17 h17 => ?_)
  have ha_17 := pq_nR (r := 195) (n := 2800) (ds := (fun _ => Value.null)) nq17 ha_8
  have h8_17 := pq_nR (r := 195) (n := 2800) (ds := (fun _ => Value.null)) nq17 h8
  refine pq_putF F hnm ha_17 (by decide) lf_X5_15 rfl rfl (show pq_ok (pq_ft 68 1) _ _ from trivial) dX5_init_19 ?_
  refine pq_aload_n F dX5_init_22 rfl rfl ?_
  refine pq_newO F nw_X5_18 (by decide) (fun _ => rfl) (Nat.le_of_ble_eq_true rfl) (Nat.le_of_ble_eq_true rfl) dX5_init_23 (fun q23 nq23 h23 => ?_)
  have ha_23 := pq_nR (r := 65) (n := 0) (ds := (fun k => defaultValue (tyX2 k))) nq23 ha_17
  have h8_23 := pq_nR (r := 65) (n := 0) (ds := (fun k => defaultValue (tyX2 k))) nq23 h8_17
  have h17_23 := pq_nR (r := 65) (n := 0) (ds := (fun k => defaultValue (tyX2 k))) nq23 h17
  refine pq_dup F dX5_init_26 rfl ?_
  refine pq_callI (As := []) F (k_X2_init l D cy _ _ ?_ (pq_nwO.trans rfl)) ml_X5_20 (Nat.le_of_ble_eq_true rfl) ⟨Nat.le_of_ble_eq_true rfl, Nat.le_of_ble_eq_true rfl⟩ ⟨Nat.le_of_ble_eq_true rfl, Nat.le_of_ble_eq_true rfl⟩ dX5_init_27 (fun v27 S27 w27 => ?_)
  · exact h23
  obtain ⟨rfl, hG27, hy27⟩ := w27
  have ha_27 := (hG27 _ _ ha_23 (pq_nrole ha_23 h23 (by decide))).1
  have ec27_3_ha_27 := hG27.e ha_23 (pq_nrole ha_23 h23 (by decide)) (pq_nO nq23 ha_17 (pq_kp (pq_nO nq17 ha_8 (pq_kp (pq_nO nq8 ha d3) (by decide))) (by decide)))
  have h8_27 := (hG27 _ _ h8_23 (pq_nrole h8_23 h23 (by decide))).1
  have ec27_0_ha_27 := hG27.e ha_23 (pq_nrole ha_23 h23 (by decide)) (pq_nO nq23 ha_17 (pq_kp (pq_nO nq17 ha_8 pq_ks) (by decide)))
  have h17_27 := (hG27 _ _ h17_23 (pq_nrole h17_23 h23 (by decide))).1
  have ec27_1_ha_27 := hG27.e ha_23 (pq_nrole ha_23 h23 (by decide)) (pq_nO nq23 ha_17 pq_ks)
  refine pq_putF F hnm ha_27 (by decide) lf_X5_21 rfl rfl (show pq_ok (pq_ft 68 2) _ _ from trivial) dX5_init_30 ?_
  refine pq_prom (r := 8) ha_27 (by decide) (by decide) (by decide) rfl (fun k => match k with | 0 => (show pq_ok (pq_ft 8 0) _ _ from ⟨by decide, _, (pq_kp ec27_0_ha_27 (by decide)), h8_27⟩) | 1 => (show pq_ok (pq_ft 8 1) _ _ from ⟨by decide, _, (pq_kp ec27_1_ha_27 (by decide)), h17_27⟩) | 2 => (show pq_ok (pq_ft 8 2) _ _ from ⟨by decide, _, pq_ks, hy27⟩) | 3 => (show pq_ok (1, 0, 400) _ _ from ⟨_, (pq_kp ec27_3_ha_27 (by decide)), (by focus (simp only [vp_in_iff, Int32.lt_iff_toInt_lt, Int32.le_iff_toInt_le, ← Int32.toInt_inj, Int32.toInt_add, Int32.toInt_sub, Int32.toInt_mul, Int32.toInt_neg, pq_NuO, pq_NuI, pq_NuJ, pq_NuR, pq_shr6, pq_shr7, pq_shr8, lqm1, lq0, lq1, lq896, lq2800] at *; (try simp (disch := omega) only [pq_bm] at *); all_goals omega)), (by focus (simp only [vp_in_iff, Int32.lt_iff_toInt_lt, Int32.le_iff_toInt_le, ← Int32.toInt_inj, Int32.toInt_add, Int32.toInt_sub, Int32.toInt_mul, Int32.toInt_neg, pq_NuO, pq_NuI, pq_NuJ, pq_NuR, pq_shr6, pq_shr7, pq_shr8, lqm1, lq0, lq1, lq896, lq2800] at *; (try simp (disch := omega) only [pq_bm] at *); all_goals omega))⟩) | _ + 4 => trivial) ?_
  have hpr := pq_rrR (r := 8) ha_27
  exact pq_vret F hr hlk hA (Nat.le_of_ble_eq_true rfl) (Nat.le_of_ble_eq_true rfl) (⟨rfl, (((pq_G.rf.nw nq8).uO.nw nq17).uO.gn nq23 hG27).uO.rr, hpr⟩) dX5_init_33

set_option maxHeartbeats 4000000 in
set_option maxRecDepth 100000 in
theorem k_X6_init (l : Launch) (D : va_G) (cy : Nat → ClassId) (S : HS) (a : Nat) (ha : pq_R S a 69) (tp : Nat) (htp : pq_R S tp 12) (pl : Nat) (hpl : pq_R S pl 8) (d5 : hO S a 5 = .int 0) (d6 : hO S a 6 = .int 0) (d7 : hO S a 7 = .int 0) (d8 : hO S a 8 = .long 0) (d9 : hO S a 9 = .long 0) : pq_C l D cy yX6_init cX6_init 3 (none) 2 5 99 S [.ref a, .ref tp, .ref pl] (fun v S2 => v = none ∧ pq_G a S S2 ∧ pq_R S2 a 9 ∧ (hO S2 a 0 = .ref tp ∧ hO S2 a 1 = .ref pl)) := by
  refine pq_start (by decide) (Nat.le_of_ble_eq_true rfl) ?_
  intro p e s m args below meth c A F hr hlk hnm hA
  have lqm1 : (-1 : Int32).toInt = -1 := rfl
  have lq0 : (0 : Int32).toInt = 0 := rfl
  have lq1 : (1 : Int32).toInt = 1 := rfl
  have lq41 : (41 : Int32).toInt = 41 := rfl
  refine pq_aload_n F dX6_init_0 rfl rfl ?_
  refine pq_objI F ow_X6_3 ⟨Nat.le_of_ble_eq_true rfl, Nat.le_of_ble_eq_true rfl⟩ dX6_init_1 ?_
  refine pq_aload_n F dX6_init_4 rfl rfl ?_
  refine pq_bipush (v := 41) F dX6_init_5 (by decide) ?_
  refine pq_newR F (r := 230) (n := 41) (by decide) cl_X6_9 (by focus (simp only [vp_in_iff, Int32.lt_iff_toInt_lt, Int32.le_iff_toInt_le, ← Int32.toInt_inj, Int32.toInt_add, Int32.toInt_sub, Int32.toInt_mul, Int32.toInt_neg, pq_NuO, pq_NuI, pq_NuJ, pq_NuR, pq_shr6, pq_shr7, pq_shr8, lqm1, lq0, lq1, lq41] at *; (try simp (disch := omega) only [pq_bm] at *); all_goals omega)) rfl (by decide) (by decide) (Nat.le_of_ble_eq_true rfl) (Nat.le_of_ble_eq_true rfl) (Nat.le_of_ble_eq_true rfl) dX6_init_7 (fun q7 nq7 h7 => ?_)
  have ha_7 := pq_nR (r := 230) (n := 41) (ds := (fun _ => Value.null)) nq7 ha
  have htp_7 := pq_nR (r := 230) (n := 41) (ds := (fun _ => Value.null)) nq7 htp
  have hpl_7 := pq_nR (r := 230) (n := 41) (ds := (fun _ => Value.null)) nq7 hpl
  refine pq_putF F hnm ha_7 (by decide) lf_X6_11 rfl rfl (show pq_ok (pq_ft 69 2) _ _ from trivial) dX6_init_10 ?_
  refine pq_aload_n F dX6_init_13 rfl rfl ?_
  refine pq_bipush (v := 41) F dX6_init_14 (by decide) ?_
  refine pq_newR F (r := 231) (n := 41) (by decide) cl_X6_9 (by focus (simp only [vp_in_iff, Int32.lt_iff_toInt_lt, Int32.le_iff_toInt_le, ← Int32.toInt_inj, Int32.toInt_add, Int32.toInt_sub, Int32.toInt_mul, Int32.toInt_neg, pq_NuO, pq_NuI, pq_NuJ, pq_NuR, pq_shr6, pq_shr7, pq_shr8, lqm1, lq0, lq1, lq41] at *; (try simp (disch := omega) only [pq_bm] at *); all_goals omega)) rfl (by decide) (by decide) (Nat.le_of_ble_eq_true rfl) (Nat.le_of_ble_eq_true rfl) (Nat.le_of_ble_eq_true rfl) dX6_init_16 (fun q16 nq16 h16 => ?_)
  have ha_16 := pq_nR (r := 231) (n := 41) (ds := (fun _ => Value.null)) nq16 ha_7
  have htp_16 := pq_nR (r := 231) (n := 41) (ds := (fun _ => Value.null)) nq16 htp_7
  have hpl_16 := pq_nR (r := 231) (n := 41) (ds := (fun _ => Value.null)) nq16 hpl_7
  have h7_16 := pq_nR (r := 231) (n := 41) (ds := (fun _ => Value.null)) nq16 h7
  refine pq_putF F hnm ha_16 (by decide) lf_X6_17 rfl rfl (show pq_ok (pq_ft 69 3) _ _ from trivial) dX6_init_19 ?_
  refine pq_aload_n F dX6_init_22 rfl rfl ?_
  refine pq_newO F nw_X6_9 (by decide) (fun _ => rfl) (Nat.le_of_ble_eq_true rfl) (Nat.le_of_ble_eq_true rfl) dX6_init_23 (fun q23 nq23 h23 => ?_)
  have ha_23 := pq_nR (r := 65) (n := 0) (ds := (fun k => defaultValue (tyX2 k))) nq23 ha_16
  have htp_23 := pq_nR (r := 65) (n := 0) (ds := (fun k => defaultValue (tyX2 k))) nq23 htp_16
  have hpl_23 := pq_nR (r := 65) (n := 0) (ds := (fun k => defaultValue (tyX2 k))) nq23 hpl_16
  have h7_23 := pq_nR (r := 65) (n := 0) (ds := (fun k => defaultValue (tyX2 k))) nq23 h7_16
  have h16_23 := pq_nR (r := 65) (n := 0) (ds := (fun k => defaultValue (tyX2 k))) nq23 h16
  refine pq_dup F dX6_init_26 rfl ?_
  refine pq_callI (As := []) F (k_X2_init l D cy _ _ ?_ (pq_nwO.trans rfl)) ml_X6_20 (Nat.le_of_ble_eq_true rfl) ⟨Nat.le_of_ble_eq_true rfl, Nat.le_of_ble_eq_true rfl⟩ ⟨Nat.le_of_ble_eq_true rfl, Nat.le_of_ble_eq_true rfl⟩ dX6_init_27 (fun v27 S27 w27 => ?_)
  · exact h23
  obtain ⟨rfl, hG27, hy27⟩ := w27
  have ha_27 := (hG27 _ _ ha_23 (pq_nrole ha_23 h23 (by decide))).1
  have htp_27 := (hG27 _ _ htp_23 (pq_nrole htp_23 h23 (by decide))).1
  have hpl_27 := (hG27 _ _ hpl_23 (pq_nrole hpl_23 h23 (by decide))).1
  have ec27_5_ha_27 := hG27.e ha_23 (pq_nrole ha_23 h23 (by decide)) (pq_nO nq23 ha_16 (pq_kp (pq_nO nq16 ha_7 (pq_kp (pq_nO nq7 ha d5) (by decide))) (by decide)))
  have ec27_6_ha_27 := hG27.e ha_23 (pq_nrole ha_23 h23 (by decide)) (pq_nO nq23 ha_16 (pq_kp (pq_nO nq16 ha_7 (pq_kp (pq_nO nq7 ha d6) (by decide))) (by decide)))
  have ec27_7_ha_27 := hG27.e ha_23 (pq_nrole ha_23 h23 (by decide)) (pq_nO nq23 ha_16 (pq_kp (pq_nO nq16 ha_7 (pq_kp (pq_nO nq7 ha d7) (by decide))) (by decide)))
  have ec27_8_ha_27 := hG27.e ha_23 (pq_nrole ha_23 h23 (by decide)) (pq_nO nq23 ha_16 (pq_kp (pq_nO nq16 ha_7 (pq_kp (pq_nO nq7 ha d8) (by decide))) (by decide)))
  have ec27_9_ha_27 := hG27.e ha_23 (pq_nrole ha_23 h23 (by decide)) (pq_nO nq23 ha_16 (pq_kp (pq_nO nq16 ha_7 (pq_kp (pq_nO nq7 ha d9) (by decide))) (by decide)))
  have h7_27 := (hG27 _ _ h7_23 (pq_nrole h7_23 h23 (by decide))).1
  have ec27_2_ha_27 := hG27.e ha_23 (pq_nrole ha_23 h23 (by decide)) (pq_nO nq23 ha_16 (pq_kp (pq_nO nq16 ha_7 pq_ks) (by decide)))
  have h16_27 := (hG27 _ _ h16_23 (pq_nrole h16_23 h23 (by decide))).1
  have ec27_3_ha_27 := hG27.e ha_23 (pq_nrole ha_23 h23 (by decide)) (pq_nO nq23 ha_16 pq_ks)
  refine pq_putF F hnm ha_27 (by decide) lf_X6_21 rfl rfl (show pq_ok (pq_ft 69 4) _ _ from trivial) dX6_init_30 ?_
  refine pq_aload_n F dX6_init_33 rfl rfl ?_
  refine pq_aload_n F dX6_init_34 rfl rfl ?_
  refine pq_putF F hnm ha_27 (by decide) lf_X6_25 rfl rfl (show pq_ok (pq_ft 69 0) _ _ from trivial) dX6_init_35 ?_
  refine pq_aload_n F dX6_init_38 rfl rfl ?_
  refine pq_aload_n F dX6_init_39 rfl rfl ?_
  refine pq_putF F hnm ha_27 (by decide) lf_X6_29 rfl rfl (show pq_ok (pq_ft 69 1) _ _ from trivial) dX6_init_40 ?_
  refine pq_prom (r := 9) ha_27 (by decide) (by decide) (by decide) rfl (fun k => match k with | 0 => (show pq_ok (pq_ft 9 0) _ _ from ⟨by decide, _, (pq_kp pq_ks (by decide)), htp_27⟩) | 1 => (show pq_ok (pq_ft 9 1) _ _ from ⟨by decide, _, pq_ks, hpl_27⟩) | 2 => (show pq_ok (pq_ft 9 2) _ _ from ⟨by decide, _, (pq_kp (pq_kp (pq_kp ec27_2_ha_27 (by decide)) (by decide)) (by decide)), h7_27⟩) | 3 => (show pq_ok (pq_ft 9 3) _ _ from ⟨by decide, _, (pq_kp (pq_kp (pq_kp ec27_3_ha_27 (by decide)) (by decide)) (by decide)), h16_27⟩) | 4 => (show pq_ok (pq_ft 9 4) _ _ from ⟨by decide, _, (pq_kp (pq_kp pq_ks (by decide)) (by decide)), hy27⟩) | 5 => (show pq_ok (1, -2147483648, 2147483647) _ _ from ⟨_, (pq_kp (pq_kp (pq_kp ec27_5_ha_27 (by decide)) (by decide)) (by decide)), (by focus (simp only [vp_in_iff, Int32.lt_iff_toInt_lt, Int32.le_iff_toInt_le, ← Int32.toInt_inj, Int32.toInt_add, Int32.toInt_sub, Int32.toInt_mul, Int32.toInt_neg, pq_NuO, pq_NuI, pq_NuJ, pq_NuR, pq_shr6, pq_shr7, pq_shr8, lqm1, lq0, lq1, lq41] at *; (try simp (disch := omega) only [pq_bm] at *); all_goals omega)), (by focus (simp only [vp_in_iff, Int32.lt_iff_toInt_lt, Int32.le_iff_toInt_le, ← Int32.toInt_inj, Int32.toInt_add, Int32.toInt_sub, Int32.toInt_mul, Int32.toInt_neg, pq_NuO, pq_NuI, pq_NuJ, pq_NuR, pq_shr6, pq_shr7, pq_shr8, lqm1, lq0, lq1, lq41] at *; (try simp (disch := omega) only [pq_bm] at *); all_goals omega))⟩) | 6 => (show pq_ok (1, 0, 40) _ _ from ⟨_, (pq_kp (pq_kp (pq_kp ec27_6_ha_27 (by decide)) (by decide)) (by decide)), (by focus (simp only [vp_in_iff, Int32.lt_iff_toInt_lt, Int32.le_iff_toInt_le, ← Int32.toInt_inj, Int32.toInt_add, Int32.toInt_sub, Int32.toInt_mul, Int32.toInt_neg, pq_NuO, pq_NuI, pq_NuJ, pq_NuR, pq_shr6, pq_shr7, pq_shr8, lqm1, lq0, lq1, lq41] at *; (try simp (disch := omega) only [pq_bm] at *); all_goals omega)), (by focus (simp only [vp_in_iff, Int32.lt_iff_toInt_lt, Int32.le_iff_toInt_le, ← Int32.toInt_inj, Int32.toInt_add, Int32.toInt_sub, Int32.toInt_mul, Int32.toInt_neg, pq_NuO, pq_NuI, pq_NuJ, pq_NuR, pq_shr6, pq_shr7, pq_shr8, lqm1, lq0, lq1, lq41] at *; (try simp (disch := omega) only [pq_bm] at *); all_goals omega))⟩) | 7 => (show pq_ok (1, -2147483648, 2147483647) _ _ from ⟨_, (pq_kp (pq_kp (pq_kp ec27_7_ha_27 (by decide)) (by decide)) (by decide)), (by focus (simp only [vp_in_iff, Int32.lt_iff_toInt_lt, Int32.le_iff_toInt_le, ← Int32.toInt_inj, Int32.toInt_add, Int32.toInt_sub, Int32.toInt_mul, Int32.toInt_neg, pq_NuO, pq_NuI, pq_NuJ, pq_NuR, pq_shr6, pq_shr7, pq_shr8, lqm1, lq0, lq1, lq41] at *; (try simp (disch := omega) only [pq_bm] at *); all_goals omega)), (by focus (simp only [vp_in_iff, Int32.lt_iff_toInt_lt, Int32.le_iff_toInt_le, ← Int32.toInt_inj, Int32.toInt_add, Int32.toInt_sub, Int32.toInt_mul, Int32.toInt_neg, pq_NuO, pq_NuI, pq_NuJ, pq_NuR, pq_shr6, pq_shr7, pq_shr8, lqm1, lq0, lq1, lq41] at *; (try simp (disch := omega) only [pq_bm] at *); all_goals omega))⟩) | 8 => (show pq_ok (pq_ft 9 8) _ _ from ⟨_, (pq_kp (pq_kp (pq_kp ec27_8_ha_27 (by decide)) (by decide)) (by decide))⟩) | 9 => (show pq_ok (pq_ft 9 9) _ _ from ⟨_, (pq_kp (pq_kp (pq_kp ec27_9_ha_27 (by decide)) (by decide)) (by decide))⟩) | _ + 10 => trivial) ?_
  have hpr := pq_rrR (r := 9) ha_27
  have htp_27P := pq_rrO (a := a) (r := 9) htp_27 (pq_nrole htp_27 ha_27 (by decide))
  have hpl_27P := pq_rrO (a := a) (r := 9) hpl_27 (pq_nrole hpl_27 ha_27 (by decide))
  exact pq_vret F hr hlk hA (Nat.le_of_ble_eq_true rfl) (Nat.le_of_ble_eq_true rfl) (⟨rfl, (((pq_G.rf.nw nq7).uO.nw nq16).uO.gn nq23 hG27).uO.uO.uO.rr, hpr, (pq_kp pq_ks (by decide)), pq_ks⟩) dX6_init_43

set_option maxHeartbeats 4000000 in
set_option maxRecDepth 100000 in
theorem k_X3_init (l : Launch) (D : va_G) (cy : Nat → ClassId) (S : HS) (a : Nat) (ha : pq_R S a 66) (d3 : hO S a 3 = .int 0) : pq_C l D cy yX3_init cX3_init 1 (none) 1 3 384 S [.ref a] (fun v S2 => v = none ∧ pq_G a S S2 ∧ pq_R S2 a 6) := by
  refine pq_start (by decide) (Nat.le_of_ble_eq_true rfl) ?_
  intro p e s m args below meth c A F hr hlk hnm hA
  have lqm1 : (-1 : Int32).toInt = -1 := rfl
  have lq0 : (0 : Int32).toInt = 0 := rfl
  have lq1 : (1 : Int32).toInt = 1 := rfl
  have lq128 : (128 : Int32).toInt = 128 := rfl
  refine pq_aload_n F dX3_init_0 rfl rfl ?_
  refine pq_objI F ow_X3_3 ⟨Nat.le_of_ble_eq_true rfl, Nat.le_of_ble_eq_true rfl⟩ dX3_init_1 ?_
  refine pq_aload_n F dX3_init_4 rfl rfl ?_
  refine pq_sipush (v := 128) F dX3_init_5 (by decide) ?_
  refine pq_newI F (r := 156) (n := 128) (by decide) (by decide) ac_int rfl (by decide) (by focus (simp only [vp_in_iff, Int32.lt_iff_toInt_lt, Int32.le_iff_toInt_le, ← Int32.toInt_inj, Int32.toInt_add, Int32.toInt_sub, Int32.toInt_mul, Int32.toInt_neg, pq_NuO, pq_NuI, pq_NuJ, pq_NuR, pq_shr6, pq_shr7, pq_shr8, lqm1, lq0, lq1, lq128] at *; (try simp (disch := omega) only [pq_bm] at *); all_goals omega)) rfl (by decide) (Nat.le_of_ble_eq_true rfl) (Nat.le_of_ble_eq_true rfl) (Nat.le_of_ble_eq_true rfl) dX3_init_8 (fun q8 nq8 h8 => ?_)
  have ha_8 := pq_nR (r := 156) (n := 128) (ds := (fun _ => Value.null)) nq8 ha
  refine pq_putF F hnm ha_8 (by decide) lf_X3_9 rfl rfl (show pq_ok (pq_ft 66 0) _ _ from trivial) dX3_init_10 ?_
  refine pq_aload_n F dX3_init_13 rfl rfl ?_
  refine pq_sipush (v := 128) F dX3_init_14 (by decide) ?_
  refine pq_newI F (r := 157) (n := 128) (by decide) (by decide) ac_int rfl (by decide) (by focus (simp only [vp_in_iff, Int32.lt_iff_toInt_lt, Int32.le_iff_toInt_le, ← Int32.toInt_inj, Int32.toInt_add, Int32.toInt_sub, Int32.toInt_mul, Int32.toInt_neg, pq_NuO, pq_NuI, pq_NuJ, pq_NuR, pq_shr6, pq_shr7, pq_shr8, lqm1, lq0, lq1, lq128] at *; (try simp (disch := omega) only [pq_bm] at *); all_goals omega)) rfl (by decide) (Nat.le_of_ble_eq_true rfl) (Nat.le_of_ble_eq_true rfl) (Nat.le_of_ble_eq_true rfl) dX3_init_17 (fun q17 nq17 h17 => ?_)
  have ha_17 := pq_nR (r := 157) (n := 128) (ds := (fun _ => Value.null)) nq17 ha_8
  have h8_17 := pq_nR (r := 157) (n := 128) (ds := (fun _ => Value.null)) nq17 h8
  refine pq_putF F hnm ha_17 (by decide) lf_X3_15 rfl rfl (show pq_ok (pq_ft 66 1) _ _ from trivial) dX3_init_19 ?_
  refine pq_aload_n F dX3_init_22 rfl rfl ?_
  refine pq_sipush (v := 128) F dX3_init_23 (by decide) ?_
  refine pq_newI F (r := 158) (n := 128) (by decide) (by decide) ac_int rfl (by decide) (by focus (simp only [vp_in_iff, Int32.lt_iff_toInt_lt, Int32.le_iff_toInt_le, ← Int32.toInt_inj, Int32.toInt_add, Int32.toInt_sub, Int32.toInt_mul, Int32.toInt_neg, pq_NuO, pq_NuI, pq_NuJ, pq_NuR, pq_shr6, pq_shr7, pq_shr8, lqm1, lq0, lq1, lq128] at *; (try simp (disch := omega) only [pq_bm] at *); all_goals omega)) rfl (by decide) (Nat.le_of_ble_eq_true rfl) (Nat.le_of_ble_eq_true rfl) (Nat.le_of_ble_eq_true rfl) dX3_init_26 (fun q26 nq26 h26 => ?_)
  have ha_26 := pq_nR (r := 158) (n := 128) (ds := (fun _ => Value.null)) nq26 ha_17
  have h8_26 := pq_nR (r := 158) (n := 128) (ds := (fun _ => Value.null)) nq26 h8_17
  have h17_26 := pq_nR (r := 158) (n := 128) (ds := (fun _ => Value.null)) nq26 h17
  refine pq_putF F hnm ha_26 (by decide) lf_X3_18 rfl rfl (show pq_ok (pq_ft 66 2) _ _ from trivial) dX3_init_28 ?_
  refine pq_prom (r := 6) ha_26 (by decide) (by decide) (by decide) rfl (fun k => match k with | 0 => (show pq_ok (pq_ft 6 0) _ _ from ⟨by decide, _, (pq_kp (pq_nO nq26 ha_17 (pq_kp (pq_nO nq17 ha_8 pq_ks) (by decide))) (by decide)), h8_26⟩) | 1 => (show pq_ok (pq_ft 6 1) _ _ from ⟨by decide, _, (pq_kp (pq_nO nq26 ha_17 pq_ks) (by decide)), h17_26⟩) | 2 => (show pq_ok (pq_ft 6 2) _ _ from ⟨by decide, _, pq_ks, h26⟩) | 3 => (show pq_ok (1, 0, 128) _ _ from ⟨_, (pq_kp (pq_nO nq26 ha_17 (pq_kp (pq_nO nq17 ha_8 (pq_kp (pq_nO nq8 ha d3) (by decide))) (by decide))) (by decide)), (by focus (simp only [vp_in_iff, Int32.lt_iff_toInt_lt, Int32.le_iff_toInt_le, ← Int32.toInt_inj, Int32.toInt_add, Int32.toInt_sub, Int32.toInt_mul, Int32.toInt_neg, pq_NuO, pq_NuI, pq_NuJ, pq_NuR, pq_shr6, pq_shr7, pq_shr8, lqm1, lq0, lq1, lq128] at *; (try simp (disch := omega) only [pq_bm] at *); all_goals omega)), (by focus (simp only [vp_in_iff, Int32.lt_iff_toInt_lt, Int32.le_iff_toInt_le, ← Int32.toInt_inj, Int32.toInt_add, Int32.toInt_sub, Int32.toInt_mul, Int32.toInt_neg, pq_NuO, pq_NuI, pq_NuJ, pq_NuR, pq_shr6, pq_shr7, pq_shr8, lqm1, lq0, lq1, lq128] at *; (try simp (disch := omega) only [pq_bm] at *); all_goals omega))⟩) | _ + 4 => trivial) ?_
  have hpr := pq_rrR (r := 6) ha_26
  exact pq_vret F hr hlk hA (Nat.le_of_ble_eq_true rfl) (Nat.le_of_ble_eq_true rfl) (⟨rfl, (((pq_G.rf.nw nq8).uO.nw nq17).uO.nw nq26).uO.rr, hpr⟩) dX3_init_31

set_option maxHeartbeats 4000000 in
set_option maxRecDepth 100000 in
theorem k_X8_init (l : Launch) (D : va_G) (cy : Nat → ClassId) (S : HS) (a : Nat) (ha : pq_R S a 71) (pl : Nat) (hpl : pq_R S pl 8) (d7 : hO S a 7 = .int 0) (d8 : hO S a 8 = .int 0) (d9 : hO S a 9 = .int 0) : pq_C l D cy yX8_init cX8_init 2 (none) 2 9 4240 S [.ref a, .ref pl] (fun v S2 => v = none ∧ pq_G a S S2 ∧ pq_R S2 a 11 ∧ (hO S2 a 0 = .ref pl)) := by
  refine pq_start (by decide) (Nat.le_of_ble_eq_true rfl) ?_
  intro p e s m args below meth c A F hr hlk hnm hA
  have lqm1 : (-1 : Int32).toInt = -1 := rfl
  have lq0 : (0 : Int32).toInt = 0 := rfl
  have lq1 : (1 : Int32).toInt = 1 := rfl
  have lq7 : (7 : Int32).toInt = 7 := rfl
  have lq1024 : (1024 : Int32).toInt = 1024 := rfl
  have lq2814 : (2814 : Int32).toInt = 2814 := rfl
  refine pq_aload_n F dX8_init_0 rfl rfl ?_
  refine pq_objI F ow_X8_3 ⟨Nat.le_of_ble_eq_true rfl, Nat.le_of_ble_eq_true rfl⟩ dX8_init_1 ?_
  refine pq_aload_n F dX8_init_4 rfl rfl ?_
  refine pq_newO F nw_X8_9 (by decide) (fun _ => rfl) (Nat.le_of_ble_eq_true rfl) (Nat.le_of_ble_eq_true rfl) dX8_init_5 (fun q5 nq5 h5 => ?_)
  have ha_5 := pq_nR (r := 66) (n := 0) (ds := (fun k => defaultValue (tyX3 k))) nq5 ha
  have hpl_5 := pq_nR (r := 66) (n := 0) (ds := (fun k => defaultValue (tyX3 k))) nq5 hpl
  refine pq_dup F dX8_init_8 rfl ?_
  refine pq_callI (As := []) F (k_X3_init l D cy _ _ ?_ (pq_nwO.trans rfl)) ml_X8_11 (Nat.le_of_ble_eq_true rfl) ⟨Nat.le_of_ble_eq_true rfl, Nat.le_of_ble_eq_true rfl⟩ ⟨Nat.le_of_ble_eq_true rfl, Nat.le_of_ble_eq_true rfl⟩ dX8_init_9 (fun v9 S9 w9 => ?_)
  · exact h5
  obtain ⟨rfl, hG9, hy9⟩ := w9
  have ha_9 := (hG9 _ _ ha_5 (pq_nrole ha_5 h5 (by decide))).1
  have hpl_9 := (hG9 _ _ hpl_5 (pq_nrole hpl_5 h5 (by decide))).1
  have ec9_7_ha_9 := hG9.e ha_5 (pq_nrole ha_5 h5 (by decide)) (pq_nO nq5 ha d7)
  have ec9_8_ha_9 := hG9.e ha_5 (pq_nrole ha_5 h5 (by decide)) (pq_nO nq5 ha d8)
  have ec9_9_ha_9 := hG9.e ha_5 (pq_nrole ha_5 h5 (by decide)) (pq_nO nq5 ha d9)
  refine pq_putF F hnm ha_9 (by decide) lf_X8_12 rfl rfl (show pq_ok (pq_ft 71 1) _ _ from trivial) dX8_init_12 ?_
  refine pq_aload_n F dX8_init_15 rfl rfl ?_
  refine pq_sipush (v := 2814) F dX8_init_16 (by decide) ?_
  refine pq_newJ F (r := 197) (n := 2814) (by decide) (by decide) ac_long rfl (by decide) (by focus (simp only [vp_in_iff, Int32.lt_iff_toInt_lt, Int32.le_iff_toInt_le, ← Int32.toInt_inj, Int32.toInt_add, Int32.toInt_sub, Int32.toInt_mul, Int32.toInt_neg, pq_NuO, pq_NuI, pq_NuJ, pq_NuR, pq_shr6, pq_shr7, pq_shr8, lqm1, lq0, lq1, lq7, lq1024, lq2814] at *; (try simp (disch := omega) only [pq_bm] at *); all_goals omega)) rfl (by decide) (Nat.le_of_ble_eq_true rfl) (Nat.le_of_ble_eq_true rfl) (Nat.le_of_ble_eq_true rfl) dX8_init_19 (fun q19 nq19 h19 => ?_)
  have ha_19 := pq_nR (r := 197) (n := 2814) (ds := (fun _ => Value.null)) nq19 ha_9
  have hpl_19 := pq_nR (r := 197) (n := 2814) (ds := (fun _ => Value.null)) nq19 hpl_9
  have hy9_19 := pq_nR (r := 197) (n := 2814) (ds := (fun _ => Value.null)) nq19 hy9
  refine pq_putF F hnm ha_19 (by decide) lf_X8_18 rfl rfl (show pq_ok (pq_ft 71 2) _ _ from trivial) dX8_init_21 ?_
  refine pq_aload_n F dX8_init_24 rfl rfl ?_
  refine pq_sipush (v := 1024) F dX8_init_25 (by decide) ?_
  refine pq_newI F (r := 166) (n := 1024) (by decide) (by decide) ac_int rfl (by decide) (by focus (simp only [vp_in_iff, Int32.lt_iff_toInt_lt, Int32.le_iff_toInt_le, ← Int32.toInt_inj, Int32.toInt_add, Int32.toInt_sub, Int32.toInt_mul, Int32.toInt_neg, pq_NuO, pq_NuI, pq_NuJ, pq_NuR, pq_shr6, pq_shr7, pq_shr8, lqm1, lq0, lq1, lq7, lq1024, lq2814] at *; (try simp (disch := omega) only [pq_bm] at *); all_goals omega)) rfl (by decide) (Nat.le_of_ble_eq_true rfl) (Nat.le_of_ble_eq_true rfl) (Nat.le_of_ble_eq_true rfl) dX8_init_28 (fun q28 nq28 h28 => ?_)
  have ha_28 := pq_nR (r := 166) (n := 1024) (ds := (fun _ => Value.null)) nq28 ha_19
  have hpl_28 := pq_nR (r := 166) (n := 1024) (ds := (fun _ => Value.null)) nq28 hpl_19
  have hy9_28 := pq_nR (r := 166) (n := 1024) (ds := (fun _ => Value.null)) nq28 hy9_19
  have h19_28 := pq_nR (r := 166) (n := 1024) (ds := (fun _ => Value.null)) nq28 h19
  refine pq_putF F hnm ha_28 (by decide) lf_X8_22 rfl rfl (show pq_ok (pq_ft 71 3) _ _ from trivial) dX8_init_30 ?_
  refine pq_aload_n F dX8_init_33 rfl rfl ?_
  refine pq_bipush (v := 7) F dX8_init_34 (by decide) ?_
  refine pq_newJ F (r := 198) (n := 7) (by decide) (by decide) ac_long rfl (by decide) (by focus (simp only [vp_in_iff, Int32.lt_iff_toInt_lt, Int32.le_iff_toInt_le, ← Int32.toInt_inj, Int32.toInt_add, Int32.toInt_sub, Int32.toInt_mul, Int32.toInt_neg, pq_NuO, pq_NuI, pq_NuJ, pq_NuR, pq_shr6, pq_shr7, pq_shr8, lqm1, lq0, lq1, lq7, lq1024, lq2814] at *; (try simp (disch := omega) only [pq_bm] at *); all_goals omega)) rfl (by decide) (Nat.le_of_ble_eq_true rfl) (Nat.le_of_ble_eq_true rfl) (Nat.le_of_ble_eq_true rfl) dX8_init_36 (fun q36 nq36 h36 => ?_)
  have ha_36 := pq_nR (r := 198) (n := 7) (ds := (fun _ => Value.null)) nq36 ha_28
  have hpl_36 := pq_nR (r := 198) (n := 7) (ds := (fun _ => Value.null)) nq36 hpl_28
  have hy9_36 := pq_nR (r := 198) (n := 7) (ds := (fun _ => Value.null)) nq36 hy9_28
  have h19_36 := pq_nR (r := 198) (n := 7) (ds := (fun _ => Value.null)) nq36 h19_28
  have h28_36 := pq_nR (r := 198) (n := 7) (ds := (fun _ => Value.null)) nq36 h28
  refine pq_putF F hnm ha_36 (by decide) lf_X8_26 rfl rfl (show pq_ok (pq_ft 71 4) _ _ from trivial) dX8_init_38 ?_
  refine pq_aload_n F dX8_init_41 rfl rfl ?_
  refine pq_bipush (v := 7) F dX8_init_42 (by decide) ?_
  refine pq_newJ F (r := 199) (n := 7) (by decide) (by decide) ac_long rfl (by decide) (by focus (simp only [vp_in_iff, Int32.lt_iff_toInt_lt, Int32.le_iff_toInt_le, ← Int32.toInt_inj, Int32.toInt_add, Int32.toInt_sub, Int32.toInt_mul, Int32.toInt_neg, pq_NuO, pq_NuI, pq_NuJ, pq_NuR, pq_shr6, pq_shr7, pq_shr8, lqm1, lq0, lq1, lq7, lq1024, lq2814] at *; (try simp (disch := omega) only [pq_bm] at *); all_goals omega)) rfl (by decide) (Nat.le_of_ble_eq_true rfl) (Nat.le_of_ble_eq_true rfl) (Nat.le_of_ble_eq_true rfl) dX8_init_44 (fun q44 nq44 h44 => ?_)
  have ha_44 := pq_nR (r := 199) (n := 7) (ds := (fun _ => Value.null)) nq44 ha_36
  have hpl_44 := pq_nR (r := 199) (n := 7) (ds := (fun _ => Value.null)) nq44 hpl_36
  have hy9_44 := pq_nR (r := 199) (n := 7) (ds := (fun _ => Value.null)) nq44 hy9_36
  have h19_44 := pq_nR (r := 199) (n := 7) (ds := (fun _ => Value.null)) nq44 h19_36
  have h28_44 := pq_nR (r := 199) (n := 7) (ds := (fun _ => Value.null)) nq44 h28_36
  have h36_44 := pq_nR (r := 199) (n := 7) (ds := (fun _ => Value.null)) nq44 h36
  refine pq_putF F hnm ha_44 (by decide) lf_X8_29 rfl rfl (show pq_ok (pq_ft 71 5) _ _ from trivial) dX8_init_46 ?_
  refine pq_aload_n F dX8_init_49 rfl rfl ?_
  refine pq_iconst (v := 0) F dX8_init_50 (by decide) ?_
  refine pq_newI F (r := 167) (n := 0) (by decide) (by decide) ac_int rfl (by decide) (by focus (simp only [vp_in_iff, Int32.lt_iff_toInt_lt, Int32.le_iff_toInt_le, ← Int32.toInt_inj, Int32.toInt_add, Int32.toInt_sub, Int32.toInt_mul, Int32.toInt_neg, pq_NuO, pq_NuI, pq_NuJ, pq_NuR, pq_shr6, pq_shr7, pq_shr8, lqm1, lq0, lq1, lq7, lq1024, lq2814] at *; (try simp (disch := omega) only [pq_bm] at *); all_goals omega)) rfl (by decide) (Nat.le_of_ble_eq_true rfl) (Nat.le_of_ble_eq_true rfl) (Nat.le_of_ble_eq_true rfl) dX8_init_51 (fun q51 nq51 h51 => ?_)
  have ha_51 := pq_nR (r := 167) (n := 0) (ds := (fun _ => Value.null)) nq51 ha_44
  have hpl_51 := pq_nR (r := 167) (n := 0) (ds := (fun _ => Value.null)) nq51 hpl_44
  have hy9_51 := pq_nR (r := 167) (n := 0) (ds := (fun _ => Value.null)) nq51 hy9_44
  have h19_51 := pq_nR (r := 167) (n := 0) (ds := (fun _ => Value.null)) nq51 h19_44
  have h28_51 := pq_nR (r := 167) (n := 0) (ds := (fun _ => Value.null)) nq51 h28_44
  have h36_51 := pq_nR (r := 167) (n := 0) (ds := (fun _ => Value.null)) nq51 h36_44
  have h44_51 := pq_nR (r := 167) (n := 0) (ds := (fun _ => Value.null)) nq51 h44
  refine pq_put F ha_51 (by decide) lp_X8_32 rfl rfl (show pq_ok (pq_ft 71 6) _ _ from trivial) dX8_init_53 ?_
  refine pq_aload_n F dX8_init_56 rfl rfl ?_
  refine pq_aload_n F dX8_init_57 rfl rfl ?_
  refine pq_putF F hnm ha_51 (by decide) lf_X8_35 rfl rfl (show pq_ok (pq_ft 71 0) _ _ from trivial) dX8_init_58 ?_
  refine pq_prom (r := 11) ha_51 (by decide) (by decide) (by decide) rfl (fun k => match k with | 0 => (show pq_ok (pq_ft 11 0) _ _ from ⟨by decide, _, pq_ks, hpl_51⟩) | 1 => (show pq_ok (pq_ft 11 1) _ _ from ⟨by decide, _, (pq_kp (pq_kp (pq_nO nq51 ha_44 (pq_kp (pq_nO nq44 ha_36 (pq_kp (pq_nO nq36 ha_28 (pq_kp (pq_nO nq28 ha_19 (pq_kp (pq_nO nq19 ha_9 pq_ks) (by decide))) (by decide))) (by decide))) (by decide))) (by decide)) (by decide)), hy9_51⟩) | 2 => (show pq_ok (pq_ft 11 2) _ _ from ⟨by decide, _, (pq_kp (pq_kp (pq_nO nq51 ha_44 (pq_kp (pq_nO nq44 ha_36 (pq_kp (pq_nO nq36 ha_28 (pq_kp (pq_nO nq28 ha_19 pq_ks) (by decide))) (by decide))) (by decide))) (by decide)) (by decide)), h19_51⟩) | 3 => (show pq_ok (pq_ft 11 3) _ _ from ⟨by decide, _, (pq_kp (pq_kp (pq_nO nq51 ha_44 (pq_kp (pq_nO nq44 ha_36 (pq_kp (pq_nO nq36 ha_28 pq_ks) (by decide))) (by decide))) (by decide)) (by decide)), h28_51⟩) | 4 => (show pq_ok (pq_ft 11 4) _ _ from ⟨by decide, _, (pq_kp (pq_kp (pq_nO nq51 ha_44 (pq_kp (pq_nO nq44 ha_36 pq_ks) (by decide))) (by decide)) (by decide)), h36_51⟩) | 5 => (show pq_ok (pq_ft 11 5) _ _ from ⟨by decide, _, (pq_kp (pq_kp (pq_nO nq51 ha_44 pq_ks) (by decide)) (by decide)), h44_51⟩) | 6 => (show pq_ok (pq_ft 11 6) _ _ from ⟨by decide, _, (pq_kp pq_ks (by decide)), h51⟩) | 7 => (show pq_ok (1, 0, 402) _ _ from ⟨_, (pq_kp (pq_kp (pq_nO nq51 ha_44 (pq_kp (pq_nO nq44 ha_36 (pq_kp (pq_nO nq36 ha_28 (pq_kp (pq_nO nq28 ha_19 (pq_kp (pq_nO nq19 ha_9 (pq_kp ec9_7_ha_9 (by decide))) (by decide))) (by decide))) (by decide))) (by decide))) (by decide)) (by decide)), (by focus (simp only [vp_in_iff, Int32.lt_iff_toInt_lt, Int32.le_iff_toInt_le, ← Int32.toInt_inj, Int32.toInt_add, Int32.toInt_sub, Int32.toInt_mul, Int32.toInt_neg, pq_NuO, pq_NuI, pq_NuJ, pq_NuR, pq_shr6, pq_shr7, pq_shr8, lqm1, lq0, lq1, lq7, lq1024, lq2814] at *; (try simp (disch := omega) only [pq_bm] at *); all_goals omega)), (by focus (simp only [vp_in_iff, Int32.lt_iff_toInt_lt, Int32.le_iff_toInt_le, ← Int32.toInt_inj, Int32.toInt_add, Int32.toInt_sub, Int32.toInt_mul, Int32.toInt_neg, pq_NuO, pq_NuI, pq_NuJ, pq_NuR, pq_shr6, pq_shr7, pq_shr8, lqm1, lq0, lq1, lq7, lq1024, lq2814] at *; (try simp (disch := omega) only [pq_bm] at *); all_goals omega))⟩) | 8 => (show pq_ok (1, 0, 1) _ _ from ⟨_, (pq_kp (pq_kp (pq_nO nq51 ha_44 (pq_kp (pq_nO nq44 ha_36 (pq_kp (pq_nO nq36 ha_28 (pq_kp (pq_nO nq28 ha_19 (pq_kp (pq_nO nq19 ha_9 (pq_kp ec9_8_ha_9 (by decide))) (by decide))) (by decide))) (by decide))) (by decide))) (by decide)) (by decide)), (by focus (simp only [vp_in_iff, Int32.lt_iff_toInt_lt, Int32.le_iff_toInt_le, ← Int32.toInt_inj, Int32.toInt_add, Int32.toInt_sub, Int32.toInt_mul, Int32.toInt_neg, pq_NuO, pq_NuI, pq_NuJ, pq_NuR, pq_shr6, pq_shr7, pq_shr8, lqm1, lq0, lq1, lq7, lq1024, lq2814] at *; (try simp (disch := omega) only [pq_bm] at *); all_goals omega)), (by focus (simp only [vp_in_iff, Int32.lt_iff_toInt_lt, Int32.le_iff_toInt_le, ← Int32.toInt_inj, Int32.toInt_add, Int32.toInt_sub, Int32.toInt_mul, Int32.toInt_neg, pq_NuO, pq_NuI, pq_NuJ, pq_NuR, pq_shr6, pq_shr7, pq_shr8, lqm1, lq0, lq1, lq7, lq1024, lq2814] at *; (try simp (disch := omega) only [pq_bm] at *); all_goals omega))⟩) | 9 => (show pq_ok (1, 0, 1) _ _ from ⟨_, (pq_kp (pq_kp (pq_nO nq51 ha_44 (pq_kp (pq_nO nq44 ha_36 (pq_kp (pq_nO nq36 ha_28 (pq_kp (pq_nO nq28 ha_19 (pq_kp (pq_nO nq19 ha_9 (pq_kp ec9_9_ha_9 (by decide))) (by decide))) (by decide))) (by decide))) (by decide))) (by decide)) (by decide)), (by focus (simp only [vp_in_iff, Int32.lt_iff_toInt_lt, Int32.le_iff_toInt_le, ← Int32.toInt_inj, Int32.toInt_add, Int32.toInt_sub, Int32.toInt_mul, Int32.toInt_neg, pq_NuO, pq_NuI, pq_NuJ, pq_NuR, pq_shr6, pq_shr7, pq_shr8, lqm1, lq0, lq1, lq7, lq1024, lq2814] at *; (try simp (disch := omega) only [pq_bm] at *); all_goals omega)), (by focus (simp only [vp_in_iff, Int32.lt_iff_toInt_lt, Int32.le_iff_toInt_le, ← Int32.toInt_inj, Int32.toInt_add, Int32.toInt_sub, Int32.toInt_mul, Int32.toInt_neg, pq_NuO, pq_NuI, pq_NuJ, pq_NuR, pq_shr6, pq_shr7, pq_shr8, lqm1, lq0, lq1, lq7, lq1024, lq2814] at *; (try simp (disch := omega) only [pq_bm] at *); all_goals omega))⟩) | _ + 10 => trivial) ?_
  have hpr := pq_rrR (r := 11) ha_51
  have hpl_51P := pq_rrO (a := a) (r := 11) hpl_51 (pq_nrole hpl_51 ha_51 (by decide))
  exact pq_vret F hr hlk hA (Nat.le_of_ble_eq_true rfl) (Nat.le_of_ble_eq_true rfl) (⟨rfl, ((((((pq_G.rf.gn nq5 hG9).uO.nw nq19).uO.nw nq28).uO.nw nq36).uO.nw nq44).uO.nw nq51).uO.uO.rr, hpr, pq_ks⟩) dX8_init_61

set_option maxHeartbeats 4000000 in
set_option maxRecDepth 100000 in
theorem k_X4_init (l : Launch) (D : va_G) (cy : Nat → ClassId) (S : HS) (a : Nat) (ha : pq_R S a 67) (wk : Nat) (hwk : pq_R S wk 11) (d7 : hO S a 7 = .int 0) : pq_C l D cy yX4_init cX4_init 2 (none) 1 6 2014 S [.ref a, .ref wk] (fun v S2 => v = none ∧ pq_G a S S2 ∧ pq_R S2 a 7 ∧ (hO S2 a 0 = .ref wk)) := by
  refine pq_start (by decide) (Nat.le_of_ble_eq_true rfl) ?_
  intro p e s m args below meth c A F hr hlk hnm hA
  have lqm1 : (-1 : Int32).toInt = -1 := rfl
  have lq0 : (0 : Int32).toInt = 0 := rfl
  have lq1 : (1 : Int32).toInt = 1 := rfl
  have lq2 : (2 : Int32).toInt = 2 := rfl
  have lq202 : (202 : Int32).toInt = 202 := rfl
  have lq402 : (402 : Int32).toInt = 402 := rfl
  have lq804 : (804 : Int32).toInt = 804 := rfl
  refine pq_aload_n F dX4_init_0 rfl rfl ?_
  refine pq_objI F ow_X4_3 ⟨Nat.le_of_ble_eq_true rfl, Nat.le_of_ble_eq_true rfl⟩ dX4_init_1 ?_
  refine pq_aload_n F dX4_init_4 rfl rfl ?_
  refine pq_sipush (v := 402) F dX4_init_5 (by decide) ?_
  refine pq_newI F (r := 159) (n := 402) (by decide) (by decide) ac_int rfl (by decide) (by focus (simp only [vp_in_iff, Int32.lt_iff_toInt_lt, Int32.le_iff_toInt_le, ← Int32.toInt_inj, Int32.toInt_add, Int32.toInt_sub, Int32.toInt_mul, Int32.toInt_neg, pq_NuO, pq_NuI, pq_NuJ, pq_NuR, pq_shr6, pq_shr7, pq_shr8, lqm1, lq0, lq1, lq2, lq202, lq402, lq804] at *; (try simp (disch := omega) only [pq_bm] at *); all_goals omega)) rfl (by decide) (Nat.le_of_ble_eq_true rfl) (Nat.le_of_ble_eq_true rfl) (Nat.le_of_ble_eq_true rfl) dX4_init_8 (fun q8 nq8 h8 => ?_)
  have ha_8 := pq_nR (r := 159) (n := 402) (ds := (fun _ => Value.null)) nq8 ha
  have hwk_8 := pq_nR (r := 159) (n := 402) (ds := (fun _ => Value.null)) nq8 hwk
  refine pq_putF F hnm ha_8 (by decide) lf_X4_11 rfl rfl (show pq_ok (pq_ft 67 1) _ _ from trivial) dX4_init_10 ?_
  refine pq_aload_n F dX4_init_13 rfl rfl ?_
  refine pq_sipush (v := 402) F dX4_init_14 (by decide) ?_
  refine pq_newI F (r := 160) (n := 402) (by decide) (by decide) ac_int rfl (by decide) (by focus (simp only [vp_in_iff, Int32.lt_iff_toInt_lt, Int32.le_iff_toInt_le, ← Int32.toInt_inj, Int32.toInt_add, Int32.toInt_sub, Int32.toInt_mul, Int32.toInt_neg, pq_NuO, pq_NuI, pq_NuJ, pq_NuR, pq_shr6, pq_shr7, pq_shr8, lqm1, lq0, lq1, lq2, lq202, lq402, lq804] at *; (try simp (disch := omega) only [pq_bm] at *); all_goals omega)) rfl (by decide) (Nat.le_of_ble_eq_true rfl) (Nat.le_of_ble_eq_true rfl) (Nat.le_of_ble_eq_true rfl) dX4_init_17 (fun q17 nq17 h17 => ?_)
  have ha_17 := pq_nR (r := 160) (n := 402) (ds := (fun _ => Value.null)) nq17 ha_8
  have hwk_17 := pq_nR (r := 160) (n := 402) (ds := (fun _ => Value.null)) nq17 hwk_8
  have h8_17 := pq_nR (r := 160) (n := 402) (ds := (fun _ => Value.null)) nq17 h8
  refine pq_putF F hnm ha_17 (by decide) lf_X4_17 rfl rfl (show pq_ok (pq_ft 67 2) _ _ from trivial) dX4_init_19 ?_
  refine pq_aload_n F dX4_init_22 rfl rfl ?_
  refine pq_sipush (v := 202) F dX4_init_23 (by decide) ?_
  refine pq_newI F (r := 161) (n := 202) (by decide) (by decide) ac_int rfl (by decide) (by focus (simp only [vp_in_iff, Int32.lt_iff_toInt_lt, Int32.le_iff_toInt_le, ← Int32.toInt_inj, Int32.toInt_add, Int32.toInt_sub, Int32.toInt_mul, Int32.toInt_neg, pq_NuO, pq_NuI, pq_NuJ, pq_NuR, pq_shr6, pq_shr7, pq_shr8, lqm1, lq0, lq1, lq2, lq202, lq402, lq804] at *; (try simp (disch := omega) only [pq_bm] at *); all_goals omega)) rfl (by decide) (Nat.le_of_ble_eq_true rfl) (Nat.le_of_ble_eq_true rfl) (Nat.le_of_ble_eq_true rfl) dX4_init_26 (fun q26 nq26 h26 => ?_)
  have ha_26 := pq_nR (r := 161) (n := 202) (ds := (fun _ => Value.null)) nq26 ha_17
  have hwk_26 := pq_nR (r := 161) (n := 202) (ds := (fun _ => Value.null)) nq26 hwk_17
  have h8_26 := pq_nR (r := 161) (n := 202) (ds := (fun _ => Value.null)) nq26 h8_17
  have h17_26 := pq_nR (r := 161) (n := 202) (ds := (fun _ => Value.null)) nq26 h17
  refine pq_putF F hnm ha_26 (by decide) lf_X4_20 rfl rfl (show pq_ok (pq_ft 67 3) _ _ from trivial) dX4_init_28 ?_
  refine pq_aload_n F dX4_init_31 rfl rfl ?_
  refine pq_sipush (v := 202) F dX4_init_32 (by decide) ?_
  refine pq_newI F (r := 162) (n := 202) (by decide) (by decide) ac_int rfl (by decide) (by focus (simp only [vp_in_iff, Int32.lt_iff_toInt_lt, Int32.le_iff_toInt_le, ← Int32.toInt_inj, Int32.toInt_add, Int32.toInt_sub, Int32.toInt_mul, Int32.toInt_neg, pq_NuO, pq_NuI, pq_NuJ, pq_NuR, pq_shr6, pq_shr7, pq_shr8, lqm1, lq0, lq1, lq2, lq202, lq402, lq804] at *; (try simp (disch := omega) only [pq_bm] at *); all_goals omega)) rfl (by decide) (Nat.le_of_ble_eq_true rfl) (Nat.le_of_ble_eq_true rfl) (Nat.le_of_ble_eq_true rfl) dX4_init_35 (fun q35 nq35 h35 => ?_)
  have ha_35 := pq_nR (r := 162) (n := 202) (ds := (fun _ => Value.null)) nq35 ha_26
  have hwk_35 := pq_nR (r := 162) (n := 202) (ds := (fun _ => Value.null)) nq35 hwk_26
  have h8_35 := pq_nR (r := 162) (n := 202) (ds := (fun _ => Value.null)) nq35 h8_26
  have h17_35 := pq_nR (r := 162) (n := 202) (ds := (fun _ => Value.null)) nq35 h17_26
  have h26_35 := pq_nR (r := 162) (n := 202) (ds := (fun _ => Value.null)) nq35 h26
  refine pq_putF F hnm ha_35 (by decide) lf_X4_23 rfl rfl (show pq_ok (pq_ft 67 4) _ _ from trivial) dX4_init_37 ?_
  refine pq_aload_n F dX4_init_40 rfl rfl ?_
  refine pq_sipush (v := 804) F dX4_init_41 (by decide) ?_
  refine pq_newJ F (r := 192) (n := 804) (by decide) (by decide) ac_long rfl (by decide) (by focus (simp only [vp_in_iff, Int32.lt_iff_toInt_lt, Int32.le_iff_toInt_le, ← Int32.toInt_inj, Int32.toInt_add, Int32.toInt_sub, Int32.toInt_mul, Int32.toInt_neg, pq_NuO, pq_NuI, pq_NuJ, pq_NuR, pq_shr6, pq_shr7, pq_shr8, lqm1, lq0, lq1, lq2, lq202, lq402, lq804] at *; (try simp (disch := omega) only [pq_bm] at *); all_goals omega)) rfl (by decide) (Nat.le_of_ble_eq_true rfl) (Nat.le_of_ble_eq_true rfl) (Nat.le_of_ble_eq_true rfl) dX4_init_44 (fun q44 nq44 h44 => ?_)
  have ha_44 := pq_nR (r := 192) (n := 804) (ds := (fun _ => Value.null)) nq44 ha_35
  have hwk_44 := pq_nR (r := 192) (n := 804) (ds := (fun _ => Value.null)) nq44 hwk_35
  have h8_44 := pq_nR (r := 192) (n := 804) (ds := (fun _ => Value.null)) nq44 h8_35
  have h17_44 := pq_nR (r := 192) (n := 804) (ds := (fun _ => Value.null)) nq44 h17_35
  have h26_44 := pq_nR (r := 192) (n := 804) (ds := (fun _ => Value.null)) nq44 h26_35
  have h35_44 := pq_nR (r := 192) (n := 804) (ds := (fun _ => Value.null)) nq44 h35
  refine pq_putF F hnm ha_44 (by decide) lf_X4_26 rfl rfl (show pq_ok (pq_ft 67 5) _ _ from trivial) dX4_init_46 ?_
  refine pq_aload_n F dX4_init_49 rfl rfl ?_
  refine pq_iconst (v := 2) F dX4_init_50 (by decide) ?_
  refine pq_newJ F (r := 193) (n := 2) (by decide) (by decide) ac_long rfl (by decide) (by focus (simp only [vp_in_iff, Int32.lt_iff_toInt_lt, Int32.le_iff_toInt_le, ← Int32.toInt_inj, Int32.toInt_add, Int32.toInt_sub, Int32.toInt_mul, Int32.toInt_neg, pq_NuO, pq_NuI, pq_NuJ, pq_NuR, pq_shr6, pq_shr7, pq_shr8, lqm1, lq0, lq1, lq2, lq202, lq402, lq804] at *; (try simp (disch := omega) only [pq_bm] at *); all_goals omega)) rfl (by decide) (Nat.le_of_ble_eq_true rfl) (Nat.le_of_ble_eq_true rfl) (Nat.le_of_ble_eq_true rfl) dX4_init_51 (fun q51 nq51 h51 => ?_)
  have ha_51 := pq_nR (r := 193) (n := 2) (ds := (fun _ => Value.null)) nq51 ha_44
  have hwk_51 := pq_nR (r := 193) (n := 2) (ds := (fun _ => Value.null)) nq51 hwk_44
  have h8_51 := pq_nR (r := 193) (n := 2) (ds := (fun _ => Value.null)) nq51 h8_44
  have h17_51 := pq_nR (r := 193) (n := 2) (ds := (fun _ => Value.null)) nq51 h17_44
  have h26_51 := pq_nR (r := 193) (n := 2) (ds := (fun _ => Value.null)) nq51 h26_44
  have h35_51 := pq_nR (r := 193) (n := 2) (ds := (fun _ => Value.null)) nq51 h35_44
  have h44_51 := pq_nR (r := 193) (n := 2) (ds := (fun _ => Value.null)) nq51 h44
  refine pq_putF F hnm ha_51 (by decide) lf_X4_30 rfl rfl (show pq_ok (pq_ft 67 6) _ _ from trivial) dX4_init_53 ?_
  refine pq_aload_n F dX4_init_56 rfl rfl ?_
  refine pq_aload_n F dX4_init_57 rfl rfl ?_
  refine pq_putF F hnm ha_51 (by decide) lf_X4_33 rfl rfl (show pq_ok (pq_ft 67 0) _ _ from trivial) dX4_init_58 ?_
  refine pq_prom (r := 7) ha_51 (by decide) (by decide) (by decide) rfl (fun k => match k with | 0 => (show pq_ok (pq_ft 7 0) _ _ from ⟨by decide, _, pq_ks, hwk_51⟩) | 1 => (show pq_ok (pq_ft 7 1) _ _ from ⟨by decide, _, (pq_kp (pq_kp (pq_nO nq51 ha_44 (pq_kp (pq_nO nq44 ha_35 (pq_kp (pq_nO nq35 ha_26 (pq_kp (pq_nO nq26 ha_17 (pq_kp (pq_nO nq17 ha_8 pq_ks) (by decide))) (by decide))) (by decide))) (by decide))) (by decide)) (by decide)), h8_51⟩) | 2 => (show pq_ok (pq_ft 7 2) _ _ from ⟨by decide, _, (pq_kp (pq_kp (pq_nO nq51 ha_44 (pq_kp (pq_nO nq44 ha_35 (pq_kp (pq_nO nq35 ha_26 (pq_kp (pq_nO nq26 ha_17 pq_ks) (by decide))) (by decide))) (by decide))) (by decide)) (by decide)), h17_51⟩) | 3 => (show pq_ok (pq_ft 7 3) _ _ from ⟨by decide, _, (pq_kp (pq_kp (pq_nO nq51 ha_44 (pq_kp (pq_nO nq44 ha_35 (pq_kp (pq_nO nq35 ha_26 pq_ks) (by decide))) (by decide))) (by decide)) (by decide)), h26_51⟩) | 4 => (show pq_ok (pq_ft 7 4) _ _ from ⟨by decide, _, (pq_kp (pq_kp (pq_nO nq51 ha_44 (pq_kp (pq_nO nq44 ha_35 pq_ks) (by decide))) (by decide)) (by decide)), h35_51⟩) | 5 => (show pq_ok (pq_ft 7 5) _ _ from ⟨by decide, _, (pq_kp (pq_kp (pq_nO nq51 ha_44 pq_ks) (by decide)) (by decide)), h44_51⟩) | 6 => (show pq_ok (pq_ft 7 6) _ _ from ⟨by decide, _, (pq_kp pq_ks (by decide)), h51⟩) | 7 => (show pq_ok (1, 0, 202) _ _ from ⟨_, (pq_kp (pq_kp (pq_nO nq51 ha_44 (pq_kp (pq_nO nq44 ha_35 (pq_kp (pq_nO nq35 ha_26 (pq_kp (pq_nO nq26 ha_17 (pq_kp (pq_nO nq17 ha_8 (pq_kp (pq_nO nq8 ha d7) (by decide))) (by decide))) (by decide))) (by decide))) (by decide))) (by decide)) (by decide)), (by focus (simp only [vp_in_iff, Int32.lt_iff_toInt_lt, Int32.le_iff_toInt_le, ← Int32.toInt_inj, Int32.toInt_add, Int32.toInt_sub, Int32.toInt_mul, Int32.toInt_neg, pq_NuO, pq_NuI, pq_NuJ, pq_NuR, pq_shr6, pq_shr7, pq_shr8, lqm1, lq0, lq1, lq2, lq202, lq402, lq804] at *; (try simp (disch := omega) only [pq_bm] at *); all_goals omega)), (by focus (simp only [vp_in_iff, Int32.lt_iff_toInt_lt, Int32.le_iff_toInt_le, ← Int32.toInt_inj, Int32.toInt_add, Int32.toInt_sub, Int32.toInt_mul, Int32.toInt_neg, pq_NuO, pq_NuI, pq_NuJ, pq_NuR, pq_shr6, pq_shr7, pq_shr8, lqm1, lq0, lq1, lq2, lq202, lq402, lq804] at *; (try simp (disch := omega) only [pq_bm] at *); all_goals omega))⟩) | _ + 8 => trivial) ?_
  have hpr := pq_rrR (r := 7) ha_51
  have hwk_51P := pq_rrO (a := a) (r := 7) hwk_51 (pq_nrole hwk_51 ha_51 (by decide))
  exact pq_vret F hr hlk hA (Nat.le_of_ble_eq_true rfl) (Nat.le_of_ble_eq_true rfl) (⟨rfl, ((((((pq_G.rf.nw nq8).uO.nw nq17).uO.nw nq26).uO.nw nq35).uO.nw nq44).uO.nw nq51).uO.uO.rr, hpr, pq_ks⟩) dX4_init_61

set_option maxHeartbeats 4000000 in
set_option maxRecDepth 100000 in
theorem k_X0_initA (l : Launch) (D : va_G) (cy : Nat → ClassId) (S : HS) (a : Nat) (ha : pq_R S a 63) : pq_C l D cy yX0_init cX0_init 1 (none) 1 4 458 S [.ref a] (fun v S2 => v = none ∧ pq_G a S S2 ∧ pq_R S2 a 3 ∧ (pq_Iau S2 a 150 152)) := by
  refine pq_start (by decide) (Nat.le_of_ble_eq_true rfl) ?_
  intro p e s m args below meth c A F hr hlk hnm hA
  have lqm1 : (-1 : Int32).toInt = -1 := rfl
  have lq0 : (0 : Int32).toInt = 0 := rfl
  have lq1 : (1 : Int32).toInt = 1 := rfl
  have lq128 : (128 : Int32).toInt = 128 := rfl
  have lq201 : (201 : Int32).toInt = 201 := rfl
  refine pq_aload_n F dX0_init_0 rfl rfl ?_
  refine pq_objI F ow_X0_3 ⟨Nat.le_of_ble_eq_true rfl, Nat.le_of_ble_eq_true rfl⟩ dX0_init_1 ?_
  refine pq_aload_n F dX0_init_4 rfl rfl ?_
  refine pq_sipush (v := 128) F dX0_init_5 (by decide) ?_
  refine pq_newI F (r := 150) (n := 128) (by decide) (by decide) ac_int rfl (by decide) (by focus (simp only [vp_in_iff, Int32.lt_iff_toInt_lt, Int32.le_iff_toInt_le, ← Int32.toInt_inj, Int32.toInt_add, Int32.toInt_sub, Int32.toInt_mul, Int32.toInt_neg, pq_NuO, pq_NuI, pq_NuJ, pq_NuR, pq_shr6, pq_shr7, pq_shr8, lqm1, lq0, lq1, lq128, lq201] at *; (try simp (disch := omega) only [pq_bm] at *); all_goals omega)) rfl (by decide) (Nat.le_of_ble_eq_true rfl) (Nat.le_of_ble_eq_true rfl) (Nat.le_of_ble_eq_true rfl) dX0_init_8 (fun q8 nq8 h8 => ?_)
  have ha_8 := pq_nR (r := 150) (n := 128) (ds := (fun _ => Value.null)) nq8 ha
  refine pq_putF F hnm ha_8 (by decide) lf_X0_9 rfl rfl (show pq_ok (pq_ft 63 0) _ _ from trivial) dX0_init_10 ?_
  refine pq_aload_n F dX0_init_13 rfl rfl ?_
  refine pq_sipush (v := 128) F dX0_init_14 (by decide) ?_
  refine pq_newI F (r := 151) (n := 128) (by decide) (by decide) ac_int rfl (by decide) (by focus (simp only [vp_in_iff, Int32.lt_iff_toInt_lt, Int32.le_iff_toInt_le, ← Int32.toInt_inj, Int32.toInt_add, Int32.toInt_sub, Int32.toInt_mul, Int32.toInt_neg, pq_NuO, pq_NuI, pq_NuJ, pq_NuR, pq_shr6, pq_shr7, pq_shr8, lqm1, lq0, lq1, lq128, lq201] at *; (try simp (disch := omega) only [pq_bm] at *); all_goals omega)) rfl (by decide) (Nat.le_of_ble_eq_true rfl) (Nat.le_of_ble_eq_true rfl) (Nat.le_of_ble_eq_true rfl) dX0_init_17 (fun q17 nq17 h17 => ?_)
  have ha_17 := pq_nR (r := 151) (n := 128) (ds := (fun _ => Value.null)) nq17 ha_8
  have h8_17 := pq_nR (r := 151) (n := 128) (ds := (fun _ => Value.null)) nq17 h8
  refine pq_putF F hnm ha_17 (by decide) lf_X0_15 rfl rfl (show pq_ok (pq_ft 63 1) _ _ from trivial) dX0_init_19 ?_
  refine pq_aload_n F dX0_init_22 rfl rfl ?_
  refine pq_sipush (v := 201) F dX0_init_23 (by decide) ?_
  refine pq_newZ F (r := 206) (n := 201) (by decide) (by decide) ac_boolean rfl (by decide) (by focus (simp only [vp_in_iff, Int32.lt_iff_toInt_lt, Int32.le_iff_toInt_le, ← Int32.toInt_inj, Int32.toInt_add, Int32.toInt_sub, Int32.toInt_mul, Int32.toInt_neg, pq_NuO, pq_NuI, pq_NuJ, pq_NuR, pq_shr6, pq_shr7, pq_shr8, lqm1, lq0, lq1, lq128, lq201] at *; (try simp (disch := omega) only [pq_bm] at *); all_goals omega)) rfl (by decide) (Nat.le_of_ble_eq_true rfl) (Nat.le_of_ble_eq_true rfl) (Nat.le_of_ble_eq_true rfl) dX0_init_26 (fun q26 nq26 h26 => ?_)
  have ha_26 := pq_nR (r := 206) (n := 201) (ds := (fun _ => Value.null)) nq26 ha_17
  have h8_26 := pq_nR (r := 206) (n := 201) (ds := (fun _ => Value.null)) nq26 h8_17
  have h17_26 := pq_nR (r := 206) (n := 201) (ds := (fun _ => Value.null)) nq26 h17
  refine pq_putF F hnm ha_26 (by decide) lf_X0_20 rfl rfl (show pq_ok (pq_ft 63 2) _ _ from trivial) dX0_init_28 ?_
  refine pq_aload_n F dX0_init_31 rfl rfl ?_
  refine pq_iconst (v := 1) F dX0_init_32 (by decide) ?_
  refine pq_newI F (r := 152) (n := 1) (by decide) (by decide) ac_int rfl (by decide) (by focus (simp only [vp_in_iff, Int32.lt_iff_toInt_lt, Int32.le_iff_toInt_le, ← Int32.toInt_inj, Int32.toInt_add, Int32.toInt_sub, Int32.toInt_mul, Int32.toInt_neg, pq_NuO, pq_NuI, pq_NuJ, pq_NuR, pq_shr6, pq_shr7, pq_shr8, lqm1, lq0, lq1, lq128, lq201] at *; (try simp (disch := omega) only [pq_bm] at *); all_goals omega)) rfl (by decide) (Nat.le_of_ble_eq_true rfl) (Nat.le_of_ble_eq_true rfl) (Nat.le_of_ble_eq_true rfl) dX0_init_33 (fun q33 nq33 h33 => ?_)
  have ha_33 := pq_nR (r := 152) (n := 1) (ds := (fun _ => Value.null)) nq33 ha_26
  have h8_33 := pq_nR (r := 152) (n := 1) (ds := (fun _ => Value.null)) nq33 h8_26
  have h17_33 := pq_nR (r := 152) (n := 1) (ds := (fun _ => Value.null)) nq33 h17_26
  have h26_33 := pq_nR (r := 152) (n := 1) (ds := (fun _ => Value.null)) nq33 h26
  refine pq_put F ha_33 (by decide) lp_X0_24 rfl rfl (show pq_ok (pq_ft 63 3) _ _ from trivial) dX0_init_35 ?_
  refine pq_aload_n F dX0_init_38 rfl rfl ?_
  refine pq_iconst (v := 1) F dX0_init_39 (by decide) ?_
  refine pq_put F ha_33 (by decide) lp_X0_27 rfl rfl (show pq_ok (pq_ft 63 4) _ _ from trivial) dX0_init_40 ?_
  refine pq_aload_n F dX0_init_43 rfl rfl ?_
  refine pq_iconst (v := 1) F dX0_init_44 (by decide) ?_
  refine pq_put F ha_33 (by decide) lp_X0_31 rfl rfl (show pq_ok (pq_ft 63 5) _ _ from trivial) dX0_init_45 ?_
  refine pq_aload_n F dX0_init_48 rfl rfl ?_
  refine pq_iconst (v := 0) F dX0_init_49 (by decide) ?_
  refine pq_put F ha_33 (by decide) lp_X0_34 rfl rfl (show pq_ok (pq_ft 63 6) _ _ from trivial) dX0_init_50 ?_
  refine pq_aload_n F dX0_init_53 rfl rfl ?_
  refine pq_iconst (v := 1) F dX0_init_54 (by decide) ?_
  refine pq_put F ha_33 (by decide) lp_X0_37 (pq_bz (by focus (simp only [vp_in_iff, Int32.lt_iff_toInt_lt, Int32.le_iff_toInt_le, ← Int32.toInt_inj, Int32.toInt_add, Int32.toInt_sub, Int32.toInt_mul, Int32.toInt_neg, pq_NuO, pq_NuI, pq_NuJ, pq_NuR, pq_shr6, pq_shr7, pq_shr8, lqm1, lq0, lq1, lq128, lq201] at *; (try simp (disch := omega) only [pq_bm] at *); all_goals omega)) (by focus (simp only [vp_in_iff, Int32.lt_iff_toInt_lt, Int32.le_iff_toInt_le, ← Int32.toInt_inj, Int32.toInt_add, Int32.toInt_sub, Int32.toInt_mul, Int32.toInt_neg, pq_NuO, pq_NuI, pq_NuJ, pq_NuR, pq_shr6, pq_shr7, pq_shr8, lqm1, lq0, lq1, lq128, lq201] at *; (try simp (disch := omega) only [pq_bm] at *); all_goals omega))).1 (pq_bz (by focus (simp only [vp_in_iff, Int32.lt_iff_toInt_lt, Int32.le_iff_toInt_le, ← Int32.toInt_inj, Int32.toInt_add, Int32.toInt_sub, Int32.toInt_mul, Int32.toInt_neg, pq_NuO, pq_NuI, pq_NuJ, pq_NuR, pq_shr6, pq_shr7, pq_shr8, lqm1, lq0, lq1, lq128, lq201] at *; (try simp (disch := omega) only [pq_bm] at *); all_goals omega)) (by focus (simp only [vp_in_iff, Int32.lt_iff_toInt_lt, Int32.le_iff_toInt_le, ← Int32.toInt_inj, Int32.toInt_add, Int32.toInt_sub, Int32.toInt_mul, Int32.toInt_neg, pq_NuO, pq_NuI, pq_NuJ, pq_NuR, pq_shr6, pq_shr7, pq_shr8, lqm1, lq0, lq1, lq128, lq201] at *; (try simp (disch := omega) only [pq_bm] at *); all_goals omega))).2 (show pq_ok (pq_ft 63 7) _ _ from trivial) dX0_init_55 ?_
  refine pq_aload_n F dX0_init_58 rfl rfl ?_
  refine pq_get F ha_33 (by decide) lk_X0_15 (pq_kp (pq_kp (pq_kp (pq_kp (pq_kp (pq_nO nq33 ha_26 (pq_kp (pq_nO nq26 ha_17 pq_ks) (by decide))) (by decide)) (by decide)) (by decide)) (by decide)) (by decide)) dX0_init_59 ?_
  refine pq_iconst (v := 0) F dX0_init_62 (by decide) ?_
  refine pq_sipush (v := 128) F dX0_init_63 (by decide) ?_
  refine pq_iast F h17_33 (by decide) (by decide) rfl (fun n1_66 n2_66 => (by focus (simp only [vp_in_iff, Int32.lt_iff_toInt_lt, Int32.le_iff_toInt_le, ← Int32.toInt_inj, Int32.toInt_add, Int32.toInt_sub, Int32.toInt_mul, Int32.toInt_neg, pq_NuO, pq_NuI, pq_NuJ, pq_NuR, pq_shr6, pq_shr7, pq_shr8, lqm1, lq0, lq1, lq128, lq201] at *; (try simp (disch := omega) only [pq_bm] at *); all_goals omega))) (⟨pq_any1 _, pq_any2 _⟩) dX0_init_66 ?_
  refine pq_prom (r := 3) ha_33 (by decide) (by decide) (by decide) rfl (fun k => match k with | 0 => (show pq_ok (pq_ft 3 0) _ _ from ⟨by decide, _, (pq_kp (pq_kp (pq_kp (pq_kp (pq_kp (pq_nO nq33 ha_26 (pq_kp (pq_nO nq26 ha_17 (pq_kp (pq_nO nq17 ha_8 pq_ks) (by decide))) (by decide))) (by decide)) (by decide)) (by decide)) (by decide)) (by decide)), h8_33⟩) | 1 => (show pq_ok (pq_ft 3 1) _ _ from ⟨by decide, _, (pq_kp (pq_kp (pq_kp (pq_kp (pq_kp (pq_nO nq33 ha_26 (pq_kp (pq_nO nq26 ha_17 pq_ks) (by decide))) (by decide)) (by decide)) (by decide)) (by decide)) (by decide)), h17_33⟩) | 2 => (show pq_ok (pq_ft 3 2) _ _ from ⟨by decide, _, (pq_kp (pq_kp (pq_kp (pq_kp (pq_kp (pq_nO nq33 ha_26 pq_ks) (by decide)) (by decide)) (by decide)) (by decide)) (by decide)), h26_33⟩) | 3 => (show pq_ok (pq_ft 3 3) _ _ from ⟨by decide, _, (pq_kp (pq_kp (pq_kp (pq_kp pq_ks (by decide)) (by decide)) (by decide)) (by decide)), h33⟩) | 4 => (show pq_ok (1, 0, 128) _ _ from ⟨_, (pq_kp (pq_kp (pq_kp pq_ks (by decide)) (by decide)) (by decide)), (by focus (simp only [vp_in_iff, Int32.lt_iff_toInt_lt, Int32.le_iff_toInt_le, ← Int32.toInt_inj, Int32.toInt_add, Int32.toInt_sub, Int32.toInt_mul, Int32.toInt_neg, pq_NuO, pq_NuI, pq_NuJ, pq_NuR, pq_shr6, pq_shr7, pq_shr8, lqm1, lq0, lq1, lq128, lq201] at *; (try simp (disch := omega) only [pq_bm] at *); all_goals omega)), (by focus (simp only [vp_in_iff, Int32.lt_iff_toInt_lt, Int32.le_iff_toInt_le, ← Int32.toInt_inj, Int32.toInt_add, Int32.toInt_sub, Int32.toInt_mul, Int32.toInt_neg, pq_NuO, pq_NuI, pq_NuJ, pq_NuR, pq_shr6, pq_shr7, pq_shr8, lqm1, lq0, lq1, lq128, lq201] at *; (try simp (disch := omega) only [pq_bm] at *); all_goals omega))⟩) | 5 => (show pq_ok (1, 1, 201) _ _ from ⟨_, (pq_kp (pq_kp pq_ks (by decide)) (by decide)), (by focus (simp only [vp_in_iff, Int32.lt_iff_toInt_lt, Int32.le_iff_toInt_le, ← Int32.toInt_inj, Int32.toInt_add, Int32.toInt_sub, Int32.toInt_mul, Int32.toInt_neg, pq_NuO, pq_NuI, pq_NuJ, pq_NuR, pq_shr6, pq_shr7, pq_shr8, lqm1, lq0, lq1, lq128, lq201] at *; (try simp (disch := omega) only [pq_bm] at *); all_goals omega)), (by focus (simp only [vp_in_iff, Int32.lt_iff_toInt_lt, Int32.le_iff_toInt_le, ← Int32.toInt_inj, Int32.toInt_add, Int32.toInt_sub, Int32.toInt_mul, Int32.toInt_neg, pq_NuO, pq_NuI, pq_NuJ, pq_NuR, pq_shr6, pq_shr7, pq_shr8, lqm1, lq0, lq1, lq128, lq201] at *; (try simp (disch := omega) only [pq_bm] at *); all_goals omega))⟩) | 6 => (show pq_ok (1, 0, 200) _ _ from ⟨_, (pq_kp pq_ks (by decide)), (by focus (simp only [vp_in_iff, Int32.lt_iff_toInt_lt, Int32.le_iff_toInt_le, ← Int32.toInt_inj, Int32.toInt_add, Int32.toInt_sub, Int32.toInt_mul, Int32.toInt_neg, pq_NuO, pq_NuI, pq_NuJ, pq_NuR, pq_shr6, pq_shr7, pq_shr8, lqm1, lq0, lq1, lq128, lq201] at *; (try simp (disch := omega) only [pq_bm] at *); all_goals omega)), (by focus (simp only [vp_in_iff, Int32.lt_iff_toInt_lt, Int32.le_iff_toInt_le, ← Int32.toInt_inj, Int32.toInt_add, Int32.toInt_sub, Int32.toInt_mul, Int32.toInt_neg, pq_NuO, pq_NuI, pq_NuJ, pq_NuR, pq_shr6, pq_shr7, pq_shr8, lqm1, lq0, lq1, lq128, lq201] at *; (try simp (disch := omega) only [pq_bm] at *); all_goals omega))⟩) | 7 => (show pq_ok (1, 0, 1) _ _ from ⟨_, pq_ks, (by focus (simp only [vp_in_iff, Int32.lt_iff_toInt_lt, Int32.le_iff_toInt_le, ← Int32.toInt_inj, Int32.toInt_add, Int32.toInt_sub, Int32.toInt_mul, Int32.toInt_neg, pq_NuO, pq_NuI, pq_NuJ, pq_NuR, pq_shr6, pq_shr7, pq_shr8, lqm1, lq0, lq1, lq128, lq201] at *; (try simp (disch := omega) only [pq_bm] at *); all_goals omega)), (by focus (simp only [vp_in_iff, Int32.lt_iff_toInt_lt, Int32.le_iff_toInt_le, ← Int32.toInt_inj, Int32.toInt_add, Int32.toInt_sub, Int32.toInt_mul, Int32.toInt_neg, pq_NuO, pq_NuI, pq_NuJ, pq_NuR, pq_shr6, pq_shr7, pq_shr8, lqm1, lq0, lq1, lq128, lq201] at *; (try simp (disch := omega) only [pq_bm] at *); all_goals omega))⟩) | _ + 8 => trivial) ?_
  have hpr := pq_rrR (r := 3) ha_33
  exact pq_vret F hr hlk hA (Nat.le_of_ble_eq_true rfl) (Nat.le_of_ble_eq_true rfl) (⟨rfl, (((((pq_G.rf.nw nq8).uO.nw nq17).uO.nw nq26).uO.nw nq33).uO.uO.uO.uO.uO.uIn (fun h => nq17 (List.mem_append_left _ h))).rr, hpr, q8, q33, 1, 1, 0, (fun x => x = 0), ⟨(pq_kp (pq_kp (pq_kp (pq_kp (pq_kp (pq_nO nq33 ha_26 (pq_kp (pq_nO nq26 ha_17 (pq_kp (pq_nO nq17 ha_8 pq_ks) (by decide))) (by decide))) (by decide)) (by decide)) (by decide)) (by decide)) (by decide)), (pq_rrO (a := a) (r := 3) h8_33 (pq_nrole h8_33 ha_33 (by decide))), (pq_kp (pq_kp (pq_kp (pq_kp pq_ks (by decide)) (by decide)) (by decide)) (by decide)), (pq_rrO (a := a) (r := 3) h33 (pq_nrole h33 ha_33 (by decide)))⟩, ⟨(pq_kp (pq_kp (pq_kp pq_ks (by decide)) (by decide)) (by decide)), (pq_kp (pq_kp pq_ks (by decide)) (by decide)), (pq_kp pq_ks (by decide))⟩, by decide, (by simp only [pq_Nrr, pq_NuO, pq_NuI, pq_Nnw, if_true]; decide), (by have n1 := pq_nrole (pq_rrO (a := a) (r := 3) h8_33 (pq_nrole h8_33 ha_33 (by decide))) (pq_rrO (a := a) (r := 3) h17_33 (pq_nrole h17_33 ha_33 (by decide))) (by decide); have n2 := pq_nrole (pq_rrO (a := a) (r := 3) h8_33 (pq_nrole h8_33 ha_33 (by decide))) (pq_rrO (a := a) (r := 3) h26_33 (pq_nrole h26_33 ha_33 (by decide))) (by decide); have n3 := pq_nrole (pq_rrO (a := a) (r := 3) h8_33 (pq_nrole h8_33 ha_33 (by decide))) (pq_rrO (a := a) (r := 3) h33 (pq_nrole h33 ha_33 (by decide))) (by decide); simp only [pq_Irr, pq_IuO, pq_Iu, pq_Inw, n1, n2, n3, if_true, if_false]; intro i hi; show (0 : Int32).toInt < (1 : Int32).toInt; decide), (by rintro x rfl; decide), rfl, (by have n4 := pq_nrole (pq_rrO (a := a) (r := 3) h33 (pq_nrole h33 ha_33 (by decide))) (pq_rrO (a := a) (r := 3) h17_33 (pq_nrole h17_33 ha_33 (by decide))) (by decide); simp only [pq_Irr, pq_IuO, pq_Iu, pq_Inw, n4, if_true, if_false]; intro x hx i h1 h2; rfl)⟩) dX0_init_67

set_option maxHeartbeats 4000000 in
set_option maxRecDepth 100000 in
theorem k_X0_initB (l : Launch) (D : va_G) (cy : Nat → ClassId) (S : HS) (a : Nat) (ha : pq_R S a 63) : pq_C l D cy yX0_init cX0_init 1 (none) 1 4 458 S [.ref a] (fun v S2 => v = none ∧ pq_G a S S2 ∧ pq_R S2 a 33 ∧ (pq_Iau S2 a 153 155)) := by
  refine pq_start (by decide) (Nat.le_of_ble_eq_true rfl) ?_
  intro p e s m args below meth c A F hr hlk hnm hA
  have lqm1 : (-1 : Int32).toInt = -1 := rfl
  have lq0 : (0 : Int32).toInt = 0 := rfl
  have lq1 : (1 : Int32).toInt = 1 := rfl
  have lq128 : (128 : Int32).toInt = 128 := rfl
  have lq201 : (201 : Int32).toInt = 201 := rfl
  refine pq_aload_n F dX0_init_0 rfl rfl ?_
  refine pq_objI F ow_X0_3 ⟨Nat.le_of_ble_eq_true rfl, Nat.le_of_ble_eq_true rfl⟩ dX0_init_1 ?_
  refine pq_aload_n F dX0_init_4 rfl rfl ?_
  refine pq_sipush (v := 128) F dX0_init_5 (by decide) ?_
  refine pq_newI F (r := 153) (n := 128) (by decide) (by decide) ac_int rfl (by decide) (by focus (simp only [vp_in_iff, Int32.lt_iff_toInt_lt, Int32.le_iff_toInt_le, ← Int32.toInt_inj, Int32.toInt_add, Int32.toInt_sub, Int32.toInt_mul, Int32.toInt_neg, pq_NuO, pq_NuI, pq_NuJ, pq_NuR, pq_shr6, pq_shr7, pq_shr8, lqm1, lq0, lq1, lq128, lq201] at *; (try simp (disch := omega) only [pq_bm] at *); all_goals omega)) rfl (by decide) (Nat.le_of_ble_eq_true rfl) (Nat.le_of_ble_eq_true rfl) (Nat.le_of_ble_eq_true rfl) dX0_init_8 (fun q8 nq8 h8 => ?_)
  have ha_8 := pq_nR (r := 153) (n := 128) (ds := (fun _ => Value.null)) nq8 ha
  refine pq_putF F hnm ha_8 (by decide) lf_X0_9 rfl rfl (show pq_ok (pq_ft 63 0) _ _ from trivial) dX0_init_10 ?_
  refine pq_aload_n F dX0_init_13 rfl rfl ?_
  refine pq_sipush (v := 128) F dX0_init_14 (by decide) ?_
  refine pq_newI F (r := 154) (n := 128) (by decide) (by decide) ac_int rfl (by decide) (by focus (simp only [vp_in_iff, Int32.lt_iff_toInt_lt, Int32.le_iff_toInt_le, ← Int32.toInt_inj, Int32.toInt_add, Int32.toInt_sub, Int32.toInt_mul, Int32.toInt_neg, pq_NuO, pq_NuI, pq_NuJ, pq_NuR, pq_shr6, pq_shr7, pq_shr8, lqm1, lq0, lq1, lq128, lq201] at *; (try simp (disch := omega) only [pq_bm] at *); all_goals omega)) rfl (by decide) (Nat.le_of_ble_eq_true rfl) (Nat.le_of_ble_eq_true rfl) (Nat.le_of_ble_eq_true rfl) dX0_init_17 (fun q17 nq17 h17 => ?_)
  have ha_17 := pq_nR (r := 154) (n := 128) (ds := (fun _ => Value.null)) nq17 ha_8
  have h8_17 := pq_nR (r := 154) (n := 128) (ds := (fun _ => Value.null)) nq17 h8
  refine pq_putF F hnm ha_17 (by decide) lf_X0_15 rfl rfl (show pq_ok (pq_ft 63 1) _ _ from trivial) dX0_init_19 ?_
  refine pq_aload_n F dX0_init_22 rfl rfl ?_
  refine pq_sipush (v := 201) F dX0_init_23 (by decide) ?_
  refine pq_newZ F (r := 207) (n := 201) (by decide) (by decide) ac_boolean rfl (by decide) (by focus (simp only [vp_in_iff, Int32.lt_iff_toInt_lt, Int32.le_iff_toInt_le, ← Int32.toInt_inj, Int32.toInt_add, Int32.toInt_sub, Int32.toInt_mul, Int32.toInt_neg, pq_NuO, pq_NuI, pq_NuJ, pq_NuR, pq_shr6, pq_shr7, pq_shr8, lqm1, lq0, lq1, lq128, lq201] at *; (try simp (disch := omega) only [pq_bm] at *); all_goals omega)) rfl (by decide) (Nat.le_of_ble_eq_true rfl) (Nat.le_of_ble_eq_true rfl) (Nat.le_of_ble_eq_true rfl) dX0_init_26 (fun q26 nq26 h26 => ?_)
  have ha_26 := pq_nR (r := 207) (n := 201) (ds := (fun _ => Value.null)) nq26 ha_17
  have h8_26 := pq_nR (r := 207) (n := 201) (ds := (fun _ => Value.null)) nq26 h8_17
  have h17_26 := pq_nR (r := 207) (n := 201) (ds := (fun _ => Value.null)) nq26 h17
  refine pq_putF F hnm ha_26 (by decide) lf_X0_20 rfl rfl (show pq_ok (pq_ft 63 2) _ _ from trivial) dX0_init_28 ?_
  refine pq_aload_n F dX0_init_31 rfl rfl ?_
  refine pq_iconst (v := 1) F dX0_init_32 (by decide) ?_
  refine pq_newI F (r := 155) (n := 1) (by decide) (by decide) ac_int rfl (by decide) (by focus (simp only [vp_in_iff, Int32.lt_iff_toInt_lt, Int32.le_iff_toInt_le, ← Int32.toInt_inj, Int32.toInt_add, Int32.toInt_sub, Int32.toInt_mul, Int32.toInt_neg, pq_NuO, pq_NuI, pq_NuJ, pq_NuR, pq_shr6, pq_shr7, pq_shr8, lqm1, lq0, lq1, lq128, lq201] at *; (try simp (disch := omega) only [pq_bm] at *); all_goals omega)) rfl (by decide) (Nat.le_of_ble_eq_true rfl) (Nat.le_of_ble_eq_true rfl) (Nat.le_of_ble_eq_true rfl) dX0_init_33 (fun q33 nq33 h33 => ?_)
  have ha_33 := pq_nR (r := 155) (n := 1) (ds := (fun _ => Value.null)) nq33 ha_26
  have h8_33 := pq_nR (r := 155) (n := 1) (ds := (fun _ => Value.null)) nq33 h8_26
  have h17_33 := pq_nR (r := 155) (n := 1) (ds := (fun _ => Value.null)) nq33 h17_26
  have h26_33 := pq_nR (r := 155) (n := 1) (ds := (fun _ => Value.null)) nq33 h26
  refine pq_put F ha_33 (by decide) lp_X0_24 rfl rfl (show pq_ok (pq_ft 63 3) _ _ from trivial) dX0_init_35 ?_
  refine pq_aload_n F dX0_init_38 rfl rfl ?_
  refine pq_iconst (v := 1) F dX0_init_39 (by decide) ?_
  refine pq_put F ha_33 (by decide) lp_X0_27 rfl rfl (show pq_ok (pq_ft 63 4) _ _ from trivial) dX0_init_40 ?_
  refine pq_aload_n F dX0_init_43 rfl rfl ?_
  refine pq_iconst (v := 1) F dX0_init_44 (by decide) ?_
  refine pq_put F ha_33 (by decide) lp_X0_31 rfl rfl (show pq_ok (pq_ft 63 5) _ _ from trivial) dX0_init_45 ?_
  refine pq_aload_n F dX0_init_48 rfl rfl ?_
  refine pq_iconst (v := 0) F dX0_init_49 (by decide) ?_
  refine pq_put F ha_33 (by decide) lp_X0_34 rfl rfl (show pq_ok (pq_ft 63 6) _ _ from trivial) dX0_init_50 ?_
  refine pq_aload_n F dX0_init_53 rfl rfl ?_
  refine pq_iconst (v := 1) F dX0_init_54 (by decide) ?_
  refine pq_put F ha_33 (by decide) lp_X0_37 (pq_bz (by focus (simp only [vp_in_iff, Int32.lt_iff_toInt_lt, Int32.le_iff_toInt_le, ← Int32.toInt_inj, Int32.toInt_add, Int32.toInt_sub, Int32.toInt_mul, Int32.toInt_neg, pq_NuO, pq_NuI, pq_NuJ, pq_NuR, pq_shr6, pq_shr7, pq_shr8, lqm1, lq0, lq1, lq128, lq201] at *; (try simp (disch := omega) only [pq_bm] at *); all_goals omega)) (by focus (simp only [vp_in_iff, Int32.lt_iff_toInt_lt, Int32.le_iff_toInt_le, ← Int32.toInt_inj, Int32.toInt_add, Int32.toInt_sub, Int32.toInt_mul, Int32.toInt_neg, pq_NuO, pq_NuI, pq_NuJ, pq_NuR, pq_shr6, pq_shr7, pq_shr8, lqm1, lq0, lq1, lq128, lq201] at *; (try simp (disch := omega) only [pq_bm] at *); all_goals omega))).1 (pq_bz (by focus (simp only [vp_in_iff, Int32.lt_iff_toInt_lt, Int32.le_iff_toInt_le, ← Int32.toInt_inj, Int32.toInt_add, Int32.toInt_sub, Int32.toInt_mul, Int32.toInt_neg, pq_NuO, pq_NuI, pq_NuJ, pq_NuR, pq_shr6, pq_shr7, pq_shr8, lqm1, lq0, lq1, lq128, lq201] at *; (try simp (disch := omega) only [pq_bm] at *); all_goals omega)) (by focus (simp only [vp_in_iff, Int32.lt_iff_toInt_lt, Int32.le_iff_toInt_le, ← Int32.toInt_inj, Int32.toInt_add, Int32.toInt_sub, Int32.toInt_mul, Int32.toInt_neg, pq_NuO, pq_NuI, pq_NuJ, pq_NuR, pq_shr6, pq_shr7, pq_shr8, lqm1, lq0, lq1, lq128, lq201] at *; (try simp (disch := omega) only [pq_bm] at *); all_goals omega))).2 (show pq_ok (pq_ft 63 7) _ _ from trivial) dX0_init_55 ?_
  refine pq_aload_n F dX0_init_58 rfl rfl ?_
  refine pq_get F ha_33 (by decide) lk_X0_15 (pq_kp (pq_kp (pq_kp (pq_kp (pq_kp (pq_nO nq33 ha_26 (pq_kp (pq_nO nq26 ha_17 pq_ks) (by decide))) (by decide)) (by decide)) (by decide)) (by decide)) (by decide)) dX0_init_59 ?_
  refine pq_iconst (v := 0) F dX0_init_62 (by decide) ?_
  refine pq_sipush (v := 128) F dX0_init_63 (by decide) ?_
  refine pq_iast F h17_33 (by decide) (by decide) rfl (fun n1_66 n2_66 => (by focus (simp only [vp_in_iff, Int32.lt_iff_toInt_lt, Int32.le_iff_toInt_le, ← Int32.toInt_inj, Int32.toInt_add, Int32.toInt_sub, Int32.toInt_mul, Int32.toInt_neg, pq_NuO, pq_NuI, pq_NuJ, pq_NuR, pq_shr6, pq_shr7, pq_shr8, lqm1, lq0, lq1, lq128, lq201] at *; (try simp (disch := omega) only [pq_bm] at *); all_goals omega))) (⟨pq_any1 _, pq_any2 _⟩) dX0_init_66 ?_
  refine pq_prom (r := 33) ha_33 (by decide) (by decide) (by decide) rfl (fun k => match k with | 0 => (show pq_ok (pq_ft 33 0) _ _ from ⟨by decide, _, (pq_kp (pq_kp (pq_kp (pq_kp (pq_kp (pq_nO nq33 ha_26 (pq_kp (pq_nO nq26 ha_17 (pq_kp (pq_nO nq17 ha_8 pq_ks) (by decide))) (by decide))) (by decide)) (by decide)) (by decide)) (by decide)) (by decide)), h8_33⟩) | 1 => (show pq_ok (pq_ft 33 1) _ _ from ⟨by decide, _, (pq_kp (pq_kp (pq_kp (pq_kp (pq_kp (pq_nO nq33 ha_26 (pq_kp (pq_nO nq26 ha_17 pq_ks) (by decide))) (by decide)) (by decide)) (by decide)) (by decide)) (by decide)), h17_33⟩) | 2 => (show pq_ok (pq_ft 33 2) _ _ from ⟨by decide, _, (pq_kp (pq_kp (pq_kp (pq_kp (pq_kp (pq_nO nq33 ha_26 pq_ks) (by decide)) (by decide)) (by decide)) (by decide)) (by decide)), h26_33⟩) | 3 => (show pq_ok (pq_ft 33 3) _ _ from ⟨by decide, _, (pq_kp (pq_kp (pq_kp (pq_kp pq_ks (by decide)) (by decide)) (by decide)) (by decide)), h33⟩) | 4 => (show pq_ok (1, 0, 128) _ _ from ⟨_, (pq_kp (pq_kp (pq_kp pq_ks (by decide)) (by decide)) (by decide)), (by focus (simp only [vp_in_iff, Int32.lt_iff_toInt_lt, Int32.le_iff_toInt_le, ← Int32.toInt_inj, Int32.toInt_add, Int32.toInt_sub, Int32.toInt_mul, Int32.toInt_neg, pq_NuO, pq_NuI, pq_NuJ, pq_NuR, pq_shr6, pq_shr7, pq_shr8, lqm1, lq0, lq1, lq128, lq201] at *; (try simp (disch := omega) only [pq_bm] at *); all_goals omega)), (by focus (simp only [vp_in_iff, Int32.lt_iff_toInt_lt, Int32.le_iff_toInt_le, ← Int32.toInt_inj, Int32.toInt_add, Int32.toInt_sub, Int32.toInt_mul, Int32.toInt_neg, pq_NuO, pq_NuI, pq_NuJ, pq_NuR, pq_shr6, pq_shr7, pq_shr8, lqm1, lq0, lq1, lq128, lq201] at *; (try simp (disch := omega) only [pq_bm] at *); all_goals omega))⟩) | 5 => (show pq_ok (1, 1, 201) _ _ from ⟨_, (pq_kp (pq_kp pq_ks (by decide)) (by decide)), (by focus (simp only [vp_in_iff, Int32.lt_iff_toInt_lt, Int32.le_iff_toInt_le, ← Int32.toInt_inj, Int32.toInt_add, Int32.toInt_sub, Int32.toInt_mul, Int32.toInt_neg, pq_NuO, pq_NuI, pq_NuJ, pq_NuR, pq_shr6, pq_shr7, pq_shr8, lqm1, lq0, lq1, lq128, lq201] at *; (try simp (disch := omega) only [pq_bm] at *); all_goals omega)), (by focus (simp only [vp_in_iff, Int32.lt_iff_toInt_lt, Int32.le_iff_toInt_le, ← Int32.toInt_inj, Int32.toInt_add, Int32.toInt_sub, Int32.toInt_mul, Int32.toInt_neg, pq_NuO, pq_NuI, pq_NuJ, pq_NuR, pq_shr6, pq_shr7, pq_shr8, lqm1, lq0, lq1, lq128, lq201] at *; (try simp (disch := omega) only [pq_bm] at *); all_goals omega))⟩) | 6 => (show pq_ok (1, 0, 200) _ _ from ⟨_, (pq_kp pq_ks (by decide)), (by focus (simp only [vp_in_iff, Int32.lt_iff_toInt_lt, Int32.le_iff_toInt_le, ← Int32.toInt_inj, Int32.toInt_add, Int32.toInt_sub, Int32.toInt_mul, Int32.toInt_neg, pq_NuO, pq_NuI, pq_NuJ, pq_NuR, pq_shr6, pq_shr7, pq_shr8, lqm1, lq0, lq1, lq128, lq201] at *; (try simp (disch := omega) only [pq_bm] at *); all_goals omega)), (by focus (simp only [vp_in_iff, Int32.lt_iff_toInt_lt, Int32.le_iff_toInt_le, ← Int32.toInt_inj, Int32.toInt_add, Int32.toInt_sub, Int32.toInt_mul, Int32.toInt_neg, pq_NuO, pq_NuI, pq_NuJ, pq_NuR, pq_shr6, pq_shr7, pq_shr8, lqm1, lq0, lq1, lq128, lq201] at *; (try simp (disch := omega) only [pq_bm] at *); all_goals omega))⟩) | 7 => (show pq_ok (1, 0, 1) _ _ from ⟨_, pq_ks, (by focus (simp only [vp_in_iff, Int32.lt_iff_toInt_lt, Int32.le_iff_toInt_le, ← Int32.toInt_inj, Int32.toInt_add, Int32.toInt_sub, Int32.toInt_mul, Int32.toInt_neg, pq_NuO, pq_NuI, pq_NuJ, pq_NuR, pq_shr6, pq_shr7, pq_shr8, lqm1, lq0, lq1, lq128, lq201] at *; (try simp (disch := omega) only [pq_bm] at *); all_goals omega)), (by focus (simp only [vp_in_iff, Int32.lt_iff_toInt_lt, Int32.le_iff_toInt_le, ← Int32.toInt_inj, Int32.toInt_add, Int32.toInt_sub, Int32.toInt_mul, Int32.toInt_neg, pq_NuO, pq_NuI, pq_NuJ, pq_NuR, pq_shr6, pq_shr7, pq_shr8, lqm1, lq0, lq1, lq128, lq201] at *; (try simp (disch := omega) only [pq_bm] at *); all_goals omega))⟩) | _ + 8 => trivial) ?_
  have hpr := pq_rrR (r := 33) ha_33
  exact pq_vret F hr hlk hA (Nat.le_of_ble_eq_true rfl) (Nat.le_of_ble_eq_true rfl) (⟨rfl, (((((pq_G.rf.nw nq8).uO.nw nq17).uO.nw nq26).uO.nw nq33).uO.uO.uO.uO.uO.uIn (fun h => nq17 (List.mem_append_left _ h))).rr, hpr, q8, q33, 1, 1, 0, (fun x => x = 0), ⟨(pq_kp (pq_kp (pq_kp (pq_kp (pq_kp (pq_nO nq33 ha_26 (pq_kp (pq_nO nq26 ha_17 (pq_kp (pq_nO nq17 ha_8 pq_ks) (by decide))) (by decide))) (by decide)) (by decide)) (by decide)) (by decide)) (by decide)), (pq_rrO (a := a) (r := 33) h8_33 (pq_nrole h8_33 ha_33 (by decide))), (pq_kp (pq_kp (pq_kp (pq_kp pq_ks (by decide)) (by decide)) (by decide)) (by decide)), (pq_rrO (a := a) (r := 33) h33 (pq_nrole h33 ha_33 (by decide)))⟩, ⟨(pq_kp (pq_kp (pq_kp pq_ks (by decide)) (by decide)) (by decide)), (pq_kp (pq_kp pq_ks (by decide)) (by decide)), (pq_kp pq_ks (by decide))⟩, by decide, (by simp only [pq_Nrr, pq_NuO, pq_NuI, pq_Nnw, if_true]; decide), (by have n1 := pq_nrole (pq_rrO (a := a) (r := 33) h8_33 (pq_nrole h8_33 ha_33 (by decide))) (pq_rrO (a := a) (r := 33) h17_33 (pq_nrole h17_33 ha_33 (by decide))) (by decide); have n2 := pq_nrole (pq_rrO (a := a) (r := 33) h8_33 (pq_nrole h8_33 ha_33 (by decide))) (pq_rrO (a := a) (r := 33) h26_33 (pq_nrole h26_33 ha_33 (by decide))) (by decide); have n3 := pq_nrole (pq_rrO (a := a) (r := 33) h8_33 (pq_nrole h8_33 ha_33 (by decide))) (pq_rrO (a := a) (r := 33) h33 (pq_nrole h33 ha_33 (by decide))) (by decide); simp only [pq_Irr, pq_IuO, pq_Iu, pq_Inw, n1, n2, n3, if_true, if_false]; intro i hi; show (0 : Int32).toInt < (1 : Int32).toInt; decide), (by rintro x rfl; decide), rfl, (by have n4 := pq_nrole (pq_rrO (a := a) (r := 33) h33 (pq_nrole h33 ha_33 (by decide))) (pq_rrO (a := a) (r := 33) h17_33 (pq_nrole h17_33 ha_33 (by decide))) (by decide); simp only [pq_Irr, pq_IuO, pq_Iu, pq_Inw, n4, if_true, if_false]; intro x hx i h1 h2; rfl)⟩) dX0_init_67

set_option maxHeartbeats 4000000 in
set_option maxRecDepth 100000 in
theorem k_X1_init (l : Launch) (D : va_G) (cy : Nat → ClassId) (S : HS) (a : Nat) (ha : pq_R S a 64) : pq_C l D cy yX1_init cX1_init 1 (none) 1 2 402 S [.ref a] (fun v S2 => v = none ∧ pq_G a S S2 ∧ pq_R S2 a 4) := by
  refine pq_start (by decide) (Nat.le_of_ble_eq_true rfl) ?_
  intro p e s m args below meth c A F hr hlk hnm hA
  have lqm1 : (-1 : Int32).toInt = -1 := rfl
  have lq0 : (0 : Int32).toInt = 0 := rfl
  have lq1 : (1 : Int32).toInt = 1 := rfl
  have lq201 : (201 : Int32).toInt = 201 := rfl
  refine pq_aload_n F dX1_init_0 rfl rfl ?_
  refine pq_objI F ow_X1_1 ⟨Nat.le_of_ble_eq_true rfl, Nat.le_of_ble_eq_true rfl⟩ dX1_init_1 ?_
  refine pq_aload_n F dX1_init_4 rfl rfl ?_
  refine pq_sipush (v := 201) F dX1_init_5 (by decide) ?_
  refine pq_newJ F (r := 189) (n := 201) (by decide) (by decide) ac_long rfl (by decide) (by focus (simp only [vp_in_iff, Int32.lt_iff_toInt_lt, Int32.le_iff_toInt_le, ← Int32.toInt_inj, Int32.toInt_add, Int32.toInt_sub, Int32.toInt_mul, Int32.toInt_neg, pq_NuO, pq_NuI, pq_NuJ, pq_NuR, pq_shr6, pq_shr7, pq_shr8, lqm1, lq0, lq1, lq201] at *; (try simp (disch := omega) only [pq_bm] at *); all_goals omega)) rfl (by decide) (Nat.le_of_ble_eq_true rfl) (Nat.le_of_ble_eq_true rfl) (Nat.le_of_ble_eq_true rfl) dX1_init_8 (fun q8 nq8 h8 => ?_)
  have ha_8 := pq_nR (r := 189) (n := 201) (ds := (fun _ => Value.null)) nq8 ha
  refine pq_put F ha_8 (by decide) lp_X1_9 rfl rfl (show pq_ok (pq_ft 64 0) _ _ from trivial) dX1_init_10 ?_
  refine pq_aload_n F dX1_init_13 rfl rfl ?_
  refine pq_sipush (v := 201) F dX1_init_14 (by decide) ?_
  refine pq_newJ F (r := 189) (n := 201) (by decide) (by decide) ac_long rfl (by decide) (by focus (simp only [vp_in_iff, Int32.lt_iff_toInt_lt, Int32.le_iff_toInt_le, ← Int32.toInt_inj, Int32.toInt_add, Int32.toInt_sub, Int32.toInt_mul, Int32.toInt_neg, pq_NuO, pq_NuI, pq_NuJ, pq_NuR, pq_shr6, pq_shr7, pq_shr8, lqm1, lq0, lq1, lq201] at *; (try simp (disch := omega) only [pq_bm] at *); all_goals omega)) rfl (by decide) (Nat.le_of_ble_eq_true rfl) (Nat.le_of_ble_eq_true rfl) (Nat.le_of_ble_eq_true rfl) dX1_init_17 (fun q17 nq17 h17 => ?_)
  have ha_17 := pq_nR (r := 189) (n := 201) (ds := (fun _ => Value.null)) nq17 ha_8
  have h8_17 := pq_nR (r := 189) (n := 201) (ds := (fun _ => Value.null)) nq17 h8
  refine pq_put F ha_17 (by decide) lp_X1_15 rfl rfl (show pq_ok (pq_ft 64 1) _ _ from trivial) dX1_init_19 ?_
  refine pq_prom (r := 4) ha_17 (by decide) (by decide) (by decide) rfl (fun k => match k with | 0 => (show pq_ok (pq_ft 4 0) _ _ from ⟨by decide, _, (pq_kp (pq_nO nq17 ha_8 pq_ks) (by decide)), h8_17⟩) | 1 => (show pq_ok (pq_ft 4 1) _ _ from ⟨by decide, _, pq_ks, h17⟩) | _ + 2 => trivial) ?_
  have hpr := pq_rrR (r := 4) ha_17
  exact pq_vret F hr hlk hA (Nat.le_of_ble_eq_true rfl) (Nat.le_of_ble_eq_true rfl) (⟨rfl, ((pq_G.rf.nw nq8).uO.nw nq17).uO.rr, hpr⟩) dX1_init_22

set_option maxHeartbeats 4000000 in
set_option maxRecDepth 100000 in
theorem k_X7_init (l : Launch) (D : va_G) (cy : Nat → ClassId) (S : HS) (a : Nat) (ha : pq_R S a 70) (d1 : hO S a 1 = .int 0) (d5 : hO S a 5 = .int 0) (d7 : hO S a 7 = .int 0) : pq_C l D cy yX7_init cX7_init 1 (none) 1 5 128 S [.ref a] (fun v S2 => v = none ∧ pq_G a S S2 ∧ pq_R S2 a 10 ∧ (pq_Is S2 a 0 0)) := by
  refine pq_start (by decide) (Nat.le_of_ble_eq_true rfl) ?_
  intro p e s m args below meth c A F hr hlk hnm hA
  have lqm1 : (-1 : Int32).toInt = -1 := rfl
  have lq0 : (0 : Int32).toInt = 0 := rfl
  have lq1 : (1 : Int32).toInt = 1 := rfl
  have lq128 : (128 : Int32).toInt = 128 := rfl
  refine pq_aload_n F dX7_init_0 rfl rfl ?_
  refine pq_objI F ow_X7_3 ⟨Nat.le_of_ble_eq_true rfl, Nat.le_of_ble_eq_true rfl⟩ dX7_init_1 ?_
  refine pq_aload_n F dX7_init_4 rfl rfl ?_
  refine pq_sipush (v := 128) F dX7_init_5 (by decide) ?_
  refine pq_newI F (r := 163) (n := 128) (by decide) (by decide) ac_int rfl (by decide) (by focus (simp only [vp_in_iff, Int32.lt_iff_toInt_lt, Int32.le_iff_toInt_le, ← Int32.toInt_inj, Int32.toInt_add, Int32.toInt_sub, Int32.toInt_mul, Int32.toInt_neg, pq_NuO, pq_NuI, pq_NuJ, pq_NuR, pq_shr6, pq_shr7, pq_shr8, lqm1, lq0, lq1, lq128] at *; (try simp (disch := omega) only [pq_bm] at *); all_goals omega)) rfl (by decide) (Nat.le_of_ble_eq_true rfl) (Nat.le_of_ble_eq_true rfl) (Nat.le_of_ble_eq_true rfl) dX7_init_8 (fun q8 nq8 h8 => ?_)
  have ha_8 := pq_nR (r := 163) (n := 128) (ds := (fun _ => Value.null)) nq8 ha
  refine pq_putF F hnm ha_8 (by decide) lf_X7_9 rfl rfl (show pq_ok (pq_ft 70 0) _ _ from trivial) dX7_init_10 ?_
  refine pq_aload_n F dX7_init_13 rfl rfl ?_
  refine pq_iconst (v := 0) F dX7_init_14 (by decide) ?_
  refine pq_newI F (r := 164) (n := 0) (by decide) (by decide) ac_int rfl (by decide) (by focus (simp only [vp_in_iff, Int32.lt_iff_toInt_lt, Int32.le_iff_toInt_le, ← Int32.toInt_inj, Int32.toInt_add, Int32.toInt_sub, Int32.toInt_mul, Int32.toInt_neg, pq_NuO, pq_NuI, pq_NuJ, pq_NuR, pq_shr6, pq_shr7, pq_shr8, lqm1, lq0, lq1, lq128] at *; (try simp (disch := omega) only [pq_bm] at *); all_goals omega)) rfl (by decide) (Nat.le_of_ble_eq_true rfl) (Nat.le_of_ble_eq_true rfl) (Nat.le_of_ble_eq_true rfl) dX7_init_15 (fun q15 nq15 h15 => ?_)
  have ha_15 := pq_nR (r := 164) (n := 0) (ds := (fun _ => Value.null)) nq15 ha_8
  have h8_15 := pq_nR (r := 164) (n := 0) (ds := (fun _ => Value.null)) nq15 h8
  refine pq_put F ha_15 (by decide) lp_X7_15 rfl rfl (show pq_ok (pq_ft 70 2) _ _ from trivial) dX7_init_17 ?_
  refine pq_aload_n F dX7_init_20 rfl rfl ?_
  refine pq_iconst (v := 0) F dX7_init_21 (by decide) ?_
  refine pq_newI F (r := 165) (n := 0) (by decide) (by decide) ac_int rfl (by decide) (by focus (simp only [vp_in_iff, Int32.lt_iff_toInt_lt, Int32.le_iff_toInt_le, ← Int32.toInt_inj, Int32.toInt_add, Int32.toInt_sub, Int32.toInt_mul, Int32.toInt_neg, pq_NuO, pq_NuI, pq_NuJ, pq_NuR, pq_shr6, pq_shr7, pq_shr8, lqm1, lq0, lq1, lq128] at *; (try simp (disch := omega) only [pq_bm] at *); all_goals omega)) rfl (by decide) (Nat.le_of_ble_eq_true rfl) (Nat.le_of_ble_eq_true rfl) (Nat.le_of_ble_eq_true rfl) dX7_init_22 (fun q22 nq22 h22 => ?_)
  have ha_22 := pq_nR (r := 165) (n := 0) (ds := (fun _ => Value.null)) nq22 ha_15
  have h8_22 := pq_nR (r := 165) (n := 0) (ds := (fun _ => Value.null)) nq22 h8_15
  have h15_22 := pq_nR (r := 165) (n := 0) (ds := (fun _ => Value.null)) nq22 h15
  refine pq_put F ha_22 (by decide) lp_X7_18 rfl rfl (show pq_ok (pq_ft 70 3) _ _ from trivial) dX7_init_24 ?_
  refine pq_aload_n F dX7_init_27 rfl rfl ?_
  refine pq_iconst (v := 0) F dX7_init_28 (by decide) ?_
  refine pq_newJ F (r := 196) (n := 0) (by decide) (by decide) ac_long rfl (by decide) (by focus (simp only [vp_in_iff, Int32.lt_iff_toInt_lt, Int32.le_iff_toInt_le, ← Int32.toInt_inj, Int32.toInt_add, Int32.toInt_sub, Int32.toInt_mul, Int32.toInt_neg, pq_NuO, pq_NuI, pq_NuJ, pq_NuR, pq_shr6, pq_shr7, pq_shr8, lqm1, lq0, lq1, lq128] at *; (try simp (disch := omega) only [pq_bm] at *); all_goals omega)) rfl (by decide) (Nat.le_of_ble_eq_true rfl) (Nat.le_of_ble_eq_true rfl) (Nat.le_of_ble_eq_true rfl) dX7_init_29 (fun q29 nq29 h29 => ?_)
  have ha_29 := pq_nR (r := 196) (n := 0) (ds := (fun _ => Value.null)) nq29 ha_22
  have h8_29 := pq_nR (r := 196) (n := 0) (ds := (fun _ => Value.null)) nq29 h8_22
  have h15_29 := pq_nR (r := 196) (n := 0) (ds := (fun _ => Value.null)) nq29 h15_22
  have h22_29 := pq_nR (r := 196) (n := 0) (ds := (fun _ => Value.null)) nq29 h22
  refine pq_put F ha_29 (by decide) lp_X7_21 rfl rfl (show pq_ok (pq_ft 70 4) _ _ from trivial) dX7_init_31 ?_
  refine pq_aload_n F dX7_init_34 rfl rfl ?_
  refine pq_iconst (v := 0) F dX7_init_35 (by decide) ?_
  refine pq_newB F (r := 103) (n := 0) (by decide) (by decide) ac_byte rfl (by decide) (by focus (simp only [vp_in_iff, Int32.lt_iff_toInt_lt, Int32.le_iff_toInt_le, ← Int32.toInt_inj, Int32.toInt_add, Int32.toInt_sub, Int32.toInt_mul, Int32.toInt_neg, pq_NuO, pq_NuI, pq_NuJ, pq_NuR, pq_shr6, pq_shr7, pq_shr8, lqm1, lq0, lq1, lq128] at *; (try simp (disch := omega) only [pq_bm] at *); all_goals omega)) rfl (by decide) (Nat.le_of_ble_eq_true rfl) (Nat.le_of_ble_eq_true rfl) (Nat.le_of_ble_eq_true rfl) dX7_init_36 (fun q36 nq36 h36 => ?_)
  have ha_36 := pq_nR (r := 103) (n := 0) (ds := (fun _ => Value.null)) nq36 ha_29
  have h8_36 := pq_nR (r := 103) (n := 0) (ds := (fun _ => Value.null)) nq36 h8_29
  have h15_36 := pq_nR (r := 103) (n := 0) (ds := (fun _ => Value.null)) nq36 h15_29
  have h22_36 := pq_nR (r := 103) (n := 0) (ds := (fun _ => Value.null)) nq36 h22_29
  have h29_36 := pq_nR (r := 103) (n := 0) (ds := (fun _ => Value.null)) nq36 h29
  refine pq_put F ha_36 (by decide) lp_X7_25 rfl rfl (show pq_ok (pq_ft 70 6) _ _ from trivial) dX7_init_38 ?_
  refine pq_prom (r := 10) ha_36 (by decide) (by decide) (by decide) rfl (fun k => match k with | 0 => (show pq_ok (pq_ft 10 0) _ _ from ⟨by decide, _, (pq_kp (pq_nO nq36 ha_29 (pq_kp (pq_nO nq29 ha_22 (pq_kp (pq_nO nq22 ha_15 (pq_kp (pq_nO nq15 ha_8 pq_ks) (by decide))) (by decide))) (by decide))) (by decide)), h8_36⟩) | 1 => (show pq_ok (1, 0, 128) _ _ from ⟨_, (pq_kp (pq_nO nq36 ha_29 (pq_kp (pq_nO nq29 ha_22 (pq_kp (pq_nO nq22 ha_15 (pq_kp (pq_nO nq15 ha_8 (pq_kp (pq_nO nq8 ha d1) (by decide))) (by decide))) (by decide))) (by decide))) (by decide)), (by focus (simp only [vp_in_iff, Int32.lt_iff_toInt_lt, Int32.le_iff_toInt_le, ← Int32.toInt_inj, Int32.toInt_add, Int32.toInt_sub, Int32.toInt_mul, Int32.toInt_neg, pq_NuO, pq_NuI, pq_NuJ, pq_NuR, pq_shr6, pq_shr7, pq_shr8, lqm1, lq0, lq1, lq128] at *; (try simp (disch := omega) only [pq_bm] at *); all_goals omega)), (by focus (simp only [vp_in_iff, Int32.lt_iff_toInt_lt, Int32.le_iff_toInt_le, ← Int32.toInt_inj, Int32.toInt_add, Int32.toInt_sub, Int32.toInt_mul, Int32.toInt_neg, pq_NuO, pq_NuI, pq_NuJ, pq_NuR, pq_shr6, pq_shr7, pq_shr8, lqm1, lq0, lq1, lq128] at *; (try simp (disch := omega) only [pq_bm] at *); all_goals omega))⟩) | 2 => (show pq_ok (pq_ft 10 2) _ _ from ⟨by decide, _, (pq_kp (pq_nO nq36 ha_29 (pq_kp (pq_nO nq29 ha_22 (pq_kp (pq_nO nq22 ha_15 pq_ks) (by decide))) (by decide))) (by decide)), h15_36⟩) | 3 => (show pq_ok (pq_ft 10 3) _ _ from ⟨by decide, _, (pq_kp (pq_nO nq36 ha_29 (pq_kp (pq_nO nq29 ha_22 pq_ks) (by decide))) (by decide)), h22_36⟩) | 4 => (show pq_ok (pq_ft 10 4) _ _ from ⟨by decide, _, (pq_kp (pq_nO nq36 ha_29 pq_ks) (by decide)), h29_36⟩) | 5 => (show pq_ok (1, 0, 80804) _ _ from ⟨_, (pq_kp (pq_nO nq36 ha_29 (pq_kp (pq_nO nq29 ha_22 (pq_kp (pq_nO nq22 ha_15 (pq_kp (pq_nO nq15 ha_8 (pq_kp (pq_nO nq8 ha d5) (by decide))) (by decide))) (by decide))) (by decide))) (by decide)), (by focus (simp only [vp_in_iff, Int32.lt_iff_toInt_lt, Int32.le_iff_toInt_le, ← Int32.toInt_inj, Int32.toInt_add, Int32.toInt_sub, Int32.toInt_mul, Int32.toInt_neg, pq_NuO, pq_NuI, pq_NuJ, pq_NuR, pq_shr6, pq_shr7, pq_shr8, lqm1, lq0, lq1, lq128] at *; (try simp (disch := omega) only [pq_bm] at *); all_goals omega)), (by focus (simp only [vp_in_iff, Int32.lt_iff_toInt_lt, Int32.le_iff_toInt_le, ← Int32.toInt_inj, Int32.toInt_add, Int32.toInt_sub, Int32.toInt_mul, Int32.toInt_neg, pq_NuO, pq_NuI, pq_NuJ, pq_NuR, pq_shr6, pq_shr7, pq_shr8, lqm1, lq0, lq1, lq128] at *; (try simp (disch := omega) only [pq_bm] at *); all_goals omega))⟩) | 6 => (show pq_ok (pq_ft 10 6) _ _ from ⟨by decide, _, pq_ks, h36⟩) | 7 => (show pq_ok (1, 0, 80804) _ _ from ⟨_, (pq_kp (pq_nO nq36 ha_29 (pq_kp (pq_nO nq29 ha_22 (pq_kp (pq_nO nq22 ha_15 (pq_kp (pq_nO nq15 ha_8 (pq_kp (pq_nO nq8 ha d7) (by decide))) (by decide))) (by decide))) (by decide))) (by decide)), (by focus (simp only [vp_in_iff, Int32.lt_iff_toInt_lt, Int32.le_iff_toInt_le, ← Int32.toInt_inj, Int32.toInt_add, Int32.toInt_sub, Int32.toInt_mul, Int32.toInt_neg, pq_NuO, pq_NuI, pq_NuJ, pq_NuR, pq_shr6, pq_shr7, pq_shr8, lqm1, lq0, lq1, lq128] at *; (try simp (disch := omega) only [pq_bm] at *); all_goals omega)), (by focus (simp only [vp_in_iff, Int32.lt_iff_toInt_lt, Int32.le_iff_toInt_le, ← Int32.toInt_inj, Int32.toInt_add, Int32.toInt_sub, Int32.toInt_mul, Int32.toInt_neg, pq_NuO, pq_NuI, pq_NuJ, pq_NuR, pq_shr6, pq_shr7, pq_shr8, lqm1, lq0, lq1, lq128] at *; (try simp (disch := omega) only [pq_bm] at *); all_goals omega))⟩) | _ + 8 => trivial) ?_
  have hpr := pq_rrR (r := 10) ha_36
  exact pq_vret F hr hlk hA (Nat.le_of_ble_eq_true rfl) (Nat.le_of_ble_eq_true rfl) (⟨rfl, (((((pq_G.rf.nw nq8).uO.nw nq15).uO.nw nq22).uO.nw nq29).uO.nw nq36).uO.rr, hpr, q15, q22, q29, q36, 0, ⟨(pq_kp (pq_nO nq36 ha_29 (pq_kp (pq_nO nq29 ha_22 (pq_kp (pq_nO nq22 ha_15 pq_ks) (by decide))) (by decide))) (by decide)), (pq_rrO (a := a) (r := 10) h15_36 (pq_nrole h15_36 ha_36 (by decide))), (pq_kp (pq_nO nq36 ha_29 (pq_kp (pq_nO nq29 ha_22 pq_ks) (by decide))) (by decide)), (pq_rrO (a := a) (r := 10) h22_36 (pq_nrole h22_36 ha_36 (by decide))), (pq_kp (pq_nO nq36 ha_29 pq_ks) (by decide)), (pq_rrO (a := a) (r := 10) h29_36 (pq_nrole h29_36 ha_36 (by decide))), pq_ks, (pq_rrO (a := a) (r := 10) h36 (pq_nrole h36 ha_36 (by decide)))⟩, (pq_kp (pq_nO nq36 ha_29 (pq_kp (pq_nO nq29 ha_22 (pq_kp (pq_nO nq22 ha_15 (pq_kp (pq_nO nq15 ha_8 (pq_kp (pq_nO nq8 ha d7) (by decide))) (by decide))) (by decide))) (by decide))) (by decide)), ⟨by decide, Int.natCast_nonneg _⟩, (by have n1 := pq_nrole (pq_rrO (a := a) (r := 10) h15_36 (pq_nrole h15_36 ha_36 (by decide))) (pq_rrO (a := a) (r := 10) h22_36 (pq_nrole h22_36 ha_36 (by decide))) (by decide); have n2 := pq_nrole (pq_rrO (a := a) (r := 10) h15_36 (pq_nrole h15_36 ha_36 (by decide))) (pq_rrO (a := a) (r := 10) h29_36 (pq_nrole h29_36 ha_36 (by decide))) (by decide); have n3 := pq_nrole (pq_rrO (a := a) (r := 10) h15_36 (pq_nrole h15_36 ha_36 (by decide))) (pq_rrO (a := a) (r := 10) h36 (pq_nrole h36 ha_36 (by decide))) (by decide); simp only [pq_Nrr, pq_NuO, pq_Nnw, n1, n2, n3, if_true, if_false]), (by have n1 := pq_nrole (pq_rrO (a := a) (r := 10) h22_36 (pq_nrole h22_36 ha_36 (by decide))) (pq_rrO (a := a) (r := 10) h29_36 (pq_nrole h29_36 ha_36 (by decide))) (by decide); have n2 := pq_nrole (pq_rrO (a := a) (r := 10) h22_36 (pq_nrole h22_36 ha_36 (by decide))) (pq_rrO (a := a) (r := 10) h36 (pq_nrole h36 ha_36 (by decide))) (by decide); simp only [pq_Nrr, pq_NuO, pq_Nnw, n1, n2, if_true, if_false]), (by have n1 := pq_nrole (pq_rrO (a := a) (r := 10) h29_36 (pq_nrole h29_36 ha_36 (by decide))) (pq_rrO (a := a) (r := 10) h36 (pq_nrole h36 ha_36 (by decide))) (by decide); simp only [pq_Nrr, pq_NuO, pq_Nnw, n1, if_true, if_false])⟩) dX7_init_41

set_option maxHeartbeats 4000000 in
set_option maxRecDepth 100000 in
theorem k_X10_init (l : Launch) (D : va_G) (cy : Nat → ClassId) (S : HS) (a : Nat) (ha : pq_R S a 73) : pq_C l D cy yX10_init cX10_init 1 (none) 3 51 13622 S [.ref a] (fun v S2 => v = none ∧ pq_G a S S2 ∧ pq_R S2 a 13 ∧ (pq_Ix S2 a 0 0 0)) := by
  refine pq_start (by decide) (Nat.le_of_ble_eq_true rfl) ?_
  intro p e s m args below meth c A F hr hlk hnm hA
  have lqm1 : (-1 : Int32).toInt = -1 := rfl
  have lq0 : (0 : Int32).toInt = 0 := rfl
  have lq1 : (1 : Int32).toInt = 1 := rfl
  have lq2 : (2 : Int32).toInt = 2 := rfl
  refine pq_aload_n F dX10_init_0 rfl rfl ?_
  refine pq_objI F ow_X10_1 ⟨Nat.le_of_ble_eq_true rfl, Nat.le_of_ble_eq_true rfl⟩ dX10_init_1 ?_
  refine pq_aload_n F dX10_init_4 rfl rfl ?_
  refine pq_newO F nw_X10_7 (by decide) (fun _ => rfl) (Nat.le_of_ble_eq_true rfl) (Nat.le_of_ble_eq_true rfl) dX10_init_5 (fun q5 nq5 h5 => ?_)
  have ha_5 := pq_nR (r := 72) (n := 0) (ds := (fun k => defaultValue (tyX9 k))) nq5 ha
  refine pq_dup F dX10_init_8 rfl ?_
  refine pq_callI (As := []) F (k_X9_init l D cy _ _ ?_ (pq_nwO.trans rfl)) ml_X10_9 (Nat.le_of_ble_eq_true rfl) ⟨Nat.le_of_ble_eq_true rfl, Nat.le_of_ble_eq_true rfl⟩ ⟨Nat.le_of_ble_eq_true rfl, Nat.le_of_ble_eq_true rfl⟩ dX10_init_9 (fun v9 S9 w9 => ?_)
  · exact h5
  obtain ⟨rfl, hG9, hy9, p9⟩ := w9
  have ha_9 := (hG9 _ _ ha_5 (pq_nrole ha_5 h5 (by decide))).1
  refine pq_putF F hnm ha_9 (by decide) lf_X10_10 rfl rfl (show pq_ok (pq_ft 73 0) _ _ from trivial) dX10_init_12 ?_
  refine pq_aload_n F dX10_init_15 rfl rfl ?_
  refine pq_newO F nw_X10_16 (by decide) (fun _ => rfl) (Nat.le_of_ble_eq_true rfl) (Nat.le_of_ble_eq_true rfl) dX10_init_16 (fun q16 nq16 h16 => ?_)
  have ha_16 := pq_nR (r := 68) (n := 0) (ds := (fun k => defaultValue (tyX5 k))) nq16 ha_9
  have hy9_16 := pq_nR (r := 68) (n := 0) (ds := (fun k => defaultValue (tyX5 k))) nq16 hy9
  refine pq_dup F dX10_init_19 rfl ?_
  refine pq_callI (As := []) F (k_X5_init l D cy _ _ ?_ (pq_nwO.trans rfl)) ml_X10_18 (Nat.le_of_ble_eq_true rfl) ⟨Nat.le_of_ble_eq_true rfl, Nat.le_of_ble_eq_true rfl⟩ ⟨Nat.le_of_ble_eq_true rfl, Nat.le_of_ble_eq_true rfl⟩ dX10_init_20 (fun v20 S20 w20 => ?_)
  · exact h16
  obtain ⟨rfl, hG20, hy20⟩ := w20
  have ha_20 := (hG20 _ _ ha_16 (pq_nrole ha_16 h16 (by decide))).1
  have hy9_20 := (hG20 _ _ hy9_16 (pq_nrole hy9_16 h16 (by decide))).1
  have ec20_1_hy9_20 := hG20.e hy9_16 (pq_nrole hy9_16 h16 (by decide)) (pq_nO nq16 hy9 (pq_ko p9 hy9 ha_9 (by decide)))
  have ec20_0_ha_20 := hG20.e ha_16 (pq_nrole ha_16 h16 (by decide)) (pq_nO nq16 ha_9 pq_ks)
  refine pq_putF F hnm ha_20 (by decide) lf_X10_19 rfl rfl (show pq_ok (pq_ft 73 1) _ _ from trivial) dX10_init_23 ?_
  refine pq_aload_n F dX10_init_26 rfl rfl ?_
  refine pq_newO F nw_X10_23 (by decide) (fun _ => rfl) (Nat.le_of_ble_eq_true rfl) (Nat.le_of_ble_eq_true rfl) dX10_init_27 (fun q27 nq27 h27 => ?_)
  have ha_27 := pq_nR (r := 69) (n := 0) (ds := (fun k => defaultValue (tyX6 k))) nq27 ha_20
  have hy9_27 := pq_nR (r := 69) (n := 0) (ds := (fun k => defaultValue (tyX6 k))) nq27 hy9_20
  have hy20_27 := pq_nR (r := 69) (n := 0) (ds := (fun k => defaultValue (tyX6 k))) nq27 hy20
  refine pq_dup F dX10_init_30 rfl ?_
  refine pq_aload_n F dX10_init_31 rfl rfl ?_
  refine pq_get F ha_27 (by decide) lk_X10_10 (pq_nO nq27 ha_20 (pq_kp ec20_0_ha_20 (by decide))) dX10_init_32 ?_
  refine pq_aload_n F dX10_init_35 rfl rfl ?_
  refine pq_get F ha_27 (by decide) lk_X10_19 (pq_nO nq27 ha_20 pq_ks) dX10_init_36 ?_
  refine pq_callI (As := [_, _]) F (k_X6_init l D cy _ _ ?_ _ ?_ _ ?_ (pq_nwO.trans rfl) (pq_nwO.trans rfl) (pq_nwO.trans rfl) (pq_nwO.trans rfl) (pq_nwO.trans rfl)) ml_X10_25 (Nat.le_of_ble_eq_true rfl) ⟨Nat.le_of_ble_eq_true rfl, Nat.le_of_ble_eq_true rfl⟩ ⟨Nat.le_of_ble_eq_true rfl, Nat.le_of_ble_eq_true rfl⟩ dX10_init_39 (fun v39 S39 w39 => ?_)
  · exact h27
  · exact hy9_27
  · exact hy20_27
  obtain ⟨rfl, hG39, hy39, p39⟩ := w39
  have ha_39 := (hG39 _ _ ha_27 (pq_nrole ha_27 h27 (by decide))).1
  have hy9_39 := (hG39 _ _ hy9_27 (pq_nrole hy9_27 h27 (by decide))).1
  have ec39_1_hy9_39 := hG39.e hy9_27 (pq_nrole hy9_27 h27 (by decide)) (pq_nO nq27 hy9_20 (pq_ko ec20_1_hy9_20 hy9_20 ha_20 (by decide)))
  have ec39_0_ha_39 := hG39.e ha_27 (pq_nrole ha_27 h27 (by decide)) (pq_nO nq27 ha_20 (pq_kp ec20_0_ha_20 (by decide)))
  have hy20_39 := (hG39 _ _ hy20_27 (pq_nrole hy20_27 h27 (by decide))).1
  have ec39_1_ha_39 := hG39.e ha_27 (pq_nrole ha_27 h27 (by decide)) (pq_nO nq27 ha_20 pq_ks)
  refine pq_putF F hnm ha_39 (by decide) lf_X10_28 rfl rfl (show pq_ok (pq_ft 73 2) _ _ from trivial) dX10_init_42 ?_
  refine pq_aload_n F dX10_init_45 rfl rfl ?_
  refine pq_newO F nw_X10_32 (by decide) (fun _ => rfl) (Nat.le_of_ble_eq_true rfl) (Nat.le_of_ble_eq_true rfl) dX10_init_46 (fun q46 nq46 h46 => ?_)
  have ha_46 := pq_nR (r := 71) (n := 0) (ds := (fun k => defaultValue (tyX8 k))) nq46 ha_39
  have hy9_46 := pq_nR (r := 71) (n := 0) (ds := (fun k => defaultValue (tyX8 k))) nq46 hy9_39
  have hy20_46 := pq_nR (r := 71) (n := 0) (ds := (fun k => defaultValue (tyX8 k))) nq46 hy20_39
  have hy39_46 := pq_nR (r := 71) (n := 0) (ds := (fun k => defaultValue (tyX8 k))) nq46 hy39
  refine pq_dup F dX10_init_49 rfl ?_
  refine pq_aload_n F dX10_init_50 rfl rfl ?_
  refine pq_get F ha_46 (by decide) lk_X10_19 (pq_nO nq46 ha_39 (pq_kp ec39_1_ha_39 (by decide))) dX10_init_51 ?_
  refine pq_callI (As := [_]) F (k_X8_init l D cy _ _ ?_ _ ?_ (pq_nwO.trans rfl) (pq_nwO.trans rfl) (pq_nwO.trans rfl)) ml_X10_34 (Nat.le_of_ble_eq_true rfl) ⟨Nat.le_of_ble_eq_true rfl, Nat.le_of_ble_eq_true rfl⟩ ⟨Nat.le_of_ble_eq_true rfl, Nat.le_of_ble_eq_true rfl⟩ dX10_init_54 (fun v54 S54 w54 => ?_)
  · exact h46
  · exact hy20_46
  obtain ⟨rfl, hG54, hy54, p54⟩ := w54
  have ha_54 := (hG54 _ _ ha_46 (pq_nrole ha_46 h46 (by decide))).1
  have hy9_54 := (hG54 _ _ hy9_46 (pq_nrole hy9_46 h46 (by decide))).1
  have ec54_1_hy9_54 := hG54.e hy9_46 (pq_nrole hy9_46 h46 (by decide)) (pq_nO nq46 hy9_39 (pq_ko ec39_1_hy9_39 hy9_39 ha_39 (by decide)))
  have ec54_0_ha_54 := hG54.e ha_46 (pq_nrole ha_46 h46 (by decide)) (pq_nO nq46 ha_39 (pq_kp ec39_0_ha_39 (by decide)))
  have hy20_54 := (hG54 _ _ hy20_46 (pq_nrole hy20_46 h46 (by decide))).1
  have ec54_1_ha_54 := hG54.e ha_46 (pq_nrole ha_46 h46 (by decide)) (pq_nO nq46 ha_39 (pq_kp ec39_1_ha_39 (by decide)))
  have hy39_54 := (hG54 _ _ hy39_46 (pq_nrole hy39_46 h46 (by decide))).1
  have ec54_0_hy39_54 := hG54.e hy39_46 (pq_nrole hy39_46 h46 (by decide)) (pq_nO nq46 hy39 (pq_ko p39.1 hy39 ha_39 (by decide)))
  have ec54_1_hy39_54 := hG54.e hy39_46 (pq_nrole hy39_46 h46 (by decide)) (pq_nO nq46 hy39 (pq_ko p39.2 hy39 ha_39 (by decide)))
  have ec54_2_ha_54 := hG54.e ha_46 (pq_nrole ha_46 h46 (by decide)) (pq_nO nq46 ha_39 pq_ks)
  refine pq_putF F hnm ha_54 (by decide) lf_X10_37 rfl rfl (show pq_ok (pq_ft 73 3) _ _ from trivial) dX10_init_57 ?_
  refine pq_aload_n F dX10_init_60 rfl rfl ?_
  refine pq_newO F nw_X10_41 (by decide) (fun _ => rfl) (Nat.le_of_ble_eq_true rfl) (Nat.le_of_ble_eq_true rfl) dX10_init_61 (fun q61 nq61 h61 => ?_)
  have ha_61 := pq_nR (r := 67) (n := 0) (ds := (fun k => defaultValue (tyX4 k))) nq61 ha_54
  have hy9_61 := pq_nR (r := 67) (n := 0) (ds := (fun k => defaultValue (tyX4 k))) nq61 hy9_54
  have hy20_61 := pq_nR (r := 67) (n := 0) (ds := (fun k => defaultValue (tyX4 k))) nq61 hy20_54
  have hy39_61 := pq_nR (r := 67) (n := 0) (ds := (fun k => defaultValue (tyX4 k))) nq61 hy39_54
  have hy54_61 := pq_nR (r := 67) (n := 0) (ds := (fun k => defaultValue (tyX4 k))) nq61 hy54
  refine pq_dup F dX10_init_64 rfl ?_
  refine pq_aload_n F dX10_init_65 rfl rfl ?_
  refine pq_get F ha_61 (by decide) lk_X10_37 (pq_nO nq61 ha_54 pq_ks) dX10_init_66 ?_
  refine pq_callI (As := [_]) F (k_X4_init l D cy _ _ ?_ _ ?_ (pq_nwO.trans rfl)) ml_X10_43 (Nat.le_of_ble_eq_true rfl) ⟨Nat.le_of_ble_eq_true rfl, Nat.le_of_ble_eq_true rfl⟩ ⟨Nat.le_of_ble_eq_true rfl, Nat.le_of_ble_eq_true rfl⟩ dX10_init_69 (fun v69 S69 w69 => ?_)
  · exact h61
  · exact hy54_61
  obtain ⟨rfl, hG69, hy69, p69⟩ := w69
  have ha_69 := (hG69 _ _ ha_61 (pq_nrole ha_61 h61 (by decide))).1
  have hy9_69 := (hG69 _ _ hy9_61 (pq_nrole hy9_61 h61 (by decide))).1
  have ec69_1_hy9_69 := hG69.e hy9_61 (pq_nrole hy9_61 h61 (by decide)) (pq_nO nq61 hy9_54 (pq_ko ec54_1_hy9_54 hy9_54 ha_54 (by decide)))
  have ec69_0_ha_69 := hG69.e ha_61 (pq_nrole ha_61 h61 (by decide)) (pq_nO nq61 ha_54 (pq_kp ec54_0_ha_54 (by decide)))
  have hy20_69 := (hG69 _ _ hy20_61 (pq_nrole hy20_61 h61 (by decide))).1
  have ec69_1_ha_69 := hG69.e ha_61 (pq_nrole ha_61 h61 (by decide)) (pq_nO nq61 ha_54 (pq_kp ec54_1_ha_54 (by decide)))
  have hy39_69 := (hG69 _ _ hy39_61 (pq_nrole hy39_61 h61 (by decide))).1
  have ec69_0_hy39_69 := hG69.e hy39_61 (pq_nrole hy39_61 h61 (by decide)) (pq_nO nq61 hy39_54 (pq_ko ec54_0_hy39_54 hy39_54 ha_54 (by decide)))
  have ec69_1_hy39_69 := hG69.e hy39_61 (pq_nrole hy39_61 h61 (by decide)) (pq_nO nq61 hy39_54 (pq_ko ec54_1_hy39_54 hy39_54 ha_54 (by decide)))
  have ec69_2_ha_69 := hG69.e ha_61 (pq_nrole ha_61 h61 (by decide)) (pq_nO nq61 ha_54 (pq_kp ec54_2_ha_54 (by decide)))
  have hy54_69 := (hG69 _ _ hy54_61 (pq_nrole hy54_61 h61 (by decide))).1
  have ec69_0_hy54_69 := hG69.e hy54_61 (pq_nrole hy54_61 h61 (by decide)) (pq_nO nq61 hy54 (pq_ko p54 hy54 ha_54 (by decide)))
  have ec69_3_ha_69 := hG69.e ha_61 (pq_nrole ha_61 h61 (by decide)) (pq_nO nq61 ha_54 pq_ks)
  refine pq_putF F hnm ha_69 (by decide) lf_X10_46 rfl rfl (show pq_ok (pq_ft 73 4) _ _ from trivial) dX10_init_72 ?_
  refine pq_aload_n F dX10_init_75 rfl rfl ?_
  refine pq_iconst (v := 2) F dX10_init_76 (by decide) ?_
  refine pq_newR F (r := 220) (n := 2) (by decide) cl_X10_50 (by focus (simp only [vp_in_iff, Int32.lt_iff_toInt_lt, Int32.le_iff_toInt_le, ← Int32.toInt_inj, Int32.toInt_add, Int32.toInt_sub, Int32.toInt_mul, Int32.toInt_neg, pq_NuO, pq_NuI, pq_NuJ, pq_NuR, pq_shr6, pq_shr7, pq_shr8, lqm1, lq0, lq1, lq2] at *; (try simp (disch := omega) only [pq_bm] at *); all_goals omega)) rfl (by decide) (by decide) (Nat.le_of_ble_eq_true rfl) (Nat.le_of_ble_eq_true rfl) (Nat.le_of_ble_eq_true rfl) dX10_init_77 (fun q77 nq77 h77 => ?_)
  have ha_77 := pq_nR (r := 220) (n := 2) (ds := (fun _ => Value.null)) nq77 ha_69
  have hy9_77 := pq_nR (r := 220) (n := 2) (ds := (fun _ => Value.null)) nq77 hy9_69
  have hy20_77 := pq_nR (r := 220) (n := 2) (ds := (fun _ => Value.null)) nq77 hy20_69
  have hy39_77 := pq_nR (r := 220) (n := 2) (ds := (fun _ => Value.null)) nq77 hy39_69
  have hy54_77 := pq_nR (r := 220) (n := 2) (ds := (fun _ => Value.null)) nq77 hy54_69
  have hy69_77 := pq_nR (r := 220) (n := 2) (ds := (fun _ => Value.null)) nq77 hy69
  refine pq_dup F dX10_init_80 rfl ?_
  refine pq_iconst (v := 0) F dX10_init_81 (by decide) ?_
  refine pq_newO F nw_X10_50 (by decide) (fun _ => rfl) (Nat.le_of_ble_eq_true rfl) (Nat.le_of_ble_eq_true rfl) dX10_init_82 (fun q82 nq82 h82 => ?_)
  have ha_82 := pq_nR (r := 63) (n := 0) (ds := (fun k => defaultValue (tyX0 k))) nq82 ha_77
  have h77_82 := pq_nR (r := 63) (n := 0) (ds := (fun k => defaultValue (tyX0 k))) nq82 h77
  have hy9_82 := pq_nR (r := 63) (n := 0) (ds := (fun k => defaultValue (tyX0 k))) nq82 hy9_77
  have hy20_82 := pq_nR (r := 63) (n := 0) (ds := (fun k => defaultValue (tyX0 k))) nq82 hy20_77
  have hy39_82 := pq_nR (r := 63) (n := 0) (ds := (fun k => defaultValue (tyX0 k))) nq82 hy39_77
  have hy54_82 := pq_nR (r := 63) (n := 0) (ds := (fun k => defaultValue (tyX0 k))) nq82 hy54_77
  have hy69_82 := pq_nR (r := 63) (n := 0) (ds := (fun k => defaultValue (tyX0 k))) nq82 hy69_77
  refine pq_dup F dX10_init_85 rfl ?_
  refine pq_callI (As := []) F (k_X0_initA l D cy _ _ ?_) ml_X10_52 (Nat.le_of_ble_eq_true rfl) ⟨Nat.le_of_ble_eq_true rfl, Nat.le_of_ble_eq_true rfl⟩ ⟨Nat.le_of_ble_eq_true rfl, Nat.le_of_ble_eq_true rfl⟩ dX10_init_86 (fun v86 S86 w86 => ?_)
  · exact h82
  obtain ⟨rfl, hG86, hy86, p86⟩ := w86
  have ha_86 := (hG86 _ _ ha_82 (pq_nrole ha_82 h82 (by decide))).1
  have h77_86 := (hG86 _ _ h77_82 (pq_nrole h77_82 h82 (by decide))).1
  have hy9_86 := (hG86 _ _ hy9_82 (pq_nrole hy9_82 h82 (by decide))).1
  have ec86_1_hy9_86 := hG86.e hy9_82 (pq_nrole hy9_82 h82 (by decide)) (pq_nO nq82 hy9_77 (pq_nO nq77 hy9_69 (pq_ko ec69_1_hy9_69 hy9_69 ha_69 (by decide))))
  have ec86_0_ha_86 := hG86.e ha_82 (pq_nrole ha_82 h82 (by decide)) (pq_nO nq82 ha_77 (pq_nO nq77 ha_69 (pq_kp ec69_0_ha_69 (by decide))))
  have hy20_86 := (hG86 _ _ hy20_82 (pq_nrole hy20_82 h82 (by decide))).1
  have ec86_1_ha_86 := hG86.e ha_82 (pq_nrole ha_82 h82 (by decide)) (pq_nO nq82 ha_77 (pq_nO nq77 ha_69 (pq_kp ec69_1_ha_69 (by decide))))
  have hy39_86 := (hG86 _ _ hy39_82 (pq_nrole hy39_82 h82 (by decide))).1
  have ec86_0_hy39_86 := hG86.e hy39_82 (pq_nrole hy39_82 h82 (by decide)) (pq_nO nq82 hy39_77 (pq_nO nq77 hy39_69 (pq_ko ec69_0_hy39_69 hy39_69 ha_69 (by decide))))
  have ec86_1_hy39_86 := hG86.e hy39_82 (pq_nrole hy39_82 h82 (by decide)) (pq_nO nq82 hy39_77 (pq_nO nq77 hy39_69 (pq_ko ec69_1_hy39_69 hy39_69 ha_69 (by decide))))
  have ec86_2_ha_86 := hG86.e ha_82 (pq_nrole ha_82 h82 (by decide)) (pq_nO nq82 ha_77 (pq_nO nq77 ha_69 (pq_kp ec69_2_ha_69 (by decide))))
  have hy54_86 := (hG86 _ _ hy54_82 (pq_nrole hy54_82 h82 (by decide))).1
  have ec86_0_hy54_86 := hG86.e hy54_82 (pq_nrole hy54_82 h82 (by decide)) (pq_nO nq82 hy54_77 (pq_nO nq77 hy54_69 (pq_ko ec69_0_hy54_69 hy54_69 ha_69 (by decide))))
  have ec86_3_ha_86 := hG86.e ha_82 (pq_nrole ha_82 h82 (by decide)) (pq_nO nq82 ha_77 (pq_nO nq77 ha_69 (pq_kp ec69_3_ha_69 (by decide))))
  have hy69_86 := (hG86 _ _ hy69_82 (pq_nrole hy69_82 h82 (by decide))).1
  have ec86_0_hy69_86 := hG86.e hy69_82 (pq_nrole hy69_82 h82 (by decide)) (pq_nO nq82 hy69_77 (pq_nO nq77 hy69 (pq_ko p69 hy69 ha_69 (by decide))))
  have ec86_4_ha_86 := hG86.e ha_82 (pq_nrole ha_82 h82 (by decide)) (pq_nO nq82 ha_77 (pq_nO nq77 ha_69 pq_ks))
  refine pq_aast F h77_86 (by decide) hy86 (by decide) rfl (fun n1_89 n2_89 => (by change _ ≤ 2 at n2_89; change 2 ≤ _ at n1_89; focus (simp only [vp_in_iff, Int32.lt_iff_toInt_lt, Int32.le_iff_toInt_le, ← Int32.toInt_inj, Int32.toInt_add, Int32.toInt_sub, Int32.toInt_mul, Int32.toInt_neg, pq_NuO, pq_NuI, pq_NuJ, pq_NuR, pq_shr6, pq_shr7, pq_shr8, lqm1, lq0, lq1, lq2] at *; (try simp (disch := omega) only [pq_bm] at *); all_goals omega))) (⟨fun _ b hb => (by cases hb; exact ⟨fun _ => hy86, fun z => absurd z (by decide)⟩), fun z => absurd z (by decide)⟩) dX10_init_89 ?_
  refine pq_dup F dX10_init_90 rfl ?_
  refine pq_iconst (v := 1) F dX10_init_91 (by decide) ?_
  refine pq_newO F nw_X10_50 (by decide) (fun _ => rfl) (Nat.le_of_ble_eq_true rfl) (Nat.le_of_ble_eq_true rfl) dX10_init_92 (fun q92 nq92 h92 => ?_)
  have ha_92 := pq_nR (r := 63) (n := 0) (ds := (fun k => defaultValue (tyX0 k))) nq92 ha_86
  have h77_92 := pq_nR (r := 63) (n := 0) (ds := (fun k => defaultValue (tyX0 k))) nq92 h77_86
  have hy9_92 := pq_nR (r := 63) (n := 0) (ds := (fun k => defaultValue (tyX0 k))) nq92 hy9_86
  have hy20_92 := pq_nR (r := 63) (n := 0) (ds := (fun k => defaultValue (tyX0 k))) nq92 hy20_86
  have hy39_92 := pq_nR (r := 63) (n := 0) (ds := (fun k => defaultValue (tyX0 k))) nq92 hy39_86
  have hy54_92 := pq_nR (r := 63) (n := 0) (ds := (fun k => defaultValue (tyX0 k))) nq92 hy54_86
  have hy69_92 := pq_nR (r := 63) (n := 0) (ds := (fun k => defaultValue (tyX0 k))) nq92 hy69_86
  refine pq_dup F dX10_init_95 rfl ?_
  refine pq_callI (As := []) F (k_X0_initB l D cy _ _ ?_) ml_X10_52 (Nat.le_of_ble_eq_true rfl) ⟨Nat.le_of_ble_eq_true rfl, Nat.le_of_ble_eq_true rfl⟩ ⟨Nat.le_of_ble_eq_true rfl, Nat.le_of_ble_eq_true rfl⟩ dX10_init_96 (fun v96 S96 w96 => ?_)
  · exact h92
  obtain ⟨rfl, hG96, hy96, p96⟩ := w96
  have ha_96 := (hG96 _ _ ha_92 (pq_nrole ha_92 h92 (by decide))).1
  have h77_96 := (hG96 _ _ h77_92 (pq_nrole h77_92 h92 (by decide))).1
  have hy9_96 := (hG96 _ _ hy9_92 (pq_nrole hy9_92 h92 (by decide))).1
  have ec96_1_hy9_96 := hG96.e hy9_92 (pq_nrole hy9_92 h92 (by decide)) (pq_nO nq92 hy9_86 ec86_1_hy9_86)
  have ec96_0_ha_96 := hG96.e ha_92 (pq_nrole ha_92 h92 (by decide)) (pq_nO nq92 ha_86 ec86_0_ha_86)
  have hy20_96 := (hG96 _ _ hy20_92 (pq_nrole hy20_92 h92 (by decide))).1
  have ec96_1_ha_96 := hG96.e ha_92 (pq_nrole ha_92 h92 (by decide)) (pq_nO nq92 ha_86 ec86_1_ha_86)
  have hy39_96 := (hG96 _ _ hy39_92 (pq_nrole hy39_92 h92 (by decide))).1
  have ec96_0_hy39_96 := hG96.e hy39_92 (pq_nrole hy39_92 h92 (by decide)) (pq_nO nq92 hy39_86 ec86_0_hy39_86)
  have ec96_1_hy39_96 := hG96.e hy39_92 (pq_nrole hy39_92 h92 (by decide)) (pq_nO nq92 hy39_86 ec86_1_hy39_86)
  have ec96_2_ha_96 := hG96.e ha_92 (pq_nrole ha_92 h92 (by decide)) (pq_nO nq92 ha_86 ec86_2_ha_86)
  have hy54_96 := (hG96 _ _ hy54_92 (pq_nrole hy54_92 h92 (by decide))).1
  have ec96_0_hy54_96 := hG96.e hy54_92 (pq_nrole hy54_92 h92 (by decide)) (pq_nO nq92 hy54_86 ec86_0_hy54_86)
  have ec96_3_ha_96 := hG96.e ha_92 (pq_nrole ha_92 h92 (by decide)) (pq_nO nq92 ha_86 ec86_3_ha_86)
  have hy69_96 := (hG96 _ _ hy69_92 (pq_nrole hy69_92 h92 (by decide))).1
  have ec96_0_hy69_96 := hG96.e hy69_92 (pq_nrole hy69_92 h92 (by decide)) (pq_nO nq92 hy69_86 ec86_0_hy69_86)
  have ec96_4_ha_96 := hG96.e ha_92 (pq_nrole ha_92 h92 (by decide)) (pq_nO nq92 ha_86 ec86_4_ha_86)
  have z2 : pq_Fr [(220, 0)] S86 S96 := ((pq_Fr.rf (M := [(220, 0)]) (S := S86)).uR h77_86 (by decide)).gn nq92 hG96
  have hr96 : hR S96 q77 (0 : Int32).toNatClampNeg = some q82 := (congrFun (hG96 _ _ h77_92 (pq_nrole h77_92 h92 (by decide))).2.2.2.2.2 _).trans (by show va_up (pq_uR S86 q77 _).2.2.2.2.2.2 q92 _ q77 _ = _; rw [va_up_ne _ _ (pq_nrole h77_92 h92 (by decide))]; show va_up S86.2.2.2.2.2.2 q77 _ q77 _ = _; rw [va_up_self, va_up_self])
  refine pq_aast F h77_96 (by decide) hy96 (by decide) rfl (fun n1_99 n2_99 => (by change _ ≤ 2 at n2_99; change 2 ≤ _ at n1_99; focus (simp only [vp_in_iff, Int32.lt_iff_toInt_lt, Int32.le_iff_toInt_le, ← Int32.toInt_inj, Int32.toInt_add, Int32.toInt_sub, Int32.toInt_mul, Int32.toInt_neg, pq_NuO, pq_NuI, pq_NuJ, pq_NuR, pq_shr6, pq_shr7, pq_shr8, lqm1, lq0, lq1, lq2] at *; (try simp (disch := omega) only [pq_bm] at *); all_goals omega))) (⟨fun _ b hb => (by cases hb; exact ⟨fun z => absurd z (by decide), fun _ => hy96⟩), fun z => absurd z (by decide)⟩) dX10_init_99 ?_
  refine pq_putF F hnm ha_96 (by decide) lf_X10_53 rfl rfl (show pq_ok (pq_ft 73 5) _ _ from trivial) dX10_init_100 ?_
  refine pq_aload_n F dX10_init_103 rfl rfl ?_
  refine pq_newO F nw_X10_57 (by decide) (fun _ => rfl) (Nat.le_of_ble_eq_true rfl) (Nat.le_of_ble_eq_true rfl) dX10_init_104 (fun q104 nq104 h104 => ?_)
  have ha_104 := pq_nR (r := 64) (n := 0) (ds := (fun k => defaultValue (tyX1 k))) nq104 ha_96
  have hy9_104 := pq_nR (r := 64) (n := 0) (ds := (fun k => defaultValue (tyX1 k))) nq104 hy9_96
  have hy20_104 := pq_nR (r := 64) (n := 0) (ds := (fun k => defaultValue (tyX1 k))) nq104 hy20_96
  have hy39_104 := pq_nR (r := 64) (n := 0) (ds := (fun k => defaultValue (tyX1 k))) nq104 hy39_96
  have hy54_104 := pq_nR (r := 64) (n := 0) (ds := (fun k => defaultValue (tyX1 k))) nq104 hy54_96
  have hy69_104 := pq_nR (r := 64) (n := 0) (ds := (fun k => defaultValue (tyX1 k))) nq104 hy69_96
  have h77_104 := pq_nR (r := 64) (n := 0) (ds := (fun k => defaultValue (tyX1 k))) nq104 h77_96
  refine pq_dup F dX10_init_107 rfl ?_
  refine pq_callI (As := []) F (k_X1_init l D cy _ _ ?_) ml_X10_59 (Nat.le_of_ble_eq_true rfl) ⟨Nat.le_of_ble_eq_true rfl, Nat.le_of_ble_eq_true rfl⟩ ⟨Nat.le_of_ble_eq_true rfl, Nat.le_of_ble_eq_true rfl⟩ dX10_init_108 (fun v108 S108 w108 => ?_)
  · exact h104
  obtain ⟨rfl, hG108, hy108⟩ := w108
  have ha_108 := (hG108 _ _ ha_104 (pq_nrole ha_104 h104 (by decide))).1
  have hy9_108 := (hG108 _ _ hy9_104 (pq_nrole hy9_104 h104 (by decide))).1
  have ec108_1_hy9_108 := hG108.e hy9_104 (pq_nrole hy9_104 h104 (by decide)) (pq_nO nq104 hy9_96 (pq_ko ec96_1_hy9_96 hy9_96 ha_96 (by decide)))
  have ec108_0_ha_108 := hG108.e ha_104 (pq_nrole ha_104 h104 (by decide)) (pq_nO nq104 ha_96 (pq_kp ec96_0_ha_96 (by decide)))
  have hy20_108 := (hG108 _ _ hy20_104 (pq_nrole hy20_104 h104 (by decide))).1
  have ec108_1_ha_108 := hG108.e ha_104 (pq_nrole ha_104 h104 (by decide)) (pq_nO nq104 ha_96 (pq_kp ec96_1_ha_96 (by decide)))
  have hy39_108 := (hG108 _ _ hy39_104 (pq_nrole hy39_104 h104 (by decide))).1
  have ec108_0_hy39_108 := hG108.e hy39_104 (pq_nrole hy39_104 h104 (by decide)) (pq_nO nq104 hy39_96 (pq_ko ec96_0_hy39_96 hy39_96 ha_96 (by decide)))
  have ec108_1_hy39_108 := hG108.e hy39_104 (pq_nrole hy39_104 h104 (by decide)) (pq_nO nq104 hy39_96 (pq_ko ec96_1_hy39_96 hy39_96 ha_96 (by decide)))
  have ec108_2_ha_108 := hG108.e ha_104 (pq_nrole ha_104 h104 (by decide)) (pq_nO nq104 ha_96 (pq_kp ec96_2_ha_96 (by decide)))
  have hy54_108 := (hG108 _ _ hy54_104 (pq_nrole hy54_104 h104 (by decide))).1
  have ec108_0_hy54_108 := hG108.e hy54_104 (pq_nrole hy54_104 h104 (by decide)) (pq_nO nq104 hy54_96 (pq_ko ec96_0_hy54_96 hy54_96 ha_96 (by decide)))
  have ec108_3_ha_108 := hG108.e ha_104 (pq_nrole ha_104 h104 (by decide)) (pq_nO nq104 ha_96 (pq_kp ec96_3_ha_96 (by decide)))
  have hy69_108 := (hG108 _ _ hy69_104 (pq_nrole hy69_104 h104 (by decide))).1
  have ec108_0_hy69_108 := hG108.e hy69_104 (pq_nrole hy69_104 h104 (by decide)) (pq_nO nq104 hy69_96 (pq_ko ec96_0_hy69_96 hy69_96 ha_96 (by decide)))
  have ec108_4_ha_108 := hG108.e ha_104 (pq_nrole ha_104 h104 (by decide)) (pq_nO nq104 ha_96 (pq_kp ec96_4_ha_96 (by decide)))
  have h77_108 := (hG108 _ _ h77_104 (pq_nrole h77_104 h104 (by decide))).1
  have ec108_5_ha_108 := hG108.e ha_104 (pq_nrole ha_104 h104 (by decide)) (pq_nO nq104 ha_96 pq_ks)
  have u1 := ((pq_Fr.rf (M := []) (S := (pq_uR S96 q77 (va_up (hR S96 q77) (1 : Int32).toNatClampNeg (some q92))))).uOr (k := 5) (v := .ref q77) (show pq_R _ a 73 from ha_96) (by decide)).gn nq104 hG108
  refine pq_putF F hnm ha_108 (by decide) lf_X10_60 rfl rfl (show pq_ok (pq_ft 73 6) _ _ from trivial) dX10_init_111 ?_
  refine pq_aload_n F dX10_init_114 rfl rfl ?_
  refine pq_newO F nw_X10_64 (by decide) (fun _ => rfl) (Nat.le_of_ble_eq_true rfl) (Nat.le_of_ble_eq_true rfl) dX10_init_115 (fun q115 nq115 h115 => ?_)
  have ha_115 := pq_nR (r := 70) (n := 0) (ds := (fun k => defaultValue (tyX7 k))) nq115 ha_108
  have hy9_115 := pq_nR (r := 70) (n := 0) (ds := (fun k => defaultValue (tyX7 k))) nq115 hy9_108
  have hy20_115 := pq_nR (r := 70) (n := 0) (ds := (fun k => defaultValue (tyX7 k))) nq115 hy20_108
  have hy39_115 := pq_nR (r := 70) (n := 0) (ds := (fun k => defaultValue (tyX7 k))) nq115 hy39_108
  have hy54_115 := pq_nR (r := 70) (n := 0) (ds := (fun k => defaultValue (tyX7 k))) nq115 hy54_108
  have hy69_115 := pq_nR (r := 70) (n := 0) (ds := (fun k => defaultValue (tyX7 k))) nq115 hy69_108
  have h77_115 := pq_nR (r := 70) (n := 0) (ds := (fun k => defaultValue (tyX7 k))) nq115 h77_108
  have hy108_115 := pq_nR (r := 70) (n := 0) (ds := (fun k => defaultValue (tyX7 k))) nq115 hy108
  refine pq_dup F dX10_init_118 rfl ?_
  refine pq_callI (As := []) F (k_X7_init l D cy _ _ ?_ (pq_nwO.trans rfl) (pq_nwO.trans rfl) (pq_nwO.trans rfl)) ml_X10_66 (Nat.le_of_ble_eq_true rfl) ⟨Nat.le_of_ble_eq_true rfl, Nat.le_of_ble_eq_true rfl⟩ ⟨Nat.le_of_ble_eq_true rfl, Nat.le_of_ble_eq_true rfl⟩ dX10_init_119 (fun v119 S119 w119 => ?_)
  · exact h115
  obtain ⟨rfl, hG119, hy119, p119⟩ := w119
  have ha_119 := (hG119 _ _ ha_115 (pq_nrole ha_115 h115 (by decide))).1
  have hy9_119 := (hG119 _ _ hy9_115 (pq_nrole hy9_115 h115 (by decide))).1
  have ec119_1_hy9_119 := hG119.e hy9_115 (pq_nrole hy9_115 h115 (by decide)) (pq_nO nq115 hy9_108 (pq_ko ec108_1_hy9_108 hy9_108 ha_108 (by decide)))
  have ec119_0_ha_119 := hG119.e ha_115 (pq_nrole ha_115 h115 (by decide)) (pq_nO nq115 ha_108 (pq_kp ec108_0_ha_108 (by decide)))
  have hy20_119 := (hG119 _ _ hy20_115 (pq_nrole hy20_115 h115 (by decide))).1
  have ec119_1_ha_119 := hG119.e ha_115 (pq_nrole ha_115 h115 (by decide)) (pq_nO nq115 ha_108 (pq_kp ec108_1_ha_108 (by decide)))
  have hy39_119 := (hG119 _ _ hy39_115 (pq_nrole hy39_115 h115 (by decide))).1
  have ec119_0_hy39_119 := hG119.e hy39_115 (pq_nrole hy39_115 h115 (by decide)) (pq_nO nq115 hy39_108 (pq_ko ec108_0_hy39_108 hy39_108 ha_108 (by decide)))
  have ec119_1_hy39_119 := hG119.e hy39_115 (pq_nrole hy39_115 h115 (by decide)) (pq_nO nq115 hy39_108 (pq_ko ec108_1_hy39_108 hy39_108 ha_108 (by decide)))
  have ec119_2_ha_119 := hG119.e ha_115 (pq_nrole ha_115 h115 (by decide)) (pq_nO nq115 ha_108 (pq_kp ec108_2_ha_108 (by decide)))
  have hy54_119 := (hG119 _ _ hy54_115 (pq_nrole hy54_115 h115 (by decide))).1
  have ec119_0_hy54_119 := hG119.e hy54_115 (pq_nrole hy54_115 h115 (by decide)) (pq_nO nq115 hy54_108 (pq_ko ec108_0_hy54_108 hy54_108 ha_108 (by decide)))
  have ec119_3_ha_119 := hG119.e ha_115 (pq_nrole ha_115 h115 (by decide)) (pq_nO nq115 ha_108 (pq_kp ec108_3_ha_108 (by decide)))
  have hy69_119 := (hG119 _ _ hy69_115 (pq_nrole hy69_115 h115 (by decide))).1
  have ec119_0_hy69_119 := hG119.e hy69_115 (pq_nrole hy69_115 h115 (by decide)) (pq_nO nq115 hy69_108 (pq_ko ec108_0_hy69_108 hy69_108 ha_108 (by decide)))
  have ec119_4_ha_119 := hG119.e ha_115 (pq_nrole ha_115 h115 (by decide)) (pq_nO nq115 ha_108 (pq_kp ec108_4_ha_108 (by decide)))
  have h77_119 := (hG119 _ _ h77_115 (pq_nrole h77_115 h115 (by decide))).1
  have ec119_5_ha_119 := hG119.e ha_115 (pq_nrole ha_115 h115 (by decide)) (pq_nO nq115 ha_108 (pq_kp ec108_5_ha_108 (by decide)))
  have hy108_119 := (hG119 _ _ hy108_115 (pq_nrole hy108_115 h115 (by decide))).1
  have ec119_6_ha_119 := hG119.e ha_115 (pq_nrole ha_115 h115 (by decide)) (pq_nO nq115 ha_108 pq_ks)
  have u2 := (u1.uOr (k := 6) (v := .ref q104) ha_108 (by decide)).gn nq115 hG119
  refine pq_putF F hnm ha_119 (by decide) lf_X10_67 rfl rfl (show pq_ok (pq_ft 73 7) _ _ from trivial) dX10_init_122 ?_
  refine pq_aload_n F dX10_init_125 rfl rfl ?_
  refine pq_iconst (v := -1) F dX10_init_126 (by decide) ?_
  refine pq_put F ha_119 (by decide) lp_X10_71 rfl rfl (show pq_ok (pq_ft 73 8) _ _ from trivial) dX10_init_127 ?_
  refine pq_prom (r := 13) ha_119 (by decide) (by decide) (by decide) rfl (fun k => match k with | 0 => (show pq_ok (pq_ft 13 0) _ _ from ⟨by decide, _, (pq_kp (pq_kp ec119_0_ha_119 (by decide)) (by decide)), hy9_119⟩) | 1 => (show pq_ok (pq_ft 13 1) _ _ from ⟨by decide, _, (pq_kp (pq_kp ec119_1_ha_119 (by decide)) (by decide)), hy20_119⟩) | 2 => (show pq_ok (pq_ft 13 2) _ _ from ⟨by decide, _, (pq_kp (pq_kp ec119_2_ha_119 (by decide)) (by decide)), hy39_119⟩) | 3 => (show pq_ok (pq_ft 13 3) _ _ from ⟨by decide, _, (pq_kp (pq_kp ec119_3_ha_119 (by decide)) (by decide)), hy54_119⟩) | 4 => (show pq_ok (pq_ft 13 4) _ _ from ⟨by decide, _, (pq_kp (pq_kp ec119_4_ha_119 (by decide)) (by decide)), hy69_119⟩) | 5 => (show pq_ok (pq_ft 13 5) _ _ from ⟨by decide, _, (pq_kp (pq_kp ec119_5_ha_119 (by decide)) (by decide)), h77_119⟩) | 6 => (show pq_ok (pq_ft 13 6) _ _ from ⟨by decide, _, (pq_kp (pq_kp ec119_6_ha_119 (by decide)) (by decide)), hy108_119⟩) | 7 => (show pq_ok (pq_ft 13 7) _ _ from ⟨by decide, _, (pq_kp pq_ks (by decide)), hy119⟩) | 8 => (show pq_ok (1, -2147483648, 2147483647) _ _ from ⟨_, pq_ks, (by focus (simp only [vp_in_iff, Int32.lt_iff_toInt_lt, Int32.le_iff_toInt_le, ← Int32.toInt_inj, Int32.toInt_add, Int32.toInt_sub, Int32.toInt_mul, Int32.toInt_neg, pq_NuO, pq_NuI, pq_NuJ, pq_NuR, pq_shr6, pq_shr7, pq_shr8, lqm1, lq0, lq1, lq2] at *; (try simp (disch := omega) only [pq_bm] at *); all_goals omega)), (by focus (simp only [vp_in_iff, Int32.lt_iff_toInt_lt, Int32.le_iff_toInt_le, ← Int32.toInt_inj, Int32.toInt_add, Int32.toInt_sub, Int32.toInt_mul, Int32.toInt_neg, pq_NuO, pq_NuI, pq_NuJ, pq_NuR, pq_shr6, pq_shr7, pq_shr8, lqm1, lq0, lq1, lq2] at *; (try simp (disch := omega) only [pq_bm] at *); all_goals omega))⟩) | _ + 9 => trivial) ?_
  have hpr := pq_rrR (r := 13) ha_119
  exact pq_vret F hr hlk hA (Nat.le_of_ble_eq_true rfl) (Nat.le_of_ble_eq_true rfl) ((by have u3 := ((u2.uOr (k := 7) (v := .ref q115) ha_119 (by decide)).uOr (k := 8) (v := .int (-1)) (show pq_R _ a 73 from ha_119) (by decide)).rrr (r := 13) (show pq_R _ a 73 from ha_119) (by decide); have z4 := (z2.uR (f := va_up (hR S96 q77) (1 : Int32).toNatClampNeg (some q92)) h77_96 (by decide)).cm u3 (by decide); have w4 := ((pq_Fr.rf (M := [(220, 0)]) (S := S96)).uR (f := va_up (hR S96 q77) (1 : Int32).toNatClampNeg (some q92)) h77_96 (by decide)).cm u3 (by decide); have y3 := (((pq_Fr.rf (M := []) (S := S119)).uOr (k := 7) (v := .ref q115) ha_119 (by decide)).uOr (k := 8) (v := .int (-1)) (show pq_R _ a 73 from ha_119) (by decide)).rrr (r := 13) (show pq_R _ a 73 from ha_119) (by decide); have hrr := (u3.2.2 q77 220 (show pq_R _ q77 220 from h77_96) (by decide) (by decide)).2.2; exact ⟨rfl, ((((((((((((pq_G.rf.gn nq5 hG9).uO.gn nq16 hG20).uO.gn nq27 hG39).uO.gn nq46 hG54).uO.gn nq61 hG69).uO.nw nq77).gn nq82 hG86).uRn (((((pq_G.rf.gn nq5 hG9).uO.gn nq16 hG20).uO.gn nq27 hG39).uO.gn nq46 hG54).uO.gn nq61 hG69).uO nq77).gn nq92 hG96).uRn (((((pq_G.rf.gn nq5 hG9).uO.gn nq16 hG20).uO.gn nq27 hG39).uO.gn nq46 hG54).uO.gn nq61 hG69).uO nq77).uO.gn nq104 hG108).uO.gn nq115 hG119).uO.uO.rr, hpr, q5, q16, q27, q46, q61, q77, q104, q115, q82, q92, ⟨⟨(pq_kp (pq_kp ec119_0_ha_119 (by decide)) (by decide)), (pq_kp (pq_kp ec119_1_ha_119 (by decide)) (by decide)), (pq_kp (pq_kp ec119_2_ha_119 (by decide)) (by decide)), (pq_kp (pq_kp ec119_3_ha_119 (by decide)) (by decide)), (pq_kp (pq_kp ec119_4_ha_119 (by decide)) (by decide)), (pq_kp (pq_kp ec119_5_ha_119 (by decide)) (by decide)), (pq_kp (pq_kp ec119_6_ha_119 (by decide)) (by decide)), (pq_kp pq_ks (by decide))⟩, ⟨hpr, (pq_rrO (a := a) (r := 13) hy9_119 (pq_nrole hy9_119 ha_119 (by decide))), (pq_rrO (a := a) (r := 13) hy20_119 (pq_nrole hy20_119 ha_119 (by decide))), (pq_rrO (a := a) (r := 13) hy39_119 (pq_nrole hy39_119 ha_119 (by decide))), (pq_rrO (a := a) (r := 13) hy54_119 (pq_nrole hy54_119 ha_119 (by decide))), (pq_rrO (a := a) (r := 13) hy69_119 (pq_nrole hy69_119 ha_119 (by decide))), (pq_rrO (a := a) (r := 13) h77_119 (pq_nrole h77_119 ha_119 (by decide))), (pq_rrO (a := a) (r := 13) hy108_119 (pq_nrole hy108_119 ha_119 (by decide))), (pq_rrO (a := a) (r := 13) hy119 (pq_nrole hy119 ha_119 (by decide)))⟩, ⟨(pq_ko (pq_ko ec119_0_hy39_119 hy39_119 ha_119 (by decide)) hy39_119 ha_119 (by decide)), (pq_ko (pq_ko ec119_1_hy39_119 hy39_119 ha_119 (by decide)) hy39_119 ha_119 (by decide)), (pq_ko (pq_ko ec119_0_hy54_119 hy54_119 ha_119 (by decide)) hy54_119 ha_119 (by decide)), (pq_ko (pq_ko ec119_0_hy69_119 hy69_119 ha_119 (by decide)) hy69_119 ha_119 (by decide))⟩, ⟨(congrFun hrr 0).trans (by show va_up S96.2.2.2.2.2.2 q77 _ q77 0 = _; rw [va_up_self, va_up_ne _ _ (by decide)]; exact hr96), (congrFun hrr 1).trans (by show va_up S96.2.2.2.2.2.2 q77 _ q77 1 = _; rw [va_up_self]; exact va_up_self _ _ _), z4.R hy86 (by decide), w4.R hy96 (by decide)⟩⟩, (pq_ko (pq_ko ec119_1_hy9_119 hy9_119 ha_119 (by decide)) hy9_119 ha_119 (by decide)), by decide, p86.fr hy86 (by decide) (by decide) (by decide) z4 (by decide), p96.fr hy96 (by decide) (by decide) (by decide) w4 (by decide), p119.fr hy119 y3 (by decide)⟩)) dX10_init_130

