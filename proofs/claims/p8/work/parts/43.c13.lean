/-! ===== new cells; what the class's object holds ===== -/
theorem pq_nwO {S : HS} {q r n k : Nat} {ds : Nat → Value} : hO (pq_nw S q r n ds) q k = ds k := by
  show va_up S.2.2.1 q ds q k = _
  rw [va_up_self]
theorem pq_Inw {S : HS} {q r n b : Nat} {ds : Nat → Value} : hI (pq_nw S q r n ds) b = if b = q then (fun _ => 0) else hI S b := rfl
theorem pq_Nnw {S : HS} {q r n b : Nat} {ds : Nat → Value} : hN (pq_nw S q r n ds) b = if b = q then n else hN S b := rfl
theorem pq_Irr {S : HS} {a r : Nat} : hI (pq_rr S a r) = hI S := rfl
theorem pq_Nrr {S : HS} {a r : Nat} : hN (pq_rr S a r) = hN S := rfl
theorem pq_G.uIn {a q : Nat} {f : Nat → Int32} {S S1 : HS} (h : pq_G a S S1) (hq : q ∉ S.1) : pq_G a S (pq_uI S1 q f) := fun b rb hb hne => by
  obtain ⟨a1, a2, a3, a4, a5, a6⟩ := h b rb hb hne
  refine ⟨a1, a2, a3, ?_, a5, a6⟩
  show va_up S1.2.2.2.1 q f b = _
  rw [va_up_ne _ _ (show b ≠ q from fun e => hq (e ▸ hb.1))]; exact a4
theorem pq_G.uRn {a q : Nat} {f : Nat → Option Nat} {S S0 S1 : HS} (h : pq_G a S S1) (h0 : pq_G a S S0) (hq : q ∉ S0.1) : pq_G a S (pq_uR S1 q f) := fun b rb hb hne => by
  obtain ⟨a1, a2, a3, a4, a5, a6⟩ := h b rb hb hne
  refine ⟨a1, a2, a3, a4, a5, ?_⟩
  show va_up S1.2.2.2.2.2.2 q f b = _
  rw [va_up_ne _ _ (show b ≠ q from fun e => hq (e ▸ (h0 b rb hb hne).1.1))]; exact a6
theorem pq_Fr.uOr {M : List (Nat × Nat)} {S S1 : HS} {a r k : Nat} {v : Value} (h : pq_Fr M S S1) (ha : pq_R S1 a r) (h1 : 60 ≤ r ∧ r < 100) : pq_Fr M S (pq_uO S1 a k v) := by
  refine ⟨fun b rb hb hr => h.1 b rb hb hr, fun b rb hb hr j hj => ?_, h.2.2⟩
  have h6 := (h.1 b rb hb (Or.inl hr)).1
  have hne : b ≠ a := fun e => by
    subst e
    have := h6.2.symm.trans ha.2
    omega
  show va_up S1.2.2.1 a (va_up (S1.2.2.1 a) k v) b j = _
  rw [va_up_ne _ _ hne]; exact h.2.1 b rb hb hr j hj
theorem pq_Fr.rrr {M : List (Nat × Nat)} {S S1 : HS} {a r r0 : Nat} (h : pq_Fr M S S1) (ha : pq_R S1 a r0) (h1 : 60 ≤ r0 ∧ r0 < 100) : pq_Fr M S (pq_rr S1 a r) := by
  refine ⟨fun b rb hb hr => ?_, h.2.1, h.2.2⟩
  obtain ⟨h6, h7⟩ := h.1 b rb hb hr
  have hne : b ≠ a := fun e => by
    subst e
    have := h6.2.symm.trans ha.2
    omega
  exact ⟨pq_rrO h6 hne, h7⟩
def pq_If (S : HS) (x tp pl rd wk mg pt ct sr A B : Nat) : Prop := (hO S x 0 = .ref tp ∧ hO S x 1 = .ref pl ∧ hO S x 2 = .ref rd ∧ hO S x 3 = .ref wk ∧ hO S x 4 = .ref mg ∧ hO S x 5 = .ref pt ∧ hO S x 6 = .ref ct ∧ hO S x 7 = .ref sr) ∧ (pq_R S x 13 ∧ pq_R S tp 12 ∧ pq_R S pl 8 ∧ pq_R S rd 9 ∧ pq_R S wk 11 ∧ pq_R S mg 7 ∧ pq_R S pt 220 ∧ pq_R S ct 4 ∧ pq_R S sr 10) ∧ (hO S rd 0 = .ref tp ∧ hO S rd 1 = .ref pl ∧ hO S wk 0 = .ref pl ∧ hO S mg 0 = .ref wk) ∧ (hR S pt 0 = some A ∧ hR S pt 1 = some B ∧ pq_R S A 3 ∧ pq_R S B 33)
def pq_Iau (S : HS) (A rk rs : Nat) : Prop := ∃ (ko st : Nat) (n sn s0 : Int32) (P : Int32 → Prop), pq_Au S A rk rs ko st n sn s0 P
def pq_Is (S : HS) (sr np nq : Nat) : Prop := ∃ (pr og sn tx : Nat) (le : Int32), (hO S sr 2 = .ref pr ∧ pq_R S pr 164 ∧ hO S sr 3 = .ref og ∧ pq_R S og 165 ∧ hO S sr 4 = .ref sn ∧ pq_R S sn 196 ∧ hO S sr 6 = .ref tx ∧ pq_R S tx 103) ∧ hO S sr 7 = .int le ∧ (0 ≤ le.toInt ∧ le.toInt ≤ (hN S tx : Int)) ∧ hN S pr = np ∧ hN S og = np ∧ hN S sn = nq
def pq_Ix (S : HS) (x : Nat) (t : Int32) (np nq : Nat) : Prop := ∃ tp pl rd wk mg pt ct sr A B : Nat, pq_If S x tp pl rd wk mg pt ct sr A B ∧ hO S tp 1 = .int t ∧ (0 ≤ t.toInt ∧ t.toInt ≤ 2048) ∧ pq_Iau S A 150 152 ∧ pq_Iau S B 153 155 ∧ pq_Is S sr np nq
def pq_Ifl : List (Nat × Nat) := [(13, 0), (13, 1), (13, 2), (13, 3), (13, 4), (13, 5), (13, 6), (13, 7), (9, 0), (9, 1), (11, 0), (7, 0), (220, 0)]
theorem pq_If.fr {S S1 : HS} {x tp pl rd wk mg pt ct sr A B : Nat} (h : pq_If S x tp pl rd wk mg pt ct sr A B) {M : List (Nat × Nat)} (hF : pq_Fr M S S1) (hM : ∀ q ∈ M, q ∉ pq_Ifl) : pq_If S1 x tp pl rd wk mg pt ct sr A B := by
  have nm : ∀ q, q ∈ pq_Ifl → q ∉ M := fun q hq hm => hM q hm hq
  obtain ⟨⟨a0, a1, a2, a3, a4, a5, a6, a7⟩, ⟨b0, b1, b2, b3, b4, b5, b6, b7, b8⟩, ⟨c0, c1, c2, c3⟩, ⟨d0, d1, d2, d3⟩⟩ := h
  have hr := (hF.2.2 pt 220 b6 (by decide) (nm _ (by decide))).2.2
  exact ⟨⟨hF.O b0 (by decide) (nm _ (by decide)) a0, hF.O b0 (by decide) (nm _ (by decide)) a1, hF.O b0 (by decide) (nm _ (by decide)) a2, hF.O b0 (by decide) (nm _ (by decide)) a3, hF.O b0 (by decide) (nm _ (by decide)) a4, hF.O b0 (by decide) (nm _ (by decide)) a5, hF.O b0 (by decide) (nm _ (by decide)) a6, hF.O b0 (by decide) (nm _ (by decide)) a7⟩,
    ⟨hF.R b0 (by decide), hF.R b1 (by decide), hF.R b2 (by decide), hF.R b3 (by decide), hF.R b4 (by decide), hF.R b5 (by decide), hF.R b6 (by decide), hF.R b7 (by decide), hF.R b8 (by decide)⟩,
    ⟨hF.O b3 (by decide) (nm _ (by decide)) c0, hF.O b3 (by decide) (nm _ (by decide)) c1, hF.O b4 (by decide) (nm _ (by decide)) c2, hF.O b5 (by decide) (nm _ (by decide)) c3⟩,
    ⟨by rw [hr]; exact d0, by rw [hr]; exact d1, hF.R d2 (by decide), hF.R d3 (by decide)⟩⟩
theorem pq_Iau.fr {S S1 : HS} {A r rk rs : Nat} (h : pq_Iau S A rk rs) (ht : pq_R S A r) (hr : r < 60) (h1 : 100 ≤ rk) (h2 : 100 ≤ rs) {M : List (Nat × Nat)} (hF : pq_Fr M S S1) (hM : ∀ q ∈ M, q ∉ [(r, 0), (r, 3), (r, 4), (r, 5), (r, 6), (rk, 0), (rs, 0)]) : pq_Iau S1 A rk rs := by
  obtain ⟨ko, st, n, sn, s0, P, h⟩ := h
  exact ⟨ko, st, n, sn, s0, P, h.fr ht hr h1 h2 hF hM⟩
theorem pq_Is.fr {S S1 : HS} {sr np nq : Nat} (h : pq_Is S sr np nq) (ht : pq_R S sr 10) {M : List (Nat × Nat)} (hF : pq_Fr M S S1) (hM : ∀ q ∈ M, q ∉ [(10, 2), (10, 3), (10, 4), (10, 6), (10, 7)]) : pq_Is S1 sr np nq := by
  have nm : ∀ q, q ∈ [(10, 2), (10, 3), (10, 4), (10, 6), (10, 7)] → q ∉ M := fun q hq hm => hM q hm hq
  obtain ⟨pr, og, sn, tx, le, ⟨a1, a2, a3, a4, a5, a6, a7, a8⟩, b1, b2, b3, b4, b5⟩ := h
  exact ⟨pr, og, sn, tx, le, ⟨hF.O ht (by decide) (nm _ (by decide)) a1, hF.R a2 (by decide), hF.O ht (by decide) (nm _ (by decide)) a3, hF.R a4 (by decide), hF.O ht (by decide) (nm _ (by decide)) a5, hF.R a6 (by decide), hF.O ht (by decide) (nm _ (by decide)) a7, hF.R a8 (by decide)⟩, hF.O ht (by decide) (nm _ (by decide)) b1, ⟨b2.1, by rw [(hF.1 tx 103 a8 (by decide)).2]; exact b2.2⟩, (hF.1 pr 164 a2 (by decide)).2.trans b3, (hF.1 og 165 a4 (by decide)).2.trans b4, (hF.1 sn 196 a6 (by decide)).2.trans b5⟩

set_option maxHeartbeats 4000000 in
set_option maxRecDepth 100000 in
theorem k_X3_init (l : Launch) (D : va_G) (cy : Nat → ClassId) (S : HS) (a : Nat) (ha : pq_R S a 66) (d3 : hO S a 3 = .int 0) : pq_C l D cy yX3_init cX3_init 1 (none) 1 3 384 S [.ref a] (fun v S2 => v = none ∧ pq_G a S S2 ∧ pq_R S2 a 6) := by
  refine pq_start (by decide) (Nat.le_of_ble_eq_true rfl) ?_
  intro p e s m args below meth c A F hr hlk hnm hA
  have lqm1 : (-1 : Int32).toInt = -1 := rfl
  have lq0 : (0 : Int32).toInt = 0 := rfl
  have lq1 : (1 : Int32).toInt = 1 := rfl
  have lq128 : (128 : Int32).toInt = 128 := rfl
  refine pq_aload_n F dX3_init_0 rfl rfl ?_
  refine pq_objI F ow_X3_3 ⟨Nat.le_of_ble_eq_true rfl, Nat.le_of_ble_eq_true rfl⟩ dX3_init_1 ?_
  refine pq_aload_n F dX3_init_4 rfl rfl ?_
  refine pq_sipush (v := 128) F dX3_init_5 (by decide) ?_
  refine pq_newI F (r := 156) (n := 128) (by decide) (by decide) ac_int rfl (by decide) (by focus (simp only [vp_in_iff, Int32.lt_iff_toInt_lt, Int32.le_iff_toInt_le, ← Int32.toInt_inj, Int32.toInt_add, Int32.toInt_sub, Int32.toInt_mul, Int32.toInt_neg, pq_NuO, pq_NuI, pq_NuJ, pq_NuR, pq_shr6, pq_shr7, pq_shr8, lqm1, lq0, lq1, lq128] at *; (try simp (disch := omega) only [pq_bm] at *); all_goals omega)) rfl (by decide) (Nat.le_of_ble_eq_true rfl) (Nat.le_of_ble_eq_true rfl) (Nat.le_of_ble_eq_true rfl) dX3_init_8 (fun q8 nq8 h8 => ?_)
  have ha_8 := pq_nR (r := 156) (n := 128) (ds := (fun _ => Value.null)) nq8 ha
  refine pq_putF F hnm ha_8 (by decide) lf_X3_9 rfl rfl (show pq_ok (pq_ft 66 0) _ _ from trivial) dX3_init_10 ?_
  refine pq_aload_n F dX3_init_13 rfl rfl ?_
  refine pq_sipush (v := 128) F dX3_init_14 (by decide) ?_
  refine pq_newI F (r := 157) (n := 128) (by decide) (by decide) ac_int rfl (by decide) (by focus (simp only [vp_in_iff, Int32.lt_iff_toInt_lt, Int32.le_iff_toInt_le, ← Int32.toInt_inj, Int32.toInt_add, Int32.toInt_sub, Int32.toInt_mul, Int32.toInt_neg, pq_NuO, pq_NuI, pq_NuJ, pq_NuR, pq_shr6, pq_shr7, pq_shr8, lqm1, lq0, lq1, lq128] at *; (try simp (disch := omega) only [pq_bm] at *); all_goals omega)) rfl (by decide) (Nat.le_of_ble_eq_true rfl) (Nat.le_of_ble_eq_true rfl) (Nat.le_of_ble_eq_true rfl) dX3_init_17 (fun q17 nq17 h17 => ?_)
  have ha_17 := pq_nR (r := 157) (n := 128) (ds := (fun _ => Value.null)) nq17 ha_8
  have h8_17 := pq_nR (r := 157) (n := 128) (ds := (fun _ => Value.null)) nq17 h8
  refine pq_putF F hnm ha_17 (by decide) lf_X3_15 rfl rfl (show pq_ok (pq_ft 66 1) _ _ from trivial) dX3_init_19 ?_
  refine pq_aload_n F dX3_init_22 rfl rfl ?_
  refine pq_sipush (v := 128) F dX3_init_23 (by decide) ?_
  refine pq_newI F (r := 158) (n := 128) (by decide) (by decide) ac_int rfl (by decide) (by focus (simp only [vp_in_iff, Int32.lt_iff_toInt_lt, Int32.le_iff_toInt_le, ← Int32.toInt_inj, Int32.toInt_add, Int32.toInt_sub, Int32.toInt_mul, Int32.toInt_neg, pq_NuO, pq_NuI, pq_NuJ, pq_NuR, pq_shr6, pq_shr7, pq_shr8, lqm1, lq0, lq1, lq128] at *; (try simp (disch := omega) only [pq_bm] at *); all_goals omega)) rfl (by decide) (Nat.le_of_ble_eq_true rfl) (Nat.le_of_ble_eq_true rfl) (Nat.le_of_ble_eq_true rfl) dX3_init_26 (fun q26 nq26 h26 => ?_)
  have ha_26 := pq_nR (r := 158) (n := 128) (ds := (fun _ => Value.null)) nq26 ha_17
  have h8_26 := pq_nR (r := 158) (n := 128) (ds := (fun _ => Value.null)) nq26 h8_17
  have h17_26 := pq_nR (r := 158) (n := 128) (ds := (fun _ => Value.null)) nq26 h17
  refine pq_putF F hnm ha_26 (by decide) lf_X3_18 rfl rfl (show pq_ok (pq_ft 66 2) _ _ from trivial) dX3_init_28 ?_
  refine pq_prom (r := 6) ha_26 (by decide) (by decide) (by decide) rfl (fun k => match k with | 0 => (show pq_ok (pq_ft 6 0) _ _ from ⟨by decide, _, (pq_kp (pq_nO nq26 ha_17 (pq_kp (pq_nO nq17 ha_8 pq_ks) (by decide))) (by decide)), h8_26⟩) | 1 => (show pq_ok (pq_ft 6 1) _ _ from ⟨by decide, _, (pq_kp (pq_nO nq26 ha_17 pq_ks) (by decide)), h17_26⟩) | 2 => (show pq_ok (pq_ft 6 2) _ _ from ⟨by decide, _, pq_ks, h26⟩) | 3 => (show pq_ok (1, 0, 128) _ _ from ⟨_, (pq_kp (pq_nO nq26 ha_17 (pq_kp (pq_nO nq17 ha_8 (pq_kp (pq_nO nq8 ha d3) (by decide))) (by decide))) (by decide)), (by focus (simp only [vp_in_iff, Int32.lt_iff_toInt_lt, Int32.le_iff_toInt_le, ← Int32.toInt_inj, Int32.toInt_add, Int32.toInt_sub, Int32.toInt_mul, Int32.toInt_neg, pq_NuO, pq_NuI, pq_NuJ, pq_NuR, pq_shr6, pq_shr7, pq_shr8, lqm1, lq0, lq1, lq128] at *; (try simp (disch := omega) only [pq_bm] at *); all_goals omega)), (by focus (simp only [vp_in_iff, Int32.lt_iff_toInt_lt, Int32.le_iff_toInt_le, ← Int32.toInt_inj, Int32.toInt_add, Int32.toInt_sub, Int32.toInt_mul, Int32.toInt_neg, pq_NuO, pq_NuI, pq_NuJ, pq_NuR, pq_shr6, pq_shr7, pq_shr8, lqm1, lq0, lq1, lq128] at *; (try simp (disch := omega) only [pq_bm] at *); all_goals omega))⟩) | _ + 4 => trivial) ?_
  have hpr := pq_rrR (r := 6) ha_26
  exact pq_vret F hr hlk hA (Nat.le_of_ble_eq_true rfl) (Nat.le_of_ble_eq_true rfl) (⟨rfl, (((pq_G.rf.nw nq8).uO.nw nq17).uO.nw nq26).uO.rr, hpr⟩) dX3_init_31

set_option maxHeartbeats 4000000 in
set_option maxRecDepth 100000 in
theorem k_X4_init (l : Launch) (D : va_G) (cy : Nat → ClassId) (S : HS) (a : Nat) (ha : pq_R S a 67) (wk : Nat) (hwk : pq_R S wk 11) (d7 : hO S a 7 = .int 0) : pq_C l D cy yX4_init cX4_init 2 (none) 1 6 2014 S [.ref a, .ref wk] (fun v S2 => v = none ∧ pq_G a S S2 ∧ pq_R S2 a 7 ∧ (hO S2 a 0 = .ref wk)) := by
  refine pq_start (by decide) (Nat.le_of_ble_eq_true rfl) ?_
  intro p e s m args below meth c A F hr hlk hnm hA
  have lqm1 : (-1 : Int32).toInt = -1 := rfl
  have lq0 : (0 : Int32).toInt = 0 := rfl
  have lq1 : (1 : Int32).toInt = 1 := rfl
  have lq2 : (2 : Int32).toInt = 2 := rfl
  have lq202 : (202 : Int32).toInt = 202 := rfl
  have lq402 : (402 : Int32).toInt = 402 := rfl
  have lq804 : (804 : Int32).toInt = 804 := rfl
  refine pq_aload_n F dX4_init_0 rfl rfl ?_
  refine pq_objI F ow_X4_3 ⟨Nat.le_of_ble_eq_true rfl, Nat.le_of_ble_eq_true rfl⟩ dX4_init_1 ?_
  refine pq_aload_n F dX4_init_4 rfl rfl ?_
  refine pq_sipush (v := 402) F dX4_init_5 (by decide) ?_
  refine pq_newI F (r := 159) (n := 402) (by decide) (by decide) ac_int rfl (by decide) (by focus (simp only [vp_in_iff, Int32.lt_iff_toInt_lt, Int32.le_iff_toInt_le, ← Int32.toInt_inj, Int32.toInt_add, Int32.toInt_sub, Int32.toInt_mul, Int32.toInt_neg, pq_NuO, pq_NuI, pq_NuJ, pq_NuR, pq_shr6, pq_shr7, pq_shr8, lqm1, lq0, lq1, lq2, lq202, lq402, lq804] at *; (try simp (disch := omega) only [pq_bm] at *); all_goals omega)) rfl (by decide) (Nat.le_of_ble_eq_true rfl) (Nat.le_of_ble_eq_true rfl) (Nat.le_of_ble_eq_true rfl) dX4_init_8 (fun q8 nq8 h8 => ?_)
  have ha_8 := pq_nR (r := 159) (n := 402) (ds := (fun _ => Value.null)) nq8 ha
  have hwk_8 := pq_nR (r := 159) (n := 402) (ds := (fun _ => Value.null)) nq8 hwk
  refine pq_putF F hnm ha_8 (by decide) lf_X4_11 rfl rfl (show pq_ok (pq_ft 67 1) _ _ from trivial) dX4_init_10 ?_
  refine pq_aload_n F dX4_init_13 rfl rfl ?_
  refine pq_sipush (v := 402) F dX4_init_14 (by decide) ?_
  refine pq_newI F (r := 160) (n := 402) (by decide) (by decide) ac_int rfl (by decide) (by focus (simp only [vp_in_iff, Int32.lt_iff_toInt_lt, Int32.le_iff_toInt_le, ← Int32.toInt_inj, Int32.toInt_add, Int32.toInt_sub, Int32.toInt_mul, Int32.toInt_neg, pq_NuO, pq_NuI, pq_NuJ, pq_NuR, pq_shr6, pq_shr7, pq_shr8, lqm1, lq0, lq1, lq2, lq202, lq402, lq804] at *; (try simp (disch := omega) only [pq_bm] at *); all_goals omega)) rfl (by decide) (Nat.le_of_ble_eq_true rfl) (Nat.le_of_ble_eq_true rfl) (Nat.le_of_ble_eq_true rfl) dX4_init_17 (fun q17 nq17 h17 => ?_)
  have ha_17 := pq_nR (r := 160) (n := 402) (ds := (fun _ => Value.null)) nq17 ha_8
  have hwk_17 := pq_nR (r := 160) (n := 402) (ds := (fun _ => Value.null)) nq17 hwk_8
  have h8_17 := pq_nR (r := 160) (n := 402) (ds := (fun _ => Value.null)) nq17 h8
  refine pq_putF F hnm ha_17 (by decide) lf_X4_17 rfl rfl (show pq_ok (pq_ft 67 2) _ _ from trivial) dX4_init_19 ?_
  refine pq_aload_n F dX4_init_22 rfl rfl ?_
  refine pq_sipush (v := 202) F dX4_init_23 (by decide) ?_
  refine pq_newI F (r := 161) (n := 202) (by decide) (by decide) ac_int rfl (by decide) (by focus (simp only [vp_in_iff, Int32.lt_iff_toInt_lt, Int32.le_iff_toInt_le, ← Int32.toInt_inj, Int32.toInt_add, Int32.toInt_sub, Int32.toInt_mul, Int32.toInt_neg, pq_NuO, pq_NuI, pq_NuJ, pq_NuR, pq_shr6, pq_shr7, pq_shr8, lqm1, lq0, lq1, lq2, lq202, lq402, lq804] at *; (try simp (disch := omega) only [pq_bm] at *); all_goals omega)) rfl (by decide) (Nat.le_of_ble_eq_true rfl) (Nat.le_of_ble_eq_true rfl) (Nat.le_of_ble_eq_true rfl) dX4_init_26 (fun q26 nq26 h26 => ?_)
  have ha_26 := pq_nR (r := 161) (n := 202) (ds := (fun _ => Value.null)) nq26 ha_17
  have hwk_26 := pq_nR (r := 161) (n := 202) (ds := (fun _ => Value.null)) nq26 hwk_17
  have h8_26 := pq_nR (r := 161) (n := 202) (ds := (fun _ => Value.null)) nq26 h8_17
  have h17_26 := pq_nR (r := 161) (n := 202) (ds := (fun _ => Value.null)) nq26 h17
  refine pq_putF F hnm ha_26 (by decide) lf_X4_20 rfl rfl (show pq_ok (pq_ft 67 3) _ _ from trivial) dX4_init_28 ?_
  refine pq_aload_n F dX4_init_31 rfl rfl ?_
  refine pq_sipush (v := 202) F dX4_init_32 (by decide) ?_
  refine pq_newI F (r := 162) (n := 202) (by decide) (by decide) ac_int rfl (by decide) (by focus (simp only [vp_in_iff, Int32.lt_iff_toInt_lt, Int32.le_iff_toInt_le, ← Int32.toInt_inj, Int32.toInt_add, Int32.toInt_sub, Int32.toInt_mul, Int32.toInt_neg, pq_NuO, pq_NuI, pq_NuJ, pq_NuR, pq_shr6, pq_shr7, pq_shr8, lqm1, lq0, lq1, lq2, lq202, lq402, lq804] at *; (try simp (disch := omega) only [pq_bm] at *); all_goals omega)) rfl (by decide) (Nat.le_of_ble_eq_true rfl) (Nat.le_of_ble_eq_true rfl) (Nat.le_of_ble_eq_true rfl) dX4_init_35 (fun q35 nq35 h35 => ?_)
  have ha_35 := pq_nR (r := 162) (n := 202) (ds := (fun _ => Value.null)) nq35 ha_26
  have hwk_35 := pq_nR (r := 162) (n := 202) (ds := (fun _ => Value.null)) nq35 hwk_26
  have h8_35 := pq_nR (r := 162) (n := 202) (ds := (fun _ => Value.null)) nq35 h8_26
  have h17_35 := pq_nR (r := 162) (n := 202) (ds := (fun _ => Value.null)) nq35 h17_26
  have h26_35 := pq_nR (r := 162) (n := 202) (ds := (fun _ => Value.null)) nq35 h26
  refine pq_putF F hnm ha_35 (by decide) lf_X4_23 rfl rfl (show pq_ok (pq_ft 67 4) _ _ from trivial) dX4_init_37 ?_
  refine pq_aload_n F dX4_init_40 rfl rfl ?_
  refine pq_sipush (v := 804) F dX4_init_41 (by decide) ?_
  refine pq_newJ F (r := 192) (n := 804) (by decide) (by decide) ac_long rfl (by decide) (by focus (simp only [vp_in_iff, Int32.lt_iff_toInt_lt, Int32.le_iff_toInt_le, ← Int32.toInt_inj, Int32.toInt_add, Int32.toInt_sub, Int32.toInt_mul, Int32.toInt_neg, pq_NuO, pq_NuI, pq_NuJ, pq_NuR, pq_shr6, pq_shr7, pq_shr8, lqm1, lq0, lq1, lq2, lq202, lq402, lq804] at *; (try simp (disch := omega) only [pq_bm] at *); all_goals omega)) rfl (by decide) (Nat.le_of_ble_eq_true rfl) (Nat.le_of_ble_eq_true rfl) (Nat.le_of_ble_eq_true rfl) dX4_init_44 (fun q44 nq44 h44 => ?_)
  have ha_44 := pq_nR (r := 192) (n := 804) (ds := (fun _ => Value.null)) nq44 ha_35
  have hwk_44 := pq_nR (r := 192) (n := 804) (ds := (fun _ => Value.null)) nq44 hwk_35
  have h8_44 := pq_nR (r := 192) (n := 804) (ds := (fun _ => Value.null)) nq44 h8_35
  have h17_44 := pq_nR (r := 192) (n := 804) (ds := (fun _ => Value.null)) nq44 h17_35
  have h26_44 := pq_nR (r := 192) (n := 804) (ds := (fun _ => Value.null)) nq44 h26_35
  have h35_44 := pq_nR (r := 192) (n := 804) (ds := (fun _ => Value.null)) nq44 h35
  refine pq_putF F hnm ha_44 (by decide) lf_X4_26 rfl rfl (show pq_ok (pq_ft 67 5) _ _ from trivial) dX4_init_46 ?_
  refine pq_aload_n F dX4_init_49 rfl rfl ?_
  refine pq_iconst (v := 2) F dX4_init_50 (by decide) ?_
  refine pq_newJ F (r := 193) (n := 2) (by decide) (by decide) ac_long rfl (by decide) (by focus (simp only [vp_in_iff, Int32.lt_iff_toInt_lt, Int32.le_iff_toInt_le, ← Int32.toInt_inj, Int32.toInt_add, Int32.toInt_sub, Int32.toInt_mul, Int32.toInt_neg, pq_NuO, pq_NuI, pq_NuJ, pq_NuR, pq_shr6, pq_shr7, pq_shr8, lqm1, lq0, lq1, lq2, lq202, lq402, lq804] at *; (try simp (disch := omega) only [pq_bm] at *); all_goals omega)) rfl (by decide) (Nat.le_of_ble_eq_true rfl) (Nat.le_of_ble_eq_true rfl) (Nat.le_of_ble_eq_true rfl) dX4_init_51 (fun q51 nq51 h51 => ?_)
  have ha_51 := pq_nR (r := 193) (n := 2) (ds := (fun _ => Value.null)) nq51 ha_44
  have hwk_51 := pq_nR (r := 193) (n := 2) (ds := (fun _ => Value.null)) nq51 hwk_44
  have h8_51 := pq_nR (r := 193) (n := 2) (ds := (fun _ => Value.null)) nq51 h8_44
  have h17_51 := pq_nR (r := 193) (n := 2) (ds := (fun _ => Value.null)) nq51 h17_44
  have h26_51 := pq_nR (r := 193) (n := 2) (ds := (fun _ => Value.null)) nq51 h26_44
  have h35_51 := pq_nR (r := 193) (n := 2) (ds := (fun _ => Value.null)) nq51 h35_44
  have h44_51 := pq_nR (r := 193) (n := 2) (ds := (fun _ => Value.null)) nq51 h44
  refine pq_putF F hnm ha_51 (by decide) lf_X4_30 rfl rfl (show pq_ok (pq_ft 67 6) _ _ from trivial) dX4_init_53 ?_
  refine pq_aload_n F dX4_init_56 rfl rfl ?_
  refine pq_aload_n F dX4_init_57 rfl rfl ?_
  refine pq_putF F hnm ha_51 (by decide) lf_X4_33 rfl rfl (show pq_ok (pq_ft 67 0) _ _ from trivial) dX4_init_58 ?_
  refine pq_prom (r := 7) ha_51 (by decide) (by decide) (by decide) rfl (fun k => match k with | 0 => (show pq_ok (pq_ft 7 0) _ _ from ⟨by decide, _, pq_ks, hwk_51⟩) | 1 => (show pq_ok (pq_ft 7 1) _ _ from ⟨by decide, _, (pq_kp (pq_kp (pq_nO nq51 ha_44 (pq_kp (pq_nO nq44 ha_35 (pq_kp (pq_nO nq35 ha_26 (pq_kp (pq_nO nq26 ha_17 (pq_kp (pq_nO nq17 ha_8 pq_ks) (by decide))) (by decide))) (by decide))) (by decide))) (by decide)) (by decide)), h8_51⟩) | 2 => (show pq_ok (pq_ft 7 2) _ _ from ⟨by decide, _, (pq_kp (pq_kp (pq_nO nq51 ha_44 (pq_kp (pq_nO nq44 ha_35 (pq_kp (pq_nO nq35 ha_26 (pq_kp (pq_nO nq26 ha_17 pq_ks) (by decide))) (by decide))) (by decide))) (by decide)) (by decide)), h17_51⟩) | 3 => (show pq_ok (pq_ft 7 3) _ _ from ⟨by decide, _, (pq_kp (pq_kp (pq_nO nq51 ha_44 (pq_kp (pq_nO nq44 ha_35 (pq_kp (pq_nO nq35 ha_26 pq_ks) (by decide))) (by decide))) (by decide)) (by decide)), h26_51⟩) | 4 => (show pq_ok (pq_ft 7 4) _ _ from ⟨by decide, _, (pq_kp (pq_kp (pq_nO nq51 ha_44 (pq_kp (pq_nO nq44 ha_35 pq_ks) (by decide))) (by decide)) (by decide)), h35_51⟩) | 5 => (show pq_ok (pq_ft 7 5) _ _ from ⟨by decide, _, (pq_kp (pq_kp (pq_nO nq51 ha_44 pq_ks) (by decide)) (by decide)), h44_51⟩) | 6 => (show pq_ok (pq_ft 7 6) _ _ from ⟨by decide, _, (pq_kp pq_ks (by decide)), h51⟩) | 7 => (show pq_ok (1, 0, 202) _ _ from ⟨_, (pq_kp (pq_kp (pq_nO nq51 ha_44 (pq_kp (pq_nO nq44 ha_35 (pq_kp (pq_nO nq35 ha_26 (pq_kp (pq_nO nq26 ha_17 (pq_kp (pq_nO nq17 ha_8 (pq_kp (pq_nO nq8 ha d7) (by decide))) (by decide))) (by decide))) (by decide))) (by decide))) (by decide)) (by decide)), (by focus (simp only [vp_in_iff, Int32.lt_iff_toInt_lt, Int32.le_iff_toInt_le, ← Int32.toInt_inj, Int32.toInt_add, Int32.toInt_sub, Int32.toInt_mul, Int32.toInt_neg, pq_NuO, pq_NuI, pq_NuJ, pq_NuR, pq_shr6, pq_shr7, pq_shr8, lqm1, lq0, lq1, lq2, lq202, lq402, lq804] at *; (try simp (disch := omega) only [pq_bm] at *); all_goals omega)), (by focus (simp only [vp_in_iff, Int32.lt_iff_toInt_lt, Int32.le_iff_toInt_le, ← Int32.toInt_inj, Int32.toInt_add, Int32.toInt_sub, Int32.toInt_mul, Int32.toInt_neg, pq_NuO, pq_NuI, pq_NuJ, pq_NuR, pq_shr6, pq_shr7, pq_shr8, lqm1, lq0, lq1, lq2, lq202, lq402, lq804] at *; (try simp (disch := omega) only [pq_bm] at *); all_goals omega))⟩) | _ + 8 => trivial) ?_
  have hpr := pq_rrR (r := 7) ha_51
  have hwk_51P := pq_rrO (a := a) (r := 7) hwk_51 (pq_nrole hwk_51 ha_51 (by decide))
  exact pq_vret F hr hlk hA (Nat.le_of_ble_eq_true rfl) (Nat.le_of_ble_eq_true rfl) (⟨rfl, ((((((pq_G.rf.nw nq8).uO.nw nq17).uO.nw nq26).uO.nw nq35).uO.nw nq44).uO.nw nq51).uO.uO.rr, hpr, pq_ks⟩) dX4_init_61

set_option maxHeartbeats 4000000 in
set_option maxRecDepth 100000 in
theorem k_X1_init (l : Launch) (D : va_G) (cy : Nat → ClassId) (S : HS) (a : Nat) (ha : pq_R S a 64) : pq_C l D cy yX1_init cX1_init 1 (none) 1 2 402 S [.ref a] (fun v S2 => v = none ∧ pq_G a S S2 ∧ pq_R S2 a 4) := by
  refine pq_start (by decide) (Nat.le_of_ble_eq_true rfl) ?_
  intro p e s m args below meth c A F hr hlk hnm hA
  have lqm1 : (-1 : Int32).toInt = -1 := rfl
  have lq0 : (0 : Int32).toInt = 0 := rfl
  have lq1 : (1 : Int32).toInt = 1 := rfl
  have lq201 : (201 : Int32).toInt = 201 := rfl
  refine pq_aload_n F dX1_init_0 rfl rfl ?_
  refine pq_objI F ow_X1_1 ⟨Nat.le_of_ble_eq_true rfl, Nat.le_of_ble_eq_true rfl⟩ dX1_init_1 ?_
  refine pq_aload_n F dX1_init_4 rfl rfl ?_
  refine pq_sipush (v := 201) F dX1_init_5 (by decide) ?_
  refine pq_newJ F (r := 189) (n := 201) (by decide) (by decide) ac_long rfl (by decide) (by focus (simp only [vp_in_iff, Int32.lt_iff_toInt_lt, Int32.le_iff_toInt_le, ← Int32.toInt_inj, Int32.toInt_add, Int32.toInt_sub, Int32.toInt_mul, Int32.toInt_neg, pq_NuO, pq_NuI, pq_NuJ, pq_NuR, pq_shr6, pq_shr7, pq_shr8, lqm1, lq0, lq1, lq201] at *; (try simp (disch := omega) only [pq_bm] at *); all_goals omega)) rfl (by decide) (Nat.le_of_ble_eq_true rfl) (Nat.le_of_ble_eq_true rfl) (Nat.le_of_ble_eq_true rfl) dX1_init_8 (fun q8 nq8 h8 => ?_)
  have ha_8 := pq_nR (r := 189) (n := 201) (ds := (fun _ => Value.null)) nq8 ha
  refine pq_put F ha_8 (by decide) lp_X1_9 rfl rfl (show pq_ok (pq_ft 64 0) _ _ from trivial) dX1_init_10 ?_
  refine pq_aload_n F dX1_init_13 rfl rfl ?_
  refine pq_sipush (v := 201) F dX1_init_14 (by decide) ?_
  refine pq_newJ F (r := 189) (n := 201) (by decide) (by decide) ac_long rfl (by decide) (by focus (simp only [vp_in_iff, Int32.lt_iff_toInt_lt, Int32.le_iff_toInt_le, ← Int32.toInt_inj, Int32.toInt_add, Int32.toInt_sub, Int32.toInt_mul, Int32.toInt_neg, pq_NuO, pq_NuI, pq_NuJ, pq_NuR, pq_shr6, pq_shr7, pq_shr8, lqm1, lq0, lq1, lq201] at *; (try simp (disch := omega) only [pq_bm] at *); all_goals omega)) rfl (by decide) (Nat.le_of_ble_eq_true rfl) (Nat.le_of_ble_eq_true rfl) (Nat.le_of_ble_eq_true rfl) dX1_init_17 (fun q17 nq17 h17 => ?_)
  have ha_17 := pq_nR (r := 189) (n := 201) (ds := (fun _ => Value.null)) nq17 ha_8
  have h8_17 := pq_nR (r := 189) (n := 201) (ds := (fun _ => Value.null)) nq17 h8
  refine pq_put F ha_17 (by decide) lp_X1_15 rfl rfl (show pq_ok (pq_ft 64 1) _ _ from trivial) dX1_init_19 ?_
  refine pq_prom (r := 4) ha_17 (by decide) (by decide) (by decide) rfl (fun k => match k with | 0 => (show pq_ok (pq_ft 4 0) _ _ from ⟨by decide, _, (pq_kp (pq_nO nq17 ha_8 pq_ks) (by decide)), h8_17⟩) | 1 => (show pq_ok (pq_ft 4 1) _ _ from ⟨by decide, _, pq_ks, h17⟩) | _ + 2 => trivial) ?_
  have hpr := pq_rrR (r := 4) ha_17
  exact pq_vret F hr hlk hA (Nat.le_of_ble_eq_true rfl) (Nat.le_of_ble_eq_true rfl) (⟨rfl, ((pq_G.rf.nw nq8).uO.nw nq17).uO.rr, hpr⟩) dX1_init_22

