set_option maxHeartbeats 4000000 in
set_option maxRecDepth 100000 in
theorem k_J7_copyOf120 (l : Launch) (D : va_G) (cy : Nat → ClassId) (S : HS) (a0 : Nat) (n : Int32) (h0 : pq_R S a0 120) (hn0 : 0 ≤ n.toInt) (hgt : (hN S a0 : Int) < n.toInt) (hb : n.toInt ≤ 32768) (hb2 : 256 ≤ n.toInt) : pq_C l D cy yJ7_copyOf_59c91 cJ7_copyOf_59c91 3 (some (.array .int)) 2 1 n.toNatClampNeg S [.ref a0, .int n] (fun v S2 => pq_Fr [] S S2 ∧ ∃ q : Nat, v = some (.ref q) ∧ pq_R S2 q 120 ∧ hN S2 q = n.toNatClampNeg ∧ ∀ i : Nat, i < hN S a0 → hI S2 q i = hI S a0 i) := by
  refine pq_start (by decide) (Nat.le_of_ble_eq_true rfl) ?_
  intro p e s m args below meth c A F hr hlk hnm hA
  have qm1 : (-1 : Int32).toInt = -1 := rfl
  have q0 : (0 : Int32).toInt = 0 := rfl
  have q1 : (1 : Int32).toInt = 1 := rfl
  refine pq_iload_n F dJ7_copyOf_59c91_0 rfl rfl ?_
  refine pq_aload_n F dJ7_copyOf_59c91_1 rfl rfl ?_
  refine pq_alen F h0 (by decide) rfl dJ7_copyOf_59c91_2 (fun l2 u2 => ?_)
  refine pq_icmp_ne (tgt := 14) F dJ7_copyOf_59c91_3 (by decide) (fun c3 => ?_) (fun c3 => ?_)
  · skip
    refine pq_iload_n F dJ7_copyOf_59c91_14 rfl rfl ?_
    have cn := pq_cl hn0
    refine pq_newI F (r := 120) (n := n.toNatClampNeg) (by decide) (by decide) ac_int rfl (by decide) hn0 rfl ⟨by omega, by omega⟩ (by omega) (by show 0 + 1 ≤ 1; omega) (by show 0 + n.toNatClampNeg ≤ n.toNatClampNeg; omega) dJ7_copyOf_59c91_15 (fun q15 nq15 h15 => ?_)
    have h0_15 := pq_nR (r := 120) (n := n.toNatClampNeg) (ds := fun _ => Value.null) nq15 h0
    refine pq_astore_n F dJ7_copyOf_59c91_17 rfl (by decide) ?_
    refine pq_aload_n F dJ7_copyOf_59c91_18 rfl rfl ?_
    refine pq_iconst (v := 0) F dJ7_copyOf_59c91_19 (by decide) ?_
    refine pq_aload_n F dJ7_copyOf_59c91_20 rfl rfl ?_
    refine pq_iconst (v := 0) F dJ7_copyOf_59c91_21 (by decide) ?_
    refine pq_aload_n F dJ7_copyOf_59c91_22 rfl rfl ?_
    refine pq_alen F h0_15 (by decide) rfl dJ7_copyOf_59c91_23 (fun l23 u23 => ?_)
    refine pq_iload_n F dJ7_copyOf_59c91_24 rfl rfl ?_
    have nm := pq_nM (r := 120) (n := n.toNatClampNeg) (ds := fun _ => Value.null) nq15 h0
    have nn := pq_nN (S := S) (q := q15) (r := 120) (n := n.toNatClampNeg) (ds := fun _ => Value.null)
    have hz := nI_toInt (n := hN S a0) (by omega)
    refine pq_mmin F mn_J7_304 ⟨Nat.le_of_ble_eq_true rfl, Nat.le_of_ble_eq_true rfl⟩ (Nat.le_of_ble_eq_true rfl) (by show 0 + n.toNatClampNeg ≤ n.toNatClampNeg; omega) dJ7_copyOf_59c91_25 ?_
    rw [if_neg (by rw [nm, Int32.lt_iff_toInt_lt, hz]; omega)]
    refine pq_copyI F cw_J7_150 h0_15 h15 (by decide) (by decide) (by decide) (by decide) (by decide) (by decide) (by decide) (by rw [nm, hz]; omega) (by rw [nm, nI_clamp (by omega)]; show 0 + _ ≤ _; omega) (by rw [nn, nm, nI_clamp (by omega)]; show 0 + _ ≤ _; omega) ⟨Nat.le_of_ble_eq_true rfl, Nat.le_of_ble_eq_true rfl⟩ dJ7_copyOf_59c91_28 ?_
    refine pq_aload_n F dJ7_copyOf_59c91_31 rfl rfl ?_
    exact pq_aret F hr (Or.inr ⟨_, rfl⟩) hlk hA (Nat.le_refl _) (by show 0 + n.toNatClampNeg ≤ _; omega) (⟨((pq_Fr.rf.nw nq15).uIn nq15), q15, rfl, h15, nn, by intro i hi; show hI (pq_uI _ q15 _) q15 i = _; rw [pq_Ia]; show va_cpy (hI (pq_nw S q15 120 n.toNatClampNeg (fun _ => Value.null)) a0) _ 0 0 _ i = _; rw [pk_cpy_in (Nat.zero_le _) (by rw [nm, nI_clamp (by omega)]; show i < 0 + _; omega), show hI (pq_nw S q15 120 n.toNatClampNeg (fun _ => Value.null)) a0 = hI S a0 from va_up_ne _ _ (show a0 ≠ q15 from fun e => nq15 (e ▸ h0.1))]; show hI S a0 (0 + (i - 0)) = _; rw [Nat.zero_add, Nat.sub_zero]⟩) dJ7_copyOf_59c91_32
  · exact absurd (congrArg Int32.toInt c3) (by rw [nI_toInt (by omega)]; omega)

set_option maxHeartbeats 4000000 in
set_option maxRecDepth 100000 in
theorem k_J7_copyOf121 (l : Launch) (D : va_G) (cy : Nat → ClassId) (S : HS) (a0 : Nat) (n : Int32) (h0 : pq_R S a0 121) (hn0 : 0 ≤ n.toInt) (hgt : (hN S a0 : Int) < n.toInt) (hb : n.toInt ≤ 32768) (hb2 : 256 ≤ n.toInt) : pq_C l D cy yJ7_copyOf_59c91 cJ7_copyOf_59c91 3 (some (.array .int)) 2 1 n.toNatClampNeg S [.ref a0, .int n] (fun v S2 => pq_Fr [] S S2 ∧ ∃ q : Nat, v = some (.ref q) ∧ pq_R S2 q 121 ∧ hN S2 q = n.toNatClampNeg ∧ ∀ i : Nat, i < hN S a0 → hI S2 q i = hI S a0 i) := by
  refine pq_start (by decide) (Nat.le_of_ble_eq_true rfl) ?_
  intro p e s m args below meth c A F hr hlk hnm hA
  have qm1 : (-1 : Int32).toInt = -1 := rfl
  have q0 : (0 : Int32).toInt = 0 := rfl
  have q1 : (1 : Int32).toInt = 1 := rfl
  refine pq_iload_n F dJ7_copyOf_59c91_0 rfl rfl ?_
  refine pq_aload_n F dJ7_copyOf_59c91_1 rfl rfl ?_
  refine pq_alen F h0 (by decide) rfl dJ7_copyOf_59c91_2 (fun l2 u2 => ?_)
  refine pq_icmp_ne (tgt := 14) F dJ7_copyOf_59c91_3 (by decide) (fun c3 => ?_) (fun c3 => ?_)
  · skip
    refine pq_iload_n F dJ7_copyOf_59c91_14 rfl rfl ?_
    have cn := pq_cl hn0
    refine pq_newI F (r := 121) (n := n.toNatClampNeg) (by decide) (by decide) ac_int rfl (by decide) hn0 rfl ⟨by omega, by omega⟩ (by omega) (by show 0 + 1 ≤ 1; omega) (by show 0 + n.toNatClampNeg ≤ n.toNatClampNeg; omega) dJ7_copyOf_59c91_15 (fun q15 nq15 h15 => ?_)
    have h0_15 := pq_nR (r := 121) (n := n.toNatClampNeg) (ds := fun _ => Value.null) nq15 h0
    refine pq_astore_n F dJ7_copyOf_59c91_17 rfl (by decide) ?_
    refine pq_aload_n F dJ7_copyOf_59c91_18 rfl rfl ?_
    refine pq_iconst (v := 0) F dJ7_copyOf_59c91_19 (by decide) ?_
    refine pq_aload_n F dJ7_copyOf_59c91_20 rfl rfl ?_
    refine pq_iconst (v := 0) F dJ7_copyOf_59c91_21 (by decide) ?_
    refine pq_aload_n F dJ7_copyOf_59c91_22 rfl rfl ?_
    refine pq_alen F h0_15 (by decide) rfl dJ7_copyOf_59c91_23 (fun l23 u23 => ?_)
    refine pq_iload_n F dJ7_copyOf_59c91_24 rfl rfl ?_
    have nm := pq_nM (r := 121) (n := n.toNatClampNeg) (ds := fun _ => Value.null) nq15 h0
    have nn := pq_nN (S := S) (q := q15) (r := 121) (n := n.toNatClampNeg) (ds := fun _ => Value.null)
    have hz := nI_toInt (n := hN S a0) (by omega)
    refine pq_mmin F mn_J7_304 ⟨Nat.le_of_ble_eq_true rfl, Nat.le_of_ble_eq_true rfl⟩ (Nat.le_of_ble_eq_true rfl) (by show 0 + n.toNatClampNeg ≤ n.toNatClampNeg; omega) dJ7_copyOf_59c91_25 ?_
    rw [if_neg (by rw [nm, Int32.lt_iff_toInt_lt, hz]; omega)]
    refine pq_copyI F cw_J7_150 h0_15 h15 (by decide) (by decide) (by decide) (by decide) (by decide) (by decide) (by decide) (by rw [nm, hz]; omega) (by rw [nm, nI_clamp (by omega)]; show 0 + _ ≤ _; omega) (by rw [nn, nm, nI_clamp (by omega)]; show 0 + _ ≤ _; omega) ⟨Nat.le_of_ble_eq_true rfl, Nat.le_of_ble_eq_true rfl⟩ dJ7_copyOf_59c91_28 ?_
    refine pq_aload_n F dJ7_copyOf_59c91_31 rfl rfl ?_
    exact pq_aret F hr (Or.inr ⟨_, rfl⟩) hlk hA (Nat.le_refl _) (by show 0 + n.toNatClampNeg ≤ _; omega) (⟨((pq_Fr.rf.nw nq15).uIn nq15), q15, rfl, h15, nn, by intro i hi; show hI (pq_uI _ q15 _) q15 i = _; rw [pq_Ia]; show va_cpy (hI (pq_nw S q15 121 n.toNatClampNeg (fun _ => Value.null)) a0) _ 0 0 _ i = _; rw [pk_cpy_in (Nat.zero_le _) (by rw [nm, nI_clamp (by omega)]; show i < 0 + _; omega), show hI (pq_nw S q15 121 n.toNatClampNeg (fun _ => Value.null)) a0 = hI S a0 from va_up_ne _ _ (show a0 ≠ q15 from fun e => nq15 (e ▸ h0.1))]; show hI S a0 (0 + (i - 0)) = _; rw [Nat.zero_add, Nat.sub_zero]⟩) dJ7_copyOf_59c91_32
  · exact absurd (congrArg Int32.toInt c3) (by rw [nI_toInt (by omega)]; omega)

