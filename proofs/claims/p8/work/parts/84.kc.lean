/-- the places: how many, what each takes, what may follow each -/
def tk_Pl (S : HS) (pl tk fo np : Nat) (mk : Nat → tr_M) (F : Nat → Nat → Prop) : Prop := (pq_R S pl 8 ∧ hO S pl 0 = .ref tk ∧ pq_R S tk 194 ∧ hO S pl 1 = .ref fo ∧ pq_R S fo 195) ∧ (∃ tt : Int32, hO S pl 3 = .int tt ∧ tt.toInt = (np : Int)) ∧ np ≤ 400 ∧ (∀ b q, b < 128 → (tk_bit (hJ S tk) (7 * b) q ↔ q < np ∧ tr_in (mk q) b)) ∧ (∀ p q, p < np → (F p q ↔ tk_bit (hJ S fo) (7 * p) q)) ∧ ∀ p q, F p q → p < np
section PL
variable {S S1 : HS} {pl tk fo np : Nat} {mk : Nat → tr_M} {F : Nat → Nat → Prop}
theorem tk_Pl.r (h : tk_Pl S pl tk fo np mk F) : pq_R S pl 8 := h.1.1
theorem tk_Pl.a0 (h : tk_Pl S pl tk fo np mk F) : hO S pl 0 = .ref tk := h.1.2.1
theorem tk_Pl.r0 (h : tk_Pl S pl tk fo np mk F) : pq_R S tk 194 := h.1.2.2.1
theorem tk_Pl.a1 (h : tk_Pl S pl tk fo np mk F) : hO S pl 1 = .ref fo := h.1.2.2.2.1
theorem tk_Pl.r1 (h : tk_Pl S pl tk fo np mk F) : pq_R S fo 195 := h.1.2.2.2.2
theorem tk_Pl.fr {M : List (Nat × Nat)} (h : tk_Pl S pl tk fo np mk F) (hF : pq_Fr M S S1) (m0 : (8, 0) ∉ M) (m1 : (8, 1) ∉ M) (m3 : (8, 3) ∉ M) (m4 : (194, 0) ∉ M) (m5 : (195, 0) ∉ M) : tk_Pl S1 pl tk fo np mk F := by
  refine ⟨⟨hF.R h.r (by decide), hF.O h.r (by decide) m0 h.a0, hF.R h.r0 (by decide), hF.O h.r (by decide) m1 h.a1, hF.R h.r1 (by decide)⟩, ?_, h.2.2.1, fun b q hb => ?_, fun p q hp => ?_, h.2.2.2.2.2⟩
  · obtain ⟨tt, a, b⟩ := h.2.1
    exact ⟨tt, hF.O h.r (by decide) m3 a, b⟩
  · rw [(hF.2.2 tk 194 h.r0 (by decide) m4).2.1]; exact h.2.2.2.1 b q hb
  · rw [(hF.2.2 fo 195 h.r1 (by decide) m5).2.1]; exact h.2.2.2.2.1 p q hp
end PL
theorem tk_min {lo hi w : Int64} {b : Int32} {bn : Nat} (h : b.toInt = (bn : Int)) (hb : bn < 128) (hw : w = if bn < 64 then lo else hi) : lg_cmp ((w.toUInt64 >>> ((b &&& 63).toInt64.toUInt64 &&& Int64.toUInt64 63)).toInt64 &&& 1) 0 = 0 ↔ ¬ tr_in (lo, hi) bn := by
  rw [tk_cmp, tr_and1.2, tr_ushrN (by omega) (tk_b63 h), hw]
  unfold tr_in
  by_cases e : bn < 64
  · rw [if_pos e, if_pos e, Nat.mod_eq_of_lt e]
  · rw [if_neg e, if_neg e, show bn % 64 = bn - 64 by omega]

set_option maxHeartbeats 4000000 in
set_option maxRecDepth 100000 in
theorem k_X5_clearG (l : Launch) (D : va_G) (cy : Nat → ClassId) (S : HS) (a : Nat) (ha : pq_R S a 8) (tk fo : Nat) (e0 : hO S a 0 = .ref tk) (htk : pq_R S tk 194) (e1 : hO S a 1 = .ref fo) (hfo : pq_R S fo 195) : pq_C l D cy yX5_clear cX5_clear 1 (none) 2 0 0 S [.ref a] (fun v S2 => v = none ∧ pq_Fr [(194, 0), (8, 3)] S S2 ∧ (∀ mk, tk_Pl S2 a tk fo 0 mk (fun _ _ => False))) := by
  refine pq_start (by decide) (Nat.le_of_ble_eq_true rfl) ?_
  intro p e s m args below meth c A F hr hlk hnm hA
  have lqm1 : (-1 : Int32).toInt = -1 := rfl
  have lq0 : (0 : Int32).toInt = 0 := rfl
  have lq1 : (1 : Int32).toInt = 1 := rfl
  refine pq_lenF htk (by decide) rfl (fun lk1 lk2 => ?_)
  refine pq_aload_n F dX5_clear_0 rfl rfl ?_
  refine pq_get F ha (by decide) lk_X5_9 e0 dX5_clear_1 ?_
  refine pq_lconst (v := 0) F dX5_clear_4 (by decide) ?_
  refine pq_lenF htk (by decide) rfl (fun lna5_0 lnb5_0 => ?_)
  refine pq_callS (As := [_, _]) F (k_J7_fill_d0a16 l D cy _ _ 194 ?_ ?_ ?_ _ ?_) ml_X5_25 (Nat.le_of_ble_eq_true rfl) ⟨Nat.le_of_ble_eq_true rfl, Nat.le_of_ble_eq_true rfl⟩ ⟨by decide, by decide⟩ dX5_clear_5 (fun v5 S5 w5 => ?_)
  · exact htk
  · first | decide | omega
  · first | decide | omega
  · focus ((try clear g5); simp only [vp_in_iff, Int32.lt_iff_toInt_lt, Int32.le_iff_toInt_le, ← Int32.toInt_inj, Int32.toInt_add, Int32.toInt_sub, Int32.toInt_mul, Int32.toInt_neg, pq_NuO, pq_NuI, pq_NuJ, pq_NuR, pq_shr6, pq_shr7, pq_shr8, lqm1, lq0, lq1] at *; (try simp (disch := omega) only [pq_bm] at *); all_goals omega)
  obtain ⟨rfl, f5, rfl, g5⟩ := w5
  refine pq_aload_n F dX5_clear_8 rfl rfl ?_
  refine pq_iconst (v := 0) F dX5_clear_9 (by decide) ?_
  refine pq_putI F ha (by decide) lp_X5_31 rfl (by focus ((try clear g5); simp only [vp_in_iff, Int32.lt_iff_toInt_lt, Int32.le_iff_toInt_le, ← Int32.toInt_inj, Int32.toInt_add, Int32.toInt_sub, Int32.toInt_mul, Int32.toInt_neg, pq_NuO, pq_NuI, pq_NuJ, pq_NuR, pq_shr6, pq_shr7, pq_shr8, lqm1, lq0, lq1] at *; (try simp (disch := omega) only [pq_bm] at *); all_goals omega)) (by focus ((try clear g5); simp only [vp_in_iff, Int32.lt_iff_toInt_lt, Int32.le_iff_toInt_le, ← Int32.toInt_inj, Int32.toInt_add, Int32.toInt_sub, Int32.toInt_mul, Int32.toInt_neg, pq_NuO, pq_NuI, pq_NuJ, pq_NuR, pq_shr6, pq_shr7, pq_shr8, lqm1, lq0, lq1] at *; (try simp (disch := omega) only [pq_bm] at *); all_goals omega)) dX5_clear_10 ?_
  exact pq_vret F hr hlk hA (Nat.le_refl _) (Nat.le_refl _) (⟨rfl, ((pq_Fr.rf.uJ htk (by first | decide | exact List.mem_cons_self)).uO ha (by decide)), fun mk => ⟨⟨ha, pq_kp e0 (by decide), htk, pq_kp e1 (by decide), hfo⟩, ⟨0, pq_ks, rfl⟩, (by decide), (fun b q hb => ⟨fun w => absurd w (tk_bit.z (fun w9 hv9 => (by simp only [pq_IuO, pq_IuJ, pq_Iu, pq_JuO, pq_JuI, pq_Ju, pq_RuO, pq_RuJ, pq_RuI, if_true, if_false]; exact g5 _ (by omega)))), fun w => absurd w.1 (Nat.not_lt_zero _)⟩), (fun p q hp => absurd hp (Nat.not_lt_zero _)), (fun _ _ w => w.elim)⟩⟩) dX5_clear_13

set_option maxHeartbeats 4000000 in
set_option maxRecDepth 100000 in
theorem k_X5_isFullG (l : Launch) (D : va_G) (cy : Nat → ClassId) (S : HS) (a : Nat) (ha : pq_R S a 8) (tk fo np : Nat) (mk : Nat → tr_M) (F0 : Nat → Nat → Prop) (hP : tk_Pl S a tk fo np mk F0) : pq_C l D cy yX5_isFull cX5_isFull 1 (some .boolean) 1 0 0 S [.ref a] (fun v S2 => S2 = S ∧ ∃ x : Int32, v = some (.int x) ∧ 0 ≤ x.toInt ∧ x.toInt ≤ 1 ∧ (x = 1 ↔ np = 400)) := by
  refine pq_start (by decide) (Nat.le_of_ble_eq_true rfl) ?_
  intro p e s m args below meth c A F hr hlk hnm hA
  have lqm1 : (-1 : Int32).toInt = -1 := rfl
  have lq0 : (0 : Int32).toInt = 0 := rfl
  have lq1 : (1 : Int32).toInt = 1 := rfl
  have lq400 : (400 : Int32).toInt = 400 := rfl
  obtain ⟨tt, ht, htn⟩ := hP.2.1
  have hnp := hP.2.2.1
  refine pq_aload_n F dX5_isFull_0 rfl rfl ?_
  refine pq_get F ha (by decide) lk_X5_31 ht dX5_isFull_1 ?_
  refine pq_sipush (v := 400) F dX5_isFull_4 (by decide) ?_
  refine pq_icmp_lt (tgt := 14) F dX5_isFull_7 (by decide) (fun c7 => ?_) (fun c7 => ?_)
  · skip
    refine pq_iconst (v := 0) F dX5_isFull_14 (by decide) ?_
    exact pq_zret F hr hlk hA rfl (Nat.le_refl _) (Nat.le_refl _) (⟨rfl, 0, rfl, (by focus ((try clear hP); simp only [vp_in_iff, Int32.lt_iff_toInt_lt, Int32.le_iff_toInt_le, ← Int32.toInt_inj, Int32.toInt_add, Int32.toInt_sub, Int32.toInt_mul, Int32.toInt_neg, pq_NuO, pq_NuI, pq_NuJ, pq_NuR, pq_shr6, pq_shr7, pq_shr8, lqm1, lq0, lq1, lq400] at *; (try simp (disch := omega) only [pq_bm] at *); all_goals omega)), (by focus ((try clear hP); simp only [vp_in_iff, Int32.lt_iff_toInt_lt, Int32.le_iff_toInt_le, ← Int32.toInt_inj, Int32.toInt_add, Int32.toInt_sub, Int32.toInt_mul, Int32.toInt_neg, pq_NuO, pq_NuI, pq_NuJ, pq_NuR, pq_shr6, pq_shr7, pq_shr8, lqm1, lq0, lq1, lq400] at *; (try simp (disch := omega) only [pq_bm] at *); all_goals omega)), ⟨fun w => absurd w (by decide), fun w => absurd w (by focus ((try clear hP); simp only [vp_in_iff, Int32.lt_iff_toInt_lt, Int32.le_iff_toInt_le, ← Int32.toInt_inj, Int32.toInt_add, Int32.toInt_sub, Int32.toInt_mul, Int32.toInt_neg, pq_NuO, pq_NuI, pq_NuJ, pq_NuR, pq_shr6, pq_shr7, pq_shr8, lqm1, lq0, lq1, lq400] at *; (try simp (disch := omega) only [pq_bm] at *); all_goals omega))⟩⟩) dX5_isFull_15
  · skip
    refine pq_iconst (v := 1) F dX5_isFull_10 (by decide) ?_
    refine pq_goto (tgt := 15) F dX5_isFull_11 (by decide) ?_
    exact pq_zret F hr hlk hA rfl (Nat.le_refl _) (Nat.le_refl _) (⟨rfl, 1, rfl, (by focus ((try clear hP); simp only [vp_in_iff, Int32.lt_iff_toInt_lt, Int32.le_iff_toInt_le, ← Int32.toInt_inj, Int32.toInt_add, Int32.toInt_sub, Int32.toInt_mul, Int32.toInt_neg, pq_NuO, pq_NuI, pq_NuJ, pq_NuR, pq_shr6, pq_shr7, pq_shr8, lqm1, lq0, lq1, lq400] at *; (try simp (disch := omega) only [pq_bm] at *); all_goals omega)), (by focus ((try clear hP); simp only [vp_in_iff, Int32.lt_iff_toInt_lt, Int32.le_iff_toInt_le, ← Int32.toInt_inj, Int32.toInt_add, Int32.toInt_sub, Int32.toInt_mul, Int32.toInt_neg, pq_NuO, pq_NuI, pq_NuJ, pq_NuR, pq_shr6, pq_shr7, pq_shr8, lqm1, lq0, lq1, lq400] at *; (try simp (disch := omega) only [pq_bm] at *); all_goals omega)), ⟨fun _ => (by focus ((try clear hP); simp only [vp_in_iff, Int32.lt_iff_toInt_lt, Int32.le_iff_toInt_le, ← Int32.toInt_inj, Int32.toInt_add, Int32.toInt_sub, Int32.toInt_mul, Int32.toInt_neg, pq_NuO, pq_NuI, pq_NuJ, pq_NuR, pq_shr6, pq_shr7, pq_shr8, lqm1, lq0, lq1, lq400] at *; (try simp (disch := omega) only [pq_bm] at *); all_goals omega)), fun _ => rfl⟩⟩) dX5_isFull_15

set_option maxHeartbeats 4000000 in
set_option maxRecDepth 100000 in
theorem k_X5_addG (l : Launch) (D : va_G) (cy : Nat → ClassId) (S : HS) (a : Nat) (ha : pq_R S a 8) (lw : Int64) (hg : Int64) (tk fo np : Nat) (mk : Nat → tr_M) (F0 : Nat → Nat → Prop) (hP : tk_Pl S a tk fo np mk F0) (hnp4 : np < 400) : pq_C l D cy yX5_add cX5_add 7 (some .int) 3 0 0 S [.ref a, .long lw, .long hg] (fun v S2 => pq_Fr [(194, 0), (195, 0), (8, 3)] S S2 ∧ ∃ x : Int32, v = some (.int x) ∧ 0 ≤ x.toInt ∧ x.toInt ≤ 399 ∧ (x.toInt = (np : Int) ∧ tk_Pl S2 a tk fo (np + 1) (tr_up mk np (lw, hg)) F0)) := by
  refine pq_start (by decide) (Nat.le_of_ble_eq_true rfl) ?_
  intro p e s m args below meth c A F hr hlk hnm hA
  have lqm1 : (-1 : Int32).toInt = -1 := rfl
  have lq0 : (0 : Int32).toInt = 0 := rfl
  have lq1 : (1 : Int32).toInt = 1 := rfl
  have lq7 : (7 : Int32).toInt = 7 := rfl
  have lq63 : (63 : Int32).toInt = 63 := rfl
  have lq64 : (64 : Int32).toInt = 64 := rfl
  have lq128 : (128 : Int32).toInt = 128 := rfl
  obtain ⟨tt, ht, htn⟩ := hP.2.1
  have hnp := hP.2.2.1
  have htk := hP.r0
  have hfo := hP.r1
  refine pq_lenF htk (by decide) rfl (fun lk1 lk2 => ?_)
  refine pq_lenF hfo (by decide) rfl (fun lf1 lf2 => ?_)
  have nkf := pq_nrole htk hfo (by decide)
  have L39 : ∀ (f33 : Nat → Int64) (hf9 : (∀ i : Nat, (7 * np : Int) ≤ (i : Int) → (i : Int) < 7 * np + 7 → f33 i = 0) ∧ ∀ i : Nat, ((i : Int) < 7 * np ∨ (7 * np + 7 : Int) ≤ (i : Int)) → f33 i = hJ S fo i) (fu : Nat) (S1 : HS) (pp : Int32) (k : Int32) (kn : Nat) (hF : pq_Fr [(194, 0), (195, 0), (8, 3)] S S1) (hT : ∀ b q, b < 128 → (tk_bit (hJ S1 tk) (7 * b) q ↔ (q < np ∧ tr_in (mk q) b) ∨ (q = np ∧ b < kn ∧ tr_in (lw, hg) b))) (hfo9 : hJ S1 fo = f33) (hO3 : hO S1 a 3 = .int (tt + 1)) (hkn : k.toInt = (kn : Int)) (hk1 : k.toInt ≤ 128) (hpn : pp.toInt = (np : Int)), (128 - k.toInt).toNat < fu → pq_At p l e (pq_rm 3 0 0) s m args below meth c (pq_Z below args s D cy S 0 0 (fun v S2 => pq_Fr [(194, 0), (195, 0), (8, 3)] S S2 ∧ ∃ x : Int32, v = some (.int x) ∧ 0 ≤ x.toInt ∧ x.toInt ≤ 399 ∧ (x.toInt = (np : Int) ∧ tk_Pl S2 a tk fo (np + 1) (tr_up mk np (lw, hg)) F0))) D cy A 7 0 0 39 S1 [some (.ref a), some (.long lw), none, some (.long hg), none, some (.int pp), some (.int k)] [] := by
    intro f33 hf9 fu
    induction fu with
    | zero => intro S1 pp k kn hF hT hfo9 hO3 hkn hk1 hpn hm; exact absurd hm (Nat.not_lt_zero _)
    | succ fu ih =>
      intro S1 pp k kn hF hT hfo9 hO3 hkn hk1 hpn hm
      have haL := hF.R ha (by first | decide | omega)
      have htkL := hF.R htk (by decide)
      have hfoL := hF.R hfo (by decide)
      have e0L := hF.O ha (by decide) (by decide) hP.a0
      have hNk : hN S1 tk = hN S tk := (hF.1 tk 194 htk (by decide)).2
      refine pq_iload F dX5_add_39 rfl ?_
      refine pq_sipush (v := 128) F dX5_add_41 (by decide) ?_
      refine pq_icmp_ge (tgt := 92) F dX5_add_44 (by decide) (fun c44 => ?_) (fun c44 => ?_)
      · skip
        refine pq_iload F dX5_add_92 rfl ?_
        exact pq_iret F hr hlk hA (Nat.le_refl _) (Nat.le_refl _) ((by refine ⟨hF, pp, rfl, (by focus ((try clear hP); (try clear hT); (try clear hmn); (try clear g33); (try clear g83); (try clear ih); (try clear hfo9); (try clear hf9); simp only [vp_in_iff, Int32.lt_iff_toInt_lt, Int32.le_iff_toInt_le, ← Int32.toInt_inj, Int32.toInt_add, Int32.toInt_sub, Int32.toInt_mul, Int32.toInt_neg, pq_NuO, pq_NuI, pq_NuJ, pq_NuR, pq_shr6, pq_shr7, pq_shr8, lqm1, lq0, lq1, lq7, lq63, lq64, lq128] at *; (try simp (disch := omega) only [pq_bm] at *); all_goals omega)), (by focus ((try clear hP); (try clear hT); (try clear hmn); (try clear g33); (try clear g83); (try clear ih); (try clear hfo9); (try clear hf9); simp only [vp_in_iff, Int32.lt_iff_toInt_lt, Int32.le_iff_toInt_le, ← Int32.toInt_inj, Int32.toInt_add, Int32.toInt_sub, Int32.toInt_mul, Int32.toInt_neg, pq_NuO, pq_NuI, pq_NuJ, pq_NuR, pq_shr6, pq_shr7, pq_shr8, lqm1, lq0, lq1, lq7, lq63, lq64, lq128] at *; (try simp (disch := omega) only [pq_bm] at *); all_goals omega)), hpn, ⟨⟨haL, hF.O ha (by decide) (by decide) hP.a0, hF.R htk (by decide), hF.O ha (by decide) (by decide) hP.a1, hF.R hfo (by decide)⟩, ⟨tt + 1, hO3, (by focus ((try clear hP); (try clear hT); (try clear hmn); (try clear g33); (try clear g83); (try clear ih); (try clear hfo9); (try clear hf9); simp only [vp_in_iff, Int32.lt_iff_toInt_lt, Int32.le_iff_toInt_le, ← Int32.toInt_inj, Int32.toInt_add, Int32.toInt_sub, Int32.toInt_mul, Int32.toInt_neg, pq_NuO, pq_NuI, pq_NuJ, pq_NuR, pq_shr6, pq_shr7, pq_shr8, lqm1, lq0, lq1, lq7, lq63, lq64, lq128] at *; (try simp (disch := omega) only [pq_bm] at *); all_goals omega))⟩, (by omega), (fun b q hb => ?_), (fun p q hp => ?_), (fun p q w => Nat.lt_succ_of_lt (hP.2.2.2.2.2 p q w))⟩⟩; (rw [hT b q hb]; by_cases e : q = np; (subst e; rw [tr_ups]; exact ⟨fun w => w.elim (fun v => absurd v.1 (Nat.lt_irrefl _)) (fun v => ⟨Nat.lt_succ_self _, v.2.2⟩), fun w => Or.inr ⟨rfl, (by clear w; focus ((try clear hP); (try clear hT); (try clear hmn); (try clear g33); (try clear g83); (try clear ih); (try clear hfo9); (try clear hf9); simp only [vp_in_iff, Int32.lt_iff_toInt_lt, Int32.le_iff_toInt_le, ← Int32.toInt_inj, Int32.toInt_add, Int32.toInt_sub, Int32.toInt_mul, Int32.toInt_neg, pq_NuO, pq_NuI, pq_NuJ, pq_NuR, pq_shr6, pq_shr7, pq_shr8, lqm1, lq0, lq1, lq7, lq63, lq64, lq128] at *; (try simp (disch := omega) only [pq_bm] at *); all_goals omega)), w.2⟩⟩); (rw [tr_upn e]; exact ⟨fun w => w.elim (fun v => ⟨by omega, v.2⟩) (fun v => absurd v.1 e), fun w => Or.inl ⟨by omega, w.2⟩⟩)); (rw [hfo9]; by_cases e : p = np; (subst e; exact ⟨fun w => absurd (hP.2.2.2.2.2 p q w) (Nat.lt_irrefl _), fun w => absurd w (tk_bit.z (fun w9 hv9 => hf9.1 _ (by omega) (by omega)))⟩); (rw [tk_bit.sm (r := hJ S fo) (st := 7 * p) (st' := 7 * p) (fun w9 hv9 => hf9.2 _ (by omega))]; exact hP.2.2.2.2.1 p q (by omega))))) dX5_add_94
      · skip
        refine pq_iload F dX5_add_47 rfl ?_
        refine pq_bipush (v := 64) F dX5_add_49 (by decide) ?_
        refine pq_icmp_ge (tgt := 58) F dX5_add_51 (by decide) (fun c51 => ?_) (fun c51 => ?_)
        · skip
          refine pq_lload_n F dX5_add_58 rfl rfl ?_
          refine pq_iload F dX5_add_59 rfl ?_
          refine pq_bipush (v := 63) F dX5_add_61 (by decide) ?_
          refine pq_iand F dX5_add_63 ?_
          refine pq_lushr F dX5_add_64 ?_
          refine pq_lconst (v := 1) F dX5_add_65 (by decide) ?_
          refine pq_land F dX5_add_66 ?_
          refine pq_lconst (v := 0) F dX5_add_67 (by decide) ?_
          refine pq_lcmp F dX5_add_68 ?_
          have hmn := tk_min (lo := lw) (hi := hg) (w := hg) (b := k) hkn (by focus ((try clear hP); (try clear hT); (try clear hmn); (try clear g33); (try clear g83); (try clear ih); (try clear hfo9); (try clear hf9); simp only [vp_in_iff, Int32.lt_iff_toInt_lt, Int32.le_iff_toInt_le, ← Int32.toInt_inj, Int32.toInt_add, Int32.toInt_sub, Int32.toInt_mul, Int32.toInt_neg, pq_NuO, pq_NuI, pq_NuJ, pq_NuR, pq_shr6, pq_shr7, pq_shr8, lqm1, lq0, lq1, lq7, lq63, lq64, lq128] at *; (try simp (disch := omega) only [pq_bm] at *); all_goals omega)) (if_neg (by focus ((try clear hP); (try clear hT); (try clear hmn); (try clear g33); (try clear g83); (try clear ih); (try clear hfo9); (try clear hf9); simp only [vp_in_iff, Int32.lt_iff_toInt_lt, Int32.le_iff_toInt_le, ← Int32.toInt_inj, Int32.toInt_add, Int32.toInt_sub, Int32.toInt_mul, Int32.toInt_neg, pq_NuO, pq_NuI, pq_NuJ, pq_NuR, pq_shr6, pq_shr7, pq_shr8, lqm1, lq0, lq1, lq7, lq63, lq64, lq128] at *; (try simp (disch := omega) only [pq_bm] at *); all_goals omega))).symm
          refine pq_if_eq (tgt := 86) F dX5_add_69 (by decide) (fun c69 => ?_) (fun c69 => ?_)
          · skip
            refine pq_iinc (v := 1) F dX5_add_86 rfl (by decide) (by decide) ?_
            refine pq_goto (tgt := 39) F dX5_add_89 (by decide) ?_
            exact pq_fgm [true, true, false, true, false, true, true] (ih _ _ _ (kn + 1) hF (fun b q hb => (hT b q hb).trans ⟨fun w => w.imp id (fun v => ⟨v.1, by have := v.2.1; omega, v.2.2⟩), fun w => w.imp id (fun v => ⟨v.1, (by have v1 := v.2.1; have v2 : b ≠ kn := (fun e => hmn.mp c69 (by rw [← e]; exact v.2.2)); omega), v.2.2⟩)⟩) hfo9 hO3 (by focus ((try clear hP); (try clear hT); (try clear hmn); (try clear g33); (try clear g83); (try clear ih); (try clear hfo9); (try clear hf9); simp only [vp_in_iff, Int32.lt_iff_toInt_lt, Int32.le_iff_toInt_le, ← Int32.toInt_inj, Int32.toInt_add, Int32.toInt_sub, Int32.toInt_mul, Int32.toInt_neg, pq_NuO, pq_NuI, pq_NuJ, pq_NuR, pq_shr6, pq_shr7, pq_shr8, lqm1, lq0, lq1, lq7, lq63, lq64, lq128] at *; (try simp (disch := omega) only [pq_bm] at *); all_goals omega)) (by focus ((try clear hP); (try clear hT); (try clear hmn); (try clear g33); (try clear g83); (try clear ih); (try clear hfo9); (try clear hf9); simp only [vp_in_iff, Int32.lt_iff_toInt_lt, Int32.le_iff_toInt_le, ← Int32.toInt_inj, Int32.toInt_add, Int32.toInt_sub, Int32.toInt_mul, Int32.toInt_neg, pq_NuO, pq_NuI, pq_NuJ, pq_NuR, pq_shr6, pq_shr7, pq_shr8, lqm1, lq0, lq1, lq7, lq63, lq64, lq128] at *; (try simp (disch := omega) only [pq_bm] at *); all_goals omega)) (by focus ((try clear hP); (try clear hT); (try clear hmn); (try clear g33); (try clear g83); (try clear ih); (try clear hfo9); (try clear hf9); simp only [vp_in_iff, Int32.lt_iff_toInt_lt, Int32.le_iff_toInt_le, ← Int32.toInt_inj, Int32.toInt_add, Int32.toInt_sub, Int32.toInt_mul, Int32.toInt_neg, pq_NuO, pq_NuI, pq_NuJ, pq_NuR, pq_shr6, pq_shr7, pq_shr8, lqm1, lq0, lq1, lq7, lq63, lq64, lq128] at *; (try simp (disch := omega) only [pq_bm] at *); all_goals omega)) (by focus ((try clear hP); (try clear hT); (try clear hmn); (try clear g33); (try clear g83); (try clear ih); (try clear hfo9); (try clear hf9); simp only [vp_in_iff, Int32.lt_iff_toInt_lt, Int32.le_iff_toInt_le, ← Int32.toInt_inj, Int32.toInt_add, Int32.toInt_sub, Int32.toInt_mul, Int32.toInt_neg, pq_NuO, pq_NuI, pq_NuJ, pq_NuR, pq_shr6, pq_shr7, pq_shr8, lqm1, lq0, lq1, lq7, lq63, lq64, lq128] at *; (try simp (disch := omega) only [pq_bm] at *); all_goals omega)))
          · skip
            refine pq_aload_n F dX5_add_72 rfl rfl ?_
            refine pq_get F haL (by decide) lk_X5_9 e0L dX5_add_73 ?_
            refine pq_iload F dX5_add_76 rfl ?_
            refine pq_bipush (v := 7) F dX5_add_78 (by decide) ?_
            refine pq_imul F dX5_add_80 ?_
            refine pq_iload F dX5_add_81 rfl ?_
            refine pq_lenF htkL (by decide) rfl (fun lna83_0 lnb83_0 => ?_)
            refine pq_callS (As := [_, _, _]) F (k_X10_addBitG l D cy _ _ 194 ?_ ?_ ?_ _ ?_ _ ?_ ?_ ?_ (7 * kn) np ?_ hpn ?_) ml_X5_38 (Nat.le_of_ble_eq_true rfl) ⟨Nat.le_of_ble_eq_true rfl, Nat.le_of_ble_eq_true rfl⟩ ⟨by decide, by decide⟩ dX5_add_83 (fun v83 S83 w83 => ?_)
            · exact htkL
            · first | decide | omega
            · first | decide | omega
            · focus ((try clear hP); (try clear hT); (try clear hmn); (try clear g33); (try clear g83); (try clear ih); (try clear hfo9); (try clear hf9); simp only [vp_in_iff, Int32.lt_iff_toInt_lt, Int32.le_iff_toInt_le, ← Int32.toInt_inj, Int32.toInt_add, Int32.toInt_sub, Int32.toInt_mul, Int32.toInt_neg, pq_NuO, pq_NuI, pq_NuJ, pq_NuR, pq_shr6, pq_shr7, pq_shr8, lqm1, lq0, lq1, lq7, lq63, lq64, lq128] at *; (try simp (disch := omega) only [pq_bm] at *); all_goals omega)
            · focus ((try clear hP); (try clear hT); (try clear hmn); (try clear g33); (try clear g83); (try clear ih); (try clear hfo9); (try clear hf9); simp only [vp_in_iff, Int32.lt_iff_toInt_lt, Int32.le_iff_toInt_le, ← Int32.toInt_inj, Int32.toInt_add, Int32.toInt_sub, Int32.toInt_mul, Int32.toInt_neg, pq_NuO, pq_NuI, pq_NuJ, pq_NuR, pq_shr6, pq_shr7, pq_shr8, lqm1, lq0, lq1, lq7, lq63, lq64, lq128] at *; (try simp (disch := omega) only [pq_bm] at *); all_goals omega)
            · focus ((try clear hP); (try clear hT); (try clear hmn); (try clear g33); (try clear g83); (try clear ih); (try clear hfo9); (try clear hf9); simp only [vp_in_iff, Int32.lt_iff_toInt_lt, Int32.le_iff_toInt_le, ← Int32.toInt_inj, Int32.toInt_add, Int32.toInt_sub, Int32.toInt_mul, Int32.toInt_neg, pq_NuO, pq_NuI, pq_NuJ, pq_NuR, pq_shr6, pq_shr7, pq_shr8, lqm1, lq0, lq1, lq7, lq63, lq64, lq128] at *; (try simp (disch := omega) only [pq_bm] at *); all_goals omega)
            · focus ((try clear hP); (try clear hT); (try clear hmn); (try clear g33); (try clear g83); (try clear ih); (try clear hfo9); (try clear hf9); simp only [vp_in_iff, Int32.lt_iff_toInt_lt, Int32.le_iff_toInt_le, ← Int32.toInt_inj, Int32.toInt_add, Int32.toInt_sub, Int32.toInt_mul, Int32.toInt_neg, pq_NuO, pq_NuI, pq_NuJ, pq_NuR, pq_shr6, pq_shr7, pq_shr8, lqm1, lq0, lq1, lq7, lq63, lq64, lq128] at *; (try simp (disch := omega) only [pq_bm] at *); all_goals omega)
            · focus ((try clear hP); (try clear hT); (try clear hmn); (try clear g33); (try clear g83); (try clear ih); (try clear hfo9); (try clear hf9); simp only [vp_in_iff, Int32.lt_iff_toInt_lt, Int32.le_iff_toInt_le, ← Int32.toInt_inj, Int32.toInt_add, Int32.toInt_sub, Int32.toInt_mul, Int32.toInt_neg, pq_NuO, pq_NuI, pq_NuJ, pq_NuR, pq_shr6, pq_shr7, pq_shr8, lqm1, lq0, lq1, lq7, lq63, lq64, lq128] at *; (try simp (disch := omega) only [pq_bm] at *); all_goals omega)
            · focus ((try clear hP); (try clear hT); (try clear hmn); (try clear g33); (try clear g83); (try clear ih); (try clear hfo9); (try clear hf9); simp only [vp_in_iff, Int32.lt_iff_toInt_lt, Int32.le_iff_toInt_le, ← Int32.toInt_inj, Int32.toInt_add, Int32.toInt_sub, Int32.toInt_mul, Int32.toInt_neg, pq_NuO, pq_NuI, pq_NuJ, pq_NuR, pq_shr6, pq_shr7, pq_shr8, lqm1, lq0, lq1, lq7, lq63, lq64, lq128] at *; (try simp (disch := omega) only [pq_bm] at *); all_goals omega)
            obtain ⟨rfl, f83, rfl, g83⟩ := w83
            refine pq_iinc (v := 1) F dX5_add_86 rfl (by decide) (by decide) ?_
            refine pq_goto (tgt := 39) F dX5_add_89 (by decide) ?_
            exact pq_fgm [true, true, false, true, false, true, true] (ih _ _ _ (kn + 1) (hF.uJ htkL (by first | decide | exact List.mem_cons_self)) (fun b q hb => (by simp only [pq_IuO, pq_IuJ, pq_Iu, pq_JuO, pq_JuI, pq_Ju, pq_RuO, pq_RuJ, pq_RuI, if_true, if_false]; by_cases e : b = kn; (subst e; rw [g83.1 q, hT b q hb]; exact ⟨fun w => w.elim (fun v => v.imp id (fun u => ⟨u.1, by omega, u.2.2⟩)) (fun v => Or.inr ⟨v, by omega, Classical.byContradiction (fun u => c69 (hmn.mpr u))⟩), fun w => w.elim (fun v => Or.inl (Or.inl v)) (fun v => Or.inr v.1)⟩); (rw [tk_bit.sm (r := hJ S1 tk) (st := 7 * b) (st' := 7 * b) (fun w9 hv9 => g83.2 _ (by omega)), hT b q hb]; exact ⟨fun w => w.imp id (fun v => ⟨v.1, by have := v.2.1; omega, v.2.2⟩), fun w => w.imp id (fun v => ⟨v.1, by have := v.2.1; omega, v.2.2⟩)⟩))) (by have n9 := pq_nrole hfoL htkL (by decide); simp only [pq_IuO, pq_IuJ, pq_Iu, pq_JuO, pq_JuI, pq_Ju, pq_RuO, pq_RuJ, pq_RuI, if_true, if_false, n9]; exact hfo9) hO3 (by focus ((try clear hP); (try clear hT); (try clear hmn); (try clear g33); (try clear g83); (try clear ih); (try clear hfo9); (try clear hf9); simp only [vp_in_iff, Int32.lt_iff_toInt_lt, Int32.le_iff_toInt_le, ← Int32.toInt_inj, Int32.toInt_add, Int32.toInt_sub, Int32.toInt_mul, Int32.toInt_neg, pq_NuO, pq_NuI, pq_NuJ, pq_NuR, pq_shr6, pq_shr7, pq_shr8, lqm1, lq0, lq1, lq7, lq63, lq64, lq128] at *; (try simp (disch := omega) only [pq_bm] at *); all_goals omega)) (by focus ((try clear hP); (try clear hT); (try clear hmn); (try clear g33); (try clear g83); (try clear ih); (try clear hfo9); (try clear hf9); simp only [vp_in_iff, Int32.lt_iff_toInt_lt, Int32.le_iff_toInt_le, ← Int32.toInt_inj, Int32.toInt_add, Int32.toInt_sub, Int32.toInt_mul, Int32.toInt_neg, pq_NuO, pq_NuI, pq_NuJ, pq_NuR, pq_shr6, pq_shr7, pq_shr8, lqm1, lq0, lq1, lq7, lq63, lq64, lq128] at *; (try simp (disch := omega) only [pq_bm] at *); all_goals omega)) (by focus ((try clear hP); (try clear hT); (try clear hmn); (try clear g33); (try clear g83); (try clear ih); (try clear hfo9); (try clear hf9); simp only [vp_in_iff, Int32.lt_iff_toInt_lt, Int32.le_iff_toInt_le, ← Int32.toInt_inj, Int32.toInt_add, Int32.toInt_sub, Int32.toInt_mul, Int32.toInt_neg, pq_NuO, pq_NuI, pq_NuJ, pq_NuR, pq_shr6, pq_shr7, pq_shr8, lqm1, lq0, lq1, lq7, lq63, lq64, lq128] at *; (try simp (disch := omega) only [pq_bm] at *); all_goals omega)) (by focus ((try clear hP); (try clear hT); (try clear hmn); (try clear g33); (try clear g83); (try clear ih); (try clear hfo9); (try clear hf9); simp only [vp_in_iff, Int32.lt_iff_toInt_lt, Int32.le_iff_toInt_le, ← Int32.toInt_inj, Int32.toInt_add, Int32.toInt_sub, Int32.toInt_mul, Int32.toInt_neg, pq_NuO, pq_NuI, pq_NuJ, pq_NuR, pq_shr6, pq_shr7, pq_shr8, lqm1, lq0, lq1, lq7, lq63, lq64, lq128] at *; (try simp (disch := omega) only [pq_bm] at *); all_goals omega)))
        · skip
          refine pq_lload_n F dX5_add_54 rfl rfl ?_
          refine pq_goto (tgt := 59) F dX5_add_55 (by decide) ?_
          refine pq_iload F dX5_add_59 rfl ?_
          refine pq_bipush (v := 63) F dX5_add_61 (by decide) ?_
          refine pq_iand F dX5_add_63 ?_
          refine pq_lushr F dX5_add_64 ?_
          refine pq_lconst (v := 1) F dX5_add_65 (by decide) ?_
          refine pq_land F dX5_add_66 ?_
          refine pq_lconst (v := 0) F dX5_add_67 (by decide) ?_
          refine pq_lcmp F dX5_add_68 ?_
          have hmn := tk_min (lo := lw) (hi := hg) (w := lw) (b := k) hkn (by focus ((try clear hP); (try clear hT); (try clear hmn); (try clear g33); (try clear g83); (try clear ih); (try clear hfo9); (try clear hf9); simp only [vp_in_iff, Int32.lt_iff_toInt_lt, Int32.le_iff_toInt_le, ← Int32.toInt_inj, Int32.toInt_add, Int32.toInt_sub, Int32.toInt_mul, Int32.toInt_neg, pq_NuO, pq_NuI, pq_NuJ, pq_NuR, pq_shr6, pq_shr7, pq_shr8, lqm1, lq0, lq1, lq7, lq63, lq64, lq128] at *; (try simp (disch := omega) only [pq_bm] at *); all_goals omega)) (if_pos (by focus ((try clear hP); (try clear hT); (try clear hmn); (try clear g33); (try clear g83); (try clear ih); (try clear hfo9); (try clear hf9); simp only [vp_in_iff, Int32.lt_iff_toInt_lt, Int32.le_iff_toInt_le, ← Int32.toInt_inj, Int32.toInt_add, Int32.toInt_sub, Int32.toInt_mul, Int32.toInt_neg, pq_NuO, pq_NuI, pq_NuJ, pq_NuR, pq_shr6, pq_shr7, pq_shr8, lqm1, lq0, lq1, lq7, lq63, lq64, lq128] at *; (try simp (disch := omega) only [pq_bm] at *); all_goals omega))).symm
          refine pq_if_eq (tgt := 86) F dX5_add_69 (by decide) (fun c69 => ?_) (fun c69 => ?_)
          · skip
            refine pq_iinc (v := 1) F dX5_add_86 rfl (by decide) (by decide) ?_
            refine pq_goto (tgt := 39) F dX5_add_89 (by decide) ?_
            exact pq_fgm [true, true, false, true, false, true, true] (ih _ _ _ (kn + 1) hF (fun b q hb => (hT b q hb).trans ⟨fun w => w.imp id (fun v => ⟨v.1, by have := v.2.1; omega, v.2.2⟩), fun w => w.imp id (fun v => ⟨v.1, (by have v1 := v.2.1; have v2 : b ≠ kn := (fun e => hmn.mp c69 (by rw [← e]; exact v.2.2)); omega), v.2.2⟩)⟩) hfo9 hO3 (by focus ((try clear hP); (try clear hT); (try clear hmn); (try clear g33); (try clear g83); (try clear ih); (try clear hfo9); (try clear hf9); simp only [vp_in_iff, Int32.lt_iff_toInt_lt, Int32.le_iff_toInt_le, ← Int32.toInt_inj, Int32.toInt_add, Int32.toInt_sub, Int32.toInt_mul, Int32.toInt_neg, pq_NuO, pq_NuI, pq_NuJ, pq_NuR, pq_shr6, pq_shr7, pq_shr8, lqm1, lq0, lq1, lq7, lq63, lq64, lq128] at *; (try simp (disch := omega) only [pq_bm] at *); all_goals omega)) (by focus ((try clear hP); (try clear hT); (try clear hmn); (try clear g33); (try clear g83); (try clear ih); (try clear hfo9); (try clear hf9); simp only [vp_in_iff, Int32.lt_iff_toInt_lt, Int32.le_iff_toInt_le, ← Int32.toInt_inj, Int32.toInt_add, Int32.toInt_sub, Int32.toInt_mul, Int32.toInt_neg, pq_NuO, pq_NuI, pq_NuJ, pq_NuR, pq_shr6, pq_shr7, pq_shr8, lqm1, lq0, lq1, lq7, lq63, lq64, lq128] at *; (try simp (disch := omega) only [pq_bm] at *); all_goals omega)) (by focus ((try clear hP); (try clear hT); (try clear hmn); (try clear g33); (try clear g83); (try clear ih); (try clear hfo9); (try clear hf9); simp only [vp_in_iff, Int32.lt_iff_toInt_lt, Int32.le_iff_toInt_le, ← Int32.toInt_inj, Int32.toInt_add, Int32.toInt_sub, Int32.toInt_mul, Int32.toInt_neg, pq_NuO, pq_NuI, pq_NuJ, pq_NuR, pq_shr6, pq_shr7, pq_shr8, lqm1, lq0, lq1, lq7, lq63, lq64, lq128] at *; (try simp (disch := omega) only [pq_bm] at *); all_goals omega)) (by focus ((try clear hP); (try clear hT); (try clear hmn); (try clear g33); (try clear g83); (try clear ih); (try clear hfo9); (try clear hf9); simp only [vp_in_iff, Int32.lt_iff_toInt_lt, Int32.le_iff_toInt_le, ← Int32.toInt_inj, Int32.toInt_add, Int32.toInt_sub, Int32.toInt_mul, Int32.toInt_neg, pq_NuO, pq_NuI, pq_NuJ, pq_NuR, pq_shr6, pq_shr7, pq_shr8, lqm1, lq0, lq1, lq7, lq63, lq64, lq128] at *; (try simp (disch := omega) only [pq_bm] at *); all_goals omega)))
          · skip
            refine pq_aload_n F dX5_add_72 rfl rfl ?_
            refine pq_get F haL (by decide) lk_X5_9 e0L dX5_add_73 ?_
            refine pq_iload F dX5_add_76 rfl ?_
            refine pq_bipush (v := 7) F dX5_add_78 (by decide) ?_
            refine pq_imul F dX5_add_80 ?_
            refine pq_iload F dX5_add_81 rfl ?_
            refine pq_lenF htkL (by decide) rfl (fun lna83_0 lnb83_0 => ?_)
            refine pq_callS (As := [_, _, _]) F (k_X10_addBitG l D cy _ _ 194 ?_ ?_ ?_ _ ?_ _ ?_ ?_ ?_ (7 * kn) np ?_ hpn ?_) ml_X5_38 (Nat.le_of_ble_eq_true rfl) ⟨Nat.le_of_ble_eq_true rfl, Nat.le_of_ble_eq_true rfl⟩ ⟨by decide, by decide⟩ dX5_add_83 (fun v83 S83 w83 => ?_)
            · exact htkL
            · first | decide | omega
            · first | decide | omega
            · focus ((try clear hP); (try clear hT); (try clear hmn); (try clear g33); (try clear g83); (try clear ih); (try clear hfo9); (try clear hf9); simp only [vp_in_iff, Int32.lt_iff_toInt_lt, Int32.le_iff_toInt_le, ← Int32.toInt_inj, Int32.toInt_add, Int32.toInt_sub, Int32.toInt_mul, Int32.toInt_neg, pq_NuO, pq_NuI, pq_NuJ, pq_NuR, pq_shr6, pq_shr7, pq_shr8, lqm1, lq0, lq1, lq7, lq63, lq64, lq128] at *; (try simp (disch := omega) only [pq_bm] at *); all_goals omega)
            · focus ((try clear hP); (try clear hT); (try clear hmn); (try clear g33); (try clear g83); (try clear ih); (try clear hfo9); (try clear hf9); simp only [vp_in_iff, Int32.lt_iff_toInt_lt, Int32.le_iff_toInt_le, ← Int32.toInt_inj, Int32.toInt_add, Int32.toInt_sub, Int32.toInt_mul, Int32.toInt_neg, pq_NuO, pq_NuI, pq_NuJ, pq_NuR, pq_shr6, pq_shr7, pq_shr8, lqm1, lq0, lq1, lq7, lq63, lq64, lq128] at *; (try simp (disch := omega) only [pq_bm] at *); all_goals omega)
            · focus ((try clear hP); (try clear hT); (try clear hmn); (try clear g33); (try clear g83); (try clear ih); (try clear hfo9); (try clear hf9); simp only [vp_in_iff, Int32.lt_iff_toInt_lt, Int32.le_iff_toInt_le, ← Int32.toInt_inj, Int32.toInt_add, Int32.toInt_sub, Int32.toInt_mul, Int32.toInt_neg, pq_NuO, pq_NuI, pq_NuJ, pq_NuR, pq_shr6, pq_shr7, pq_shr8, lqm1, lq0, lq1, lq7, lq63, lq64, lq128] at *; (try simp (disch := omega) only [pq_bm] at *); all_goals omega)
            · focus ((try clear hP); (try clear hT); (try clear hmn); (try clear g33); (try clear g83); (try clear ih); (try clear hfo9); (try clear hf9); simp only [vp_in_iff, Int32.lt_iff_toInt_lt, Int32.le_iff_toInt_le, ← Int32.toInt_inj, Int32.toInt_add, Int32.toInt_sub, Int32.toInt_mul, Int32.toInt_neg, pq_NuO, pq_NuI, pq_NuJ, pq_NuR, pq_shr6, pq_shr7, pq_shr8, lqm1, lq0, lq1, lq7, lq63, lq64, lq128] at *; (try simp (disch := omega) only [pq_bm] at *); all_goals omega)
            · focus ((try clear hP); (try clear hT); (try clear hmn); (try clear g33); (try clear g83); (try clear ih); (try clear hfo9); (try clear hf9); simp only [vp_in_iff, Int32.lt_iff_toInt_lt, Int32.le_iff_toInt_le, ← Int32.toInt_inj, Int32.toInt_add, Int32.toInt_sub, Int32.toInt_mul, Int32.toInt_neg, pq_NuO, pq_NuI, pq_NuJ, pq_NuR, pq_shr6, pq_shr7, pq_shr8, lqm1, lq0, lq1, lq7, lq63, lq64, lq128] at *; (try simp (disch := omega) only [pq_bm] at *); all_goals omega)
            · focus ((try clear hP); (try clear hT); (try clear hmn); (try clear g33); (try clear g83); (try clear ih); (try clear hfo9); (try clear hf9); simp only [vp_in_iff, Int32.lt_iff_toInt_lt, Int32.le_iff_toInt_le, ← Int32.toInt_inj, Int32.toInt_add, Int32.toInt_sub, Int32.toInt_mul, Int32.toInt_neg, pq_NuO, pq_NuI, pq_NuJ, pq_NuR, pq_shr6, pq_shr7, pq_shr8, lqm1, lq0, lq1, lq7, lq63, lq64, lq128] at *; (try simp (disch := omega) only [pq_bm] at *); all_goals omega)
            obtain ⟨rfl, f83, rfl, g83⟩ := w83
            refine pq_iinc (v := 1) F dX5_add_86 rfl (by decide) (by decide) ?_
            refine pq_goto (tgt := 39) F dX5_add_89 (by decide) ?_
            exact pq_fgm [true, true, false, true, false, true, true] (ih _ _ _ (kn + 1) (hF.uJ htkL (by first | decide | exact List.mem_cons_self)) (fun b q hb => (by simp only [pq_IuO, pq_IuJ, pq_Iu, pq_JuO, pq_JuI, pq_Ju, pq_RuO, pq_RuJ, pq_RuI, if_true, if_false]; by_cases e : b = kn; (subst e; rw [g83.1 q, hT b q hb]; exact ⟨fun w => w.elim (fun v => v.imp id (fun u => ⟨u.1, by omega, u.2.2⟩)) (fun v => Or.inr ⟨v, by omega, Classical.byContradiction (fun u => c69 (hmn.mpr u))⟩), fun w => w.elim (fun v => Or.inl (Or.inl v)) (fun v => Or.inr v.1)⟩); (rw [tk_bit.sm (r := hJ S1 tk) (st := 7 * b) (st' := 7 * b) (fun w9 hv9 => g83.2 _ (by omega)), hT b q hb]; exact ⟨fun w => w.imp id (fun v => ⟨v.1, by have := v.2.1; omega, v.2.2⟩), fun w => w.imp id (fun v => ⟨v.1, by have := v.2.1; omega, v.2.2⟩)⟩))) (by have n9 := pq_nrole hfoL htkL (by decide); simp only [pq_IuO, pq_IuJ, pq_Iu, pq_JuO, pq_JuI, pq_Ju, pq_RuO, pq_RuJ, pq_RuI, if_true, if_false, n9]; exact hfo9) hO3 (by focus ((try clear hP); (try clear hT); (try clear hmn); (try clear g33); (try clear g83); (try clear ih); (try clear hfo9); (try clear hf9); simp only [vp_in_iff, Int32.lt_iff_toInt_lt, Int32.le_iff_toInt_le, ← Int32.toInt_inj, Int32.toInt_add, Int32.toInt_sub, Int32.toInt_mul, Int32.toInt_neg, pq_NuO, pq_NuI, pq_NuJ, pq_NuR, pq_shr6, pq_shr7, pq_shr8, lqm1, lq0, lq1, lq7, lq63, lq64, lq128] at *; (try simp (disch := omega) only [pq_bm] at *); all_goals omega)) (by focus ((try clear hP); (try clear hT); (try clear hmn); (try clear g33); (try clear g83); (try clear ih); (try clear hfo9); (try clear hf9); simp only [vp_in_iff, Int32.lt_iff_toInt_lt, Int32.le_iff_toInt_le, ← Int32.toInt_inj, Int32.toInt_add, Int32.toInt_sub, Int32.toInt_mul, Int32.toInt_neg, pq_NuO, pq_NuI, pq_NuJ, pq_NuR, pq_shr6, pq_shr7, pq_shr8, lqm1, lq0, lq1, lq7, lq63, lq64, lq128] at *; (try simp (disch := omega) only [pq_bm] at *); all_goals omega)) (by focus ((try clear hP); (try clear hT); (try clear hmn); (try clear g33); (try clear g83); (try clear ih); (try clear hfo9); (try clear hf9); simp only [vp_in_iff, Int32.lt_iff_toInt_lt, Int32.le_iff_toInt_le, ← Int32.toInt_inj, Int32.toInt_add, Int32.toInt_sub, Int32.toInt_mul, Int32.toInt_neg, pq_NuO, pq_NuI, pq_NuJ, pq_NuR, pq_shr6, pq_shr7, pq_shr8, lqm1, lq0, lq1, lq7, lq63, lq64, lq128] at *; (try simp (disch := omega) only [pq_bm] at *); all_goals omega)) (by focus ((try clear hP); (try clear hT); (try clear hmn); (try clear g33); (try clear g83); (try clear ih); (try clear hfo9); (try clear hf9); simp only [vp_in_iff, Int32.lt_iff_toInt_lt, Int32.le_iff_toInt_le, ← Int32.toInt_inj, Int32.toInt_add, Int32.toInt_sub, Int32.toInt_mul, Int32.toInt_neg, pq_NuO, pq_NuI, pq_NuJ, pq_NuR, pq_shr6, pq_shr7, pq_shr8, lqm1, lq0, lq1, lq7, lq63, lq64, lq128] at *; (try simp (disch := omega) only [pq_bm] at *); all_goals omega)))
  refine pq_aload_n F dX5_add_0 rfl rfl ?_
  refine pq_get F ha (by decide) lk_X5_31 ht dX5_add_1 ?_
  refine pq_istore F dX5_add_4 (by decide) ?_
  refine pq_aload_n F dX5_add_6 rfl rfl ?_
  refine pq_dup F dX5_add_7 rfl ?_
  refine pq_get F ha (by decide) lk_X5_31 ht dX5_add_8 ?_
  refine pq_iconst (v := 1) F dX5_add_11 (by decide) ?_
  refine pq_iadd F dX5_add_12 ?_
  refine pq_putI F ha (by decide) lp_X5_31 rfl (by focus ((try clear hP); (try clear hT); (try clear hmn); (try clear g33); (try clear g83); (try clear ih); (try clear hfo9); (try clear hf9); simp only [vp_in_iff, Int32.lt_iff_toInt_lt, Int32.le_iff_toInt_le, ← Int32.toInt_inj, Int32.toInt_add, Int32.toInt_sub, Int32.toInt_mul, Int32.toInt_neg, pq_NuO, pq_NuI, pq_NuJ, pq_NuR, pq_shr6, pq_shr7, pq_shr8, lqm1, lq0, lq1, lq7, lq63, lq64, lq128] at *; (try simp (disch := omega) only [pq_bm] at *); all_goals omega)) (by focus ((try clear hP); (try clear hT); (try clear hmn); (try clear g33); (try clear g83); (try clear ih); (try clear hfo9); (try clear hf9); simp only [vp_in_iff, Int32.lt_iff_toInt_lt, Int32.le_iff_toInt_le, ← Int32.toInt_inj, Int32.toInt_add, Int32.toInt_sub, Int32.toInt_mul, Int32.toInt_neg, pq_NuO, pq_NuI, pq_NuJ, pq_NuR, pq_shr6, pq_shr7, pq_shr8, lqm1, lq0, lq1, lq7, lq63, lq64, lq128] at *; (try simp (disch := omega) only [pq_bm] at *); all_goals omega)) dX5_add_13 ?_
  refine pq_aload_n F dX5_add_16 rfl rfl ?_
  refine pq_get F ha (by decide) lk_X5_15 (pq_kp hP.a1 (by decide)) dX5_add_17 ?_
  refine pq_iload F dX5_add_20 rfl ?_
  refine pq_bipush (v := 7) F dX5_add_22 (by decide) ?_
  refine pq_imul F dX5_add_24 ?_
  refine pq_iload F dX5_add_25 rfl ?_
  refine pq_iconst (v := 1) F dX5_add_27 (by decide) ?_
  refine pq_iadd F dX5_add_28 ?_
  refine pq_bipush (v := 7) F dX5_add_29 (by decide) ?_
  refine pq_imul F dX5_add_31 ?_
  refine pq_lconst (v := 0) F dX5_add_32 (by decide) ?_
  refine pq_lenF hP.r1 (by decide) rfl (fun lna33_0 lnb33_0 => ?_)
  refine pq_callS (As := [_, _, _, _]) F (k_J7_fillRG l D cy _ _ 195 ?_ ?_ ?_ _ ?_ _ _ ?_ ?_ ?_) ml_X5_35 (Nat.le_of_ble_eq_true rfl) ⟨Nat.le_of_ble_eq_true rfl, Nat.le_of_ble_eq_true rfl⟩ ⟨by decide, by decide⟩ dX5_add_33 (fun v33 S33 w33 => ?_)
  · exact hP.r1
  · first | decide | omega
  · first | decide | omega
  · focus ((try clear hP); (try clear hT); (try clear hmn); (try clear g33); (try clear g83); (try clear ih); (try clear hfo9); (try clear hf9); simp only [vp_in_iff, Int32.lt_iff_toInt_lt, Int32.le_iff_toInt_le, ← Int32.toInt_inj, Int32.toInt_add, Int32.toInt_sub, Int32.toInt_mul, Int32.toInt_neg, pq_NuO, pq_NuI, pq_NuJ, pq_NuR, pq_shr6, pq_shr7, pq_shr8, lqm1, lq0, lq1, lq7, lq63, lq64, lq128] at *; (try simp (disch := omega) only [pq_bm] at *); all_goals omega)
  · focus ((try clear hP); (try clear hT); (try clear hmn); (try clear g33); (try clear g83); (try clear ih); (try clear hfo9); (try clear hf9); simp only [vp_in_iff, Int32.lt_iff_toInt_lt, Int32.le_iff_toInt_le, ← Int32.toInt_inj, Int32.toInt_add, Int32.toInt_sub, Int32.toInt_mul, Int32.toInt_neg, pq_NuO, pq_NuI, pq_NuJ, pq_NuR, pq_shr6, pq_shr7, pq_shr8, lqm1, lq0, lq1, lq7, lq63, lq64, lq128] at *; (try simp (disch := omega) only [pq_bm] at *); all_goals omega)
  · focus ((try clear hP); (try clear hT); (try clear hmn); (try clear g33); (try clear g83); (try clear ih); (try clear hfo9); (try clear hf9); simp only [vp_in_iff, Int32.lt_iff_toInt_lt, Int32.le_iff_toInt_le, ← Int32.toInt_inj, Int32.toInt_add, Int32.toInt_sub, Int32.toInt_mul, Int32.toInt_neg, pq_NuO, pq_NuI, pq_NuJ, pq_NuR, pq_shr6, pq_shr7, pq_shr8, lqm1, lq0, lq1, lq7, lq63, lq64, lq128] at *; (try simp (disch := omega) only [pq_bm] at *); all_goals omega)
  · focus ((try clear hP); (try clear hT); (try clear hmn); (try clear g33); (try clear g83); (try clear ih); (try clear hfo9); (try clear hf9); simp only [vp_in_iff, Int32.lt_iff_toInt_lt, Int32.le_iff_toInt_le, ← Int32.toInt_inj, Int32.toInt_add, Int32.toInt_sub, Int32.toInt_mul, Int32.toInt_neg, pq_NuO, pq_NuI, pq_NuJ, pq_NuR, pq_shr6, pq_shr7, pq_shr8, lqm1, lq0, lq1, lq7, lq63, lq64, lq128] at *; (try simp (disch := omega) only [pq_bm] at *); all_goals omega)
  obtain ⟨rfl, f33, rfl, g33⟩ := w33
  refine pq_iconst (v := 0) F dX5_add_36 (by decide) ?_
  refine pq_istore F dX5_add_37 (by decide) ?_
  exact pq_fgm [true, true, false, true, false, true, true] (L39 f33 ⟨fun i a1 a2 => g33.1 i (by focus ((try clear hP); (try clear hT); (try clear hmn); (try clear g33); (try clear g83); (try clear ih); (try clear hfo9); (try clear hf9); simp only [vp_in_iff, Int32.lt_iff_toInt_lt, Int32.le_iff_toInt_le, ← Int32.toInt_inj, Int32.toInt_add, Int32.toInt_sub, Int32.toInt_mul, Int32.toInt_neg, pq_NuO, pq_NuI, pq_NuJ, pq_NuR, pq_shr6, pq_shr7, pq_shr8, lqm1, lq0, lq1, lq7, lq63, lq64, lq128] at *; (try simp (disch := omega) only [pq_bm] at *); all_goals omega)) (by focus ((try clear hP); (try clear hT); (try clear hmn); (try clear g33); (try clear g83); (try clear ih); (try clear hfo9); (try clear hf9); simp only [vp_in_iff, Int32.lt_iff_toInt_lt, Int32.le_iff_toInt_le, ← Int32.toInt_inj, Int32.toInt_add, Int32.toInt_sub, Int32.toInt_mul, Int32.toInt_neg, pq_NuO, pq_NuI, pq_NuJ, pq_NuR, pq_shr6, pq_shr7, pq_shr8, lqm1, lq0, lq1, lq7, lq63, lq64, lq128] at *; (try simp (disch := omega) only [pq_bm] at *); all_goals omega)), fun i a1 => g33.2 i (by focus ((try clear hP); (try clear hT); (try clear hmn); (try clear g33); (try clear g83); (try clear ih); (try clear hfo9); (try clear hf9); simp only [vp_in_iff, Int32.lt_iff_toInt_lt, Int32.le_iff_toInt_le, ← Int32.toInt_inj, Int32.toInt_add, Int32.toInt_sub, Int32.toInt_mul, Int32.toInt_neg, pq_NuO, pq_NuI, pq_NuJ, pq_NuR, pq_shr6, pq_shr7, pq_shr8, lqm1, lq0, lq1, lq7, lq63, lq64, lq128] at *; (try simp (disch := omega) only [pq_bm] at *); all_goals omega))⟩ 1000 _ _ 0 0 ((pq_Fr.rf.uO ha (by decide)).uJ hP.r1 (by first | decide | exact List.mem_cons_self)) (fun b q hb => (by simp only [pq_IuO, pq_IuJ, pq_Iu, pq_JuO, pq_JuI, pq_Ju, pq_RuO, pq_RuJ, pq_RuI, if_true, if_false, nkf]; rw [hP.2.2.2.1 b q hb]; exact ⟨Or.inl, fun w => w.elim id (fun v => absurd v.2.1 (Nat.not_lt_zero _))⟩)) (by simp only [pq_IuO, pq_IuJ, pq_Iu, pq_JuO, pq_JuI, pq_Ju, pq_RuO, pq_RuJ, pq_RuI, if_true, if_false]) pq_ks (by focus ((try clear hP); (try clear hT); (try clear hmn); (try clear g33); (try clear g83); (try clear ih); (try clear hfo9); (try clear hf9); simp only [vp_in_iff, Int32.lt_iff_toInt_lt, Int32.le_iff_toInt_le, ← Int32.toInt_inj, Int32.toInt_add, Int32.toInt_sub, Int32.toInt_mul, Int32.toInt_neg, pq_NuO, pq_NuI, pq_NuJ, pq_NuR, pq_shr6, pq_shr7, pq_shr8, lqm1, lq0, lq1, lq7, lq63, lq64, lq128] at *; (try simp (disch := omega) only [pq_bm] at *); all_goals omega)) (by focus ((try clear hP); (try clear hT); (try clear hmn); (try clear g33); (try clear g83); (try clear ih); (try clear hfo9); (try clear hf9); simp only [vp_in_iff, Int32.lt_iff_toInt_lt, Int32.le_iff_toInt_le, ← Int32.toInt_inj, Int32.toInt_add, Int32.toInt_sub, Int32.toInt_mul, Int32.toInt_neg, pq_NuO, pq_NuI, pq_NuJ, pq_NuR, pq_shr6, pq_shr7, pq_shr8, lqm1, lq0, lq1, lq7, lq63, lq64, lq128] at *; (try simp (disch := omega) only [pq_bm] at *); all_goals omega)) (by focus ((try clear hP); (try clear hT); (try clear hmn); (try clear g33); (try clear g83); (try clear ih); (try clear hfo9); (try clear hf9); simp only [vp_in_iff, Int32.lt_iff_toInt_lt, Int32.le_iff_toInt_le, ← Int32.toInt_inj, Int32.toInt_add, Int32.toInt_sub, Int32.toInt_mul, Int32.toInt_neg, pq_NuO, pq_NuI, pq_NuJ, pq_NuR, pq_shr6, pq_shr7, pq_shr8, lqm1, lq0, lq1, lq7, lq63, lq64, lq128] at *; (try simp (disch := omega) only [pq_bm] at *); all_goals omega)) (by focus ((try clear hP); (try clear hT); (try clear hmn); (try clear g33); (try clear g83); (try clear ih); (try clear hfo9); (try clear hf9); simp only [vp_in_iff, Int32.lt_iff_toInt_lt, Int32.le_iff_toInt_le, ← Int32.toInt_inj, Int32.toInt_add, Int32.toInt_sub, Int32.toInt_mul, Int32.toInt_neg, pq_NuO, pq_NuI, pq_NuJ, pq_NuR, pq_shr6, pq_shr7, pq_shr8, lqm1, lq0, lq1, lq7, lq63, lq64, lq128] at *; (try simp (disch := omega) only [pq_bm] at *); all_goals omega)))

set_option maxHeartbeats 4000000 in
set_option maxRecDepth 100000 in
theorem k_X5_linkG (l : Launch) (D : va_G) (cy : Nat → ClassId) (S : HS) (a : Nat) (ha : pq_R S a 8) (b : Nat) (hb : pq_R S b 191) (w : Nat) (hw : pq_R S w 190) (tk fo np : Nat) (mk : Nat → tr_M) (F0 : Nat → Nat → Prop) (hP : tk_Pl S a tk fo np mk F0) (FR TO : Nat → Prop) (hFR : ∀ p, FR p ↔ tk_bit (hJ S b) 0 p) (hTO : ∀ q, TO q ↔ tk_bit (hJ S w) 0 q) (hfb : ∀ p, FR p → p < np) : pq_C l D cy yX5_link cX5_link 4 (none) 2 0 0 S [.ref a, .ref b, .ref w] (fun v S2 => v = none ∧ pq_Fr [(195, 0)] S S2 ∧ (tk_Pl S2 a tk fo np mk (fun p q => F0 p q ∨ (FR p ∧ TO q)))) := by
  refine pq_start (by decide) (Nat.le_of_ble_eq_true rfl) ?_
  intro p e s m args below meth c A F hr hlk hnm hA
  have lqm1 : (-1 : Int32).toInt = -1 := rfl
  have lq0 : (0 : Int32).toInt = 0 := rfl
  have lq1 : (1 : Int32).toInt = 1 := rfl
  have lq7 : (7 : Int32).toInt = 7 := rfl
  obtain ⟨tt, ht, htn⟩ := hP.2.1
  have hnp := hP.2.2.1
  have hfo := hP.r1
  refine pq_lenF hfo (by decide) rfl (fun lf1 lf2 => ?_)
  refine pq_lenF hb (by decide) rfl (fun lb1 lb2 => ?_)
  refine pq_lenF hw (by decide) rfl (fun lw1 lw2 => ?_)
  have L2 : ∀  (fu : Nat) (S1 : HS) (k : Int32) (kn : Nat) (hF : pq_Fr [(195, 0)] S S1) (hLk : ∀ p q, p < np → (tk_bit (hJ S1 fo) (7 * p) q ↔ F0 p q ∨ (p < kn ∧ tk_bit (hJ S b) 0 p ∧ tk_bit (hJ S w) 0 q))) (hkn : k.toInt = (kn : Int)) (hk1 : kn ≤ np), (400 - k.toInt).toNat < fu → pq_At p l e (pq_rm 2 0 0) s m args below meth c (pq_Z below args s D cy S 0 0 (fun v S2 => v = none ∧ pq_Fr [(195, 0)] S S2 ∧ (tk_Pl S2 a tk fo np mk (fun p q => F0 p q ∨ (FR p ∧ TO q))))) D cy A 4 0 0 2 S1 [some (.ref a), some (.ref b), some (.ref w), some (.int k)] [] := by
    intro  fu
    induction fu with
    | zero => intro S1 k kn hF hLk hkn hk1 hm; exact absurd hm (Nat.not_lt_zero _)
    | succ fu ih =>
      intro S1 k kn hF hLk hkn hk1 hm
      have haL := hF.R ha (by first | decide | omega)
      have hbL := hF.R hb (by first | decide | omega)
      have hwL := hF.R hw (by first | decide | omega)
      have hfoL := hF.R hfo (by decide)
      have e1L := hF.O ha (by decide) (by decide) hP.a1
      have e3L := hF.O ha (by decide) (by decide) ht
      have hNf : hN S1 fo = hN S fo := (hF.1 fo 195 hfo (by decide)).2
      have hNb : hN S1 b = hN S b := (hF.1 b 191 hb (by decide)).2
      have hNw : hN S1 w = hN S w := (hF.1 w 190 hw (by decide)).2
      have hJb : hJ S1 b = hJ S b := (hF.2.2 b 191 hb (by decide) (by decide)).2.1
      have hJw : hJ S1 w = hJ S w := (hF.2.2 w 190 hw (by decide) (by decide)).2.1
      refine pq_iload_n F dX5_link_2 rfl rfl ?_
      refine pq_aload_n F dX5_link_3 rfl rfl ?_
      refine pq_get F haL (by decide) lk_X5_31 e3L dX5_link_4 ?_
      refine pq_icmp_ge (tgt := 37) F dX5_link_7 (by decide) (fun c7 => ?_) (fun c7 => ?_)
      · skip
        exact pq_vret F hr hlk hA (Nat.le_refl _) (Nat.le_refl _) ((by have ek : kn = np := (by clear hLk; focus ((try clear hP); (try clear hLk); (try clear hFR); (try clear hTO); (try clear hfb); (try clear ih); (try clear p13); (try clear g28); (try clear hn13); (try clear hy13); (try clear hJw); (try clear hJb); simp only [vp_in_iff, Int32.lt_iff_toInt_lt, Int32.le_iff_toInt_le, ← Int32.toInt_inj, Int32.toInt_add, Int32.toInt_sub, Int32.toInt_mul, Int32.toInt_neg, pq_NuO, pq_NuI, pq_NuJ, pq_NuR, pq_shr6, pq_shr7, pq_shr8, lqm1, lq0, lq1, lq7] at *; (try simp (disch := omega) only [pq_bm] at *); all_goals omega)); exact ⟨rfl, hF, ⟨⟨haL, hF.O ha (by decide) (by decide) hP.a0, hF.R hP.r0 (by decide), hF.O ha (by decide) (by decide) hP.a1, hF.R hfo (by decide)⟩, ⟨tt, hF.O ha (by decide) (by decide) ht, htn⟩, hnp, (fun b9 q hb9 => (by rw [(hF.2.2 tk 194 hP.r0 (by decide) (by decide)).2.1]; exact hP.2.2.2.1 b9 q hb9)), (fun p q hp => (by rw [hLk p q hp, ek]; show (F0 p q ∨ (FR p ∧ TO q)) ↔ _; rw [hFR p, hTO q]; exact ⟨fun v => v.imp id (fun u => ⟨hp, u⟩), fun v => v.imp id (fun u => u.2)⟩)), (fun p q v => v.elim (hP.2.2.2.2.2 p q) (fun u => hfb p u.1))⟩⟩)) dX5_link_37
      · skip
        refine pq_aload_n F dX5_link_10 rfl rfl ?_
        refine pq_iconst (v := 0) F dX5_link_11 (by decide) ?_
        refine pq_iload_n F dX5_link_12 rfl rfl ?_
        refine pq_lenF hbL (by decide) rfl (fun lna13_0 lnb13_0 => ?_)
        refine pq_callS (As := [_, _, _]) F (k_X10_hasBitG l D cy _ _ 191 ?_ ?_ ?_ _ ?_ _ ?_ ?_ ?_ 0 kn rfl hkn ?_) ml_X5_42 (Nat.le_of_ble_eq_true rfl) ⟨Nat.le_of_ble_eq_true rfl, Nat.le_of_ble_eq_true rfl⟩ ⟨by decide, by decide⟩ dX5_link_13 (fun v13 S13 w13 => ?_)
        · exact hbL
        · first | decide | omega
        · first | decide | omega
        · focus ((try clear hP); (try clear hLk); (try clear hFR); (try clear hTO); (try clear hfb); (try clear ih); (try clear p13); (try clear g28); (try clear hn13); (try clear hy13); (try clear hJw); (try clear hJb); simp only [vp_in_iff, Int32.lt_iff_toInt_lt, Int32.le_iff_toInt_le, ← Int32.toInt_inj, Int32.toInt_add, Int32.toInt_sub, Int32.toInt_mul, Int32.toInt_neg, pq_NuO, pq_NuI, pq_NuJ, pq_NuR, pq_shr6, pq_shr7, pq_shr8, lqm1, lq0, lq1, lq7] at *; (try simp (disch := omega) only [pq_bm] at *); all_goals omega)
        · focus ((try clear hP); (try clear hLk); (try clear hFR); (try clear hTO); (try clear hfb); (try clear ih); (try clear p13); (try clear g28); (try clear hn13); (try clear hy13); (try clear hJw); (try clear hJb); simp only [vp_in_iff, Int32.lt_iff_toInt_lt, Int32.le_iff_toInt_le, ← Int32.toInt_inj, Int32.toInt_add, Int32.toInt_sub, Int32.toInt_mul, Int32.toInt_neg, pq_NuO, pq_NuI, pq_NuJ, pq_NuR, pq_shr6, pq_shr7, pq_shr8, lqm1, lq0, lq1, lq7] at *; (try simp (disch := omega) only [pq_bm] at *); all_goals omega)
        · focus ((try clear hP); (try clear hLk); (try clear hFR); (try clear hTO); (try clear hfb); (try clear ih); (try clear p13); (try clear g28); (try clear hn13); (try clear hy13); (try clear hJw); (try clear hJb); simp only [vp_in_iff, Int32.lt_iff_toInt_lt, Int32.le_iff_toInt_le, ← Int32.toInt_inj, Int32.toInt_add, Int32.toInt_sub, Int32.toInt_mul, Int32.toInt_neg, pq_NuO, pq_NuI, pq_NuJ, pq_NuR, pq_shr6, pq_shr7, pq_shr8, lqm1, lq0, lq1, lq7] at *; (try simp (disch := omega) only [pq_bm] at *); all_goals omega)
        · focus ((try clear hP); (try clear hLk); (try clear hFR); (try clear hTO); (try clear hfb); (try clear ih); (try clear p13); (try clear g28); (try clear hn13); (try clear hy13); (try clear hJw); (try clear hJb); simp only [vp_in_iff, Int32.lt_iff_toInt_lt, Int32.le_iff_toInt_le, ← Int32.toInt_inj, Int32.toInt_add, Int32.toInt_sub, Int32.toInt_mul, Int32.toInt_neg, pq_NuO, pq_NuI, pq_NuJ, pq_NuR, pq_shr6, pq_shr7, pq_shr8, lqm1, lq0, lq1, lq7] at *; (try simp (disch := omega) only [pq_bm] at *); all_goals omega)
        · focus ((try clear hP); (try clear hLk); (try clear hFR); (try clear hTO); (try clear hfb); (try clear ih); (try clear p13); (try clear g28); (try clear hn13); (try clear hy13); (try clear hJw); (try clear hJb); simp only [vp_in_iff, Int32.lt_iff_toInt_lt, Int32.le_iff_toInt_le, ← Int32.toInt_inj, Int32.toInt_add, Int32.toInt_sub, Int32.toInt_mul, Int32.toInt_neg, pq_NuO, pq_NuI, pq_NuJ, pq_NuR, pq_shr6, pq_shr7, pq_shr8, lqm1, lq0, lq1, lq7] at *; (try simp (disch := omega) only [pq_bm] at *); all_goals omega)
        obtain ⟨u13, y13, rfl, yl13_0, yl13_1, p13⟩ := w13
        rw [u13]
        try rw [u13] at p13
        rw [hJb] at p13
        refine pq_if_eq (tgt := 31) F dX5_link_16 (by decide) (fun c16 => ?_) (fun c16 => ?_)
        · skip
          have hn13 : ¬ tk_bit (hJ S b) 0 kn := (fun v => (by have u := p13.mpr v; rw [u] at c16; exact absurd c16 (by decide)))
          refine pq_iinc (v := 1) F dX5_link_31 rfl (by decide) (by decide) ?_
          refine pq_goto (tgt := 2) F dX5_link_34 (by decide) ?_
          exact pq_fgm [true, true, true, true] (ih _ _ (kn + 1) hF (fun p q hp => (hLk p q hp).trans ⟨fun v => v.imp id (fun u => ⟨by have := u.1; omega, u.2⟩), fun v => v.imp id (fun u => ⟨(by have u1 := u.1; have u2 : p ≠ kn := (fun e => hn13 (by rw [← e]; exact u.2.1)); omega), u.2⟩)⟩) (by focus ((try clear hP); (try clear hLk); (try clear hFR); (try clear hTO); (try clear hfb); (try clear ih); (try clear p13); (try clear g28); (try clear hn13); (try clear hy13); (try clear hJw); (try clear hJb); simp only [vp_in_iff, Int32.lt_iff_toInt_lt, Int32.le_iff_toInt_le, ← Int32.toInt_inj, Int32.toInt_add, Int32.toInt_sub, Int32.toInt_mul, Int32.toInt_neg, pq_NuO, pq_NuI, pq_NuJ, pq_NuR, pq_shr6, pq_shr7, pq_shr8, lqm1, lq0, lq1, lq7] at *; (try simp (disch := omega) only [pq_bm] at *); all_goals omega)) (by focus ((try clear hP); (try clear hLk); (try clear hFR); (try clear hTO); (try clear hfb); (try clear ih); (try clear p13); (try clear g28); (try clear hn13); (try clear hy13); (try clear hJw); (try clear hJb); simp only [vp_in_iff, Int32.lt_iff_toInt_lt, Int32.le_iff_toInt_le, ← Int32.toInt_inj, Int32.toInt_add, Int32.toInt_sub, Int32.toInt_mul, Int32.toInt_neg, pq_NuO, pq_NuI, pq_NuJ, pq_NuR, pq_shr6, pq_shr7, pq_shr8, lqm1, lq0, lq1, lq7] at *; (try simp (disch := omega) only [pq_bm] at *); all_goals omega)) (by focus ((try clear hP); (try clear hLk); (try clear hFR); (try clear hTO); (try clear hfb); (try clear ih); (try clear p13); (try clear g28); (try clear hn13); (try clear hy13); (try clear hJw); (try clear hJb); simp only [vp_in_iff, Int32.lt_iff_toInt_lt, Int32.le_iff_toInt_le, ← Int32.toInt_inj, Int32.toInt_add, Int32.toInt_sub, Int32.toInt_mul, Int32.toInt_neg, pq_NuO, pq_NuI, pq_NuJ, pq_NuR, pq_shr6, pq_shr7, pq_shr8, lqm1, lq0, lq1, lq7] at *; (try simp (disch := omega) only [pq_bm] at *); all_goals omega)))
        · skip
          have hy13 := p13.mp (Int32.toInt_inj.mp (by focus ((try clear hP); (try clear hLk); (try clear hFR); (try clear hTO); (try clear hfb); (try clear ih); (try clear p13); (try clear g28); (try clear hn13); (try clear hy13); (try clear hJw); (try clear hJb); simp only [vp_in_iff, Int32.lt_iff_toInt_lt, Int32.le_iff_toInt_le, ← Int32.toInt_inj, Int32.toInt_add, Int32.toInt_sub, Int32.toInt_mul, Int32.toInt_neg, pq_NuO, pq_NuI, pq_NuJ, pq_NuR, pq_shr6, pq_shr7, pq_shr8, lqm1, lq0, lq1, lq7] at *; (try simp (disch := omega) only [pq_bm] at *); all_goals omega)))
          refine pq_aload_n F dX5_link_19 rfl rfl ?_
          refine pq_get F haL (by decide) lk_X5_15 e1L dX5_link_20 ?_
          refine pq_iload_n F dX5_link_23 rfl rfl ?_
          refine pq_bipush (v := 7) F dX5_link_24 (by decide) ?_
          refine pq_imul F dX5_link_26 ?_
          refine pq_aload_n F dX5_link_27 rfl rfl ?_
          refine pq_lenF hfoL (by decide) rfl (fun lna28_0 lnb28_0 => ?_)
          refine pq_lenF hwL (by decide) rfl (fun lna28_2 lnb28_2 => ?_)
          refine pq_callS (As := [_, _, _]) F (k_X10_addAllG l D cy _ _ 195 ?_ ?_ ?_ _ ?_ _ 190 ?_ ?_ ?_ ?_ ?_ ?_ (7 * kn) ?_ (pq_nrole hfoL hwL (by decide))) ml_X5_46 (Nat.le_of_ble_eq_true rfl) ⟨Nat.le_of_ble_eq_true rfl, Nat.le_of_ble_eq_true rfl⟩ ⟨by decide, by decide⟩ dX5_link_28 (fun v28 S28 w28 => ?_)
          · exact hfoL
          · first | decide | omega
          · first | decide | omega
          · focus ((try clear hP); (try clear hLk); (try clear hFR); (try clear hTO); (try clear hfb); (try clear ih); (try clear p13); (try clear g28); (try clear hn13); (try clear hy13); (try clear hJw); (try clear hJb); simp only [vp_in_iff, Int32.lt_iff_toInt_lt, Int32.le_iff_toInt_le, ← Int32.toInt_inj, Int32.toInt_add, Int32.toInt_sub, Int32.toInt_mul, Int32.toInt_neg, pq_NuO, pq_NuI, pq_NuJ, pq_NuR, pq_shr6, pq_shr7, pq_shr8, lqm1, lq0, lq1, lq7] at *; (try simp (disch := omega) only [pq_bm] at *); all_goals omega)
          · exact hwL
          · first | decide | omega
          · first | decide | omega
          · focus ((try clear hP); (try clear hLk); (try clear hFR); (try clear hTO); (try clear hfb); (try clear ih); (try clear p13); (try clear g28); (try clear hn13); (try clear hy13); (try clear hJw); (try clear hJb); simp only [vp_in_iff, Int32.lt_iff_toInt_lt, Int32.le_iff_toInt_le, ← Int32.toInt_inj, Int32.toInt_add, Int32.toInt_sub, Int32.toInt_mul, Int32.toInt_neg, pq_NuO, pq_NuI, pq_NuJ, pq_NuR, pq_shr6, pq_shr7, pq_shr8, lqm1, lq0, lq1, lq7] at *; (try simp (disch := omega) only [pq_bm] at *); all_goals omega)
          · focus ((try clear hP); (try clear hLk); (try clear hFR); (try clear hTO); (try clear hfb); (try clear ih); (try clear p13); (try clear g28); (try clear hn13); (try clear hy13); (try clear hJw); (try clear hJb); simp only [vp_in_iff, Int32.lt_iff_toInt_lt, Int32.le_iff_toInt_le, ← Int32.toInt_inj, Int32.toInt_add, Int32.toInt_sub, Int32.toInt_mul, Int32.toInt_neg, pq_NuO, pq_NuI, pq_NuJ, pq_NuR, pq_shr6, pq_shr7, pq_shr8, lqm1, lq0, lq1, lq7] at *; (try simp (disch := omega) only [pq_bm] at *); all_goals omega)
          · focus ((try clear hP); (try clear hLk); (try clear hFR); (try clear hTO); (try clear hfb); (try clear ih); (try clear p13); (try clear g28); (try clear hn13); (try clear hy13); (try clear hJw); (try clear hJb); simp only [vp_in_iff, Int32.lt_iff_toInt_lt, Int32.le_iff_toInt_le, ← Int32.toInt_inj, Int32.toInt_add, Int32.toInt_sub, Int32.toInt_mul, Int32.toInt_neg, pq_NuO, pq_NuI, pq_NuJ, pq_NuR, pq_shr6, pq_shr7, pq_shr8, lqm1, lq0, lq1, lq7] at *; (try simp (disch := omega) only [pq_bm] at *); all_goals omega)
          · focus ((try clear hP); (try clear hLk); (try clear hFR); (try clear hTO); (try clear hfb); (try clear ih); (try clear p13); (try clear g28); (try clear hn13); (try clear hy13); (try clear hJw); (try clear hJb); simp only [vp_in_iff, Int32.lt_iff_toInt_lt, Int32.le_iff_toInt_le, ← Int32.toInt_inj, Int32.toInt_add, Int32.toInt_sub, Int32.toInt_mul, Int32.toInt_neg, pq_NuO, pq_NuI, pq_NuJ, pq_NuR, pq_shr6, pq_shr7, pq_shr8, lqm1, lq0, lq1, lq7] at *; (try simp (disch := omega) only [pq_bm] at *); all_goals omega)
          obtain ⟨rfl, f28, rfl, g28⟩ := w28
          refine pq_iinc (v := 1) F dX5_link_31 rfl (by decide) (by decide) ?_
          refine pq_goto (tgt := 2) F dX5_link_34 (by decide) ?_
          exact pq_fgm [true, true, true, true] (ih _ _ (kn + 1) (hF.uJ hfoL (by first | decide | exact List.mem_cons_self)) (fun p q hp => (by simp only [pq_IuO, pq_IuJ, pq_Iu, pq_JuO, pq_JuI, pq_Ju, pq_RuO, pq_RuJ, pq_RuI, if_true, if_false]; by_cases e : p = kn; (subst e; rw [tk_bit.or (r := hJ S1 fo) (r2 := hJ S w) (st := 7 * p) (st2 := 0) (fun w9 hv9 => (by rw [Nat.zero_add, ← hJw]; exact g28.1 w9 hv9)), hLk p q hp]; exact ⟨fun v => v.elim (fun u => u.imp id (fun y => ⟨by omega, y.2⟩)) (fun u => Or.inr ⟨by omega, hy13, u⟩), fun v => v.elim (fun u => Or.inl (Or.inl u)) (fun u => Or.inr u.2.2)⟩); (rw [tk_bit.sm (r := hJ S1 fo) (st := 7 * p) (st' := 7 * p) (fun w9 hv9 => g28.2 _ (by omega)), hLk p q hp]; exact ⟨fun v => v.imp id (fun u => ⟨by have := u.1; omega, u.2⟩), fun v => v.imp id (fun u => ⟨by have := u.1; omega, u.2⟩)⟩))) (by focus ((try clear hP); (try clear hLk); (try clear hFR); (try clear hTO); (try clear hfb); (try clear ih); (try clear p13); (try clear g28); (try clear hn13); (try clear hy13); (try clear hJw); (try clear hJb); simp only [vp_in_iff, Int32.lt_iff_toInt_lt, Int32.le_iff_toInt_le, ← Int32.toInt_inj, Int32.toInt_add, Int32.toInt_sub, Int32.toInt_mul, Int32.toInt_neg, pq_NuO, pq_NuI, pq_NuJ, pq_NuR, pq_shr6, pq_shr7, pq_shr8, lqm1, lq0, lq1, lq7] at *; (try simp (disch := omega) only [pq_bm] at *); all_goals omega)) (by focus ((try clear hP); (try clear hLk); (try clear hFR); (try clear hTO); (try clear hfb); (try clear ih); (try clear p13); (try clear g28); (try clear hn13); (try clear hy13); (try clear hJw); (try clear hJb); simp only [vp_in_iff, Int32.lt_iff_toInt_lt, Int32.le_iff_toInt_le, ← Int32.toInt_inj, Int32.toInt_add, Int32.toInt_sub, Int32.toInt_mul, Int32.toInt_neg, pq_NuO, pq_NuI, pq_NuJ, pq_NuR, pq_shr6, pq_shr7, pq_shr8, lqm1, lq0, lq1, lq7] at *; (try simp (disch := omega) only [pq_bm] at *); all_goals omega)) (by focus ((try clear hP); (try clear hLk); (try clear hFR); (try clear hTO); (try clear hfb); (try clear ih); (try clear p13); (try clear g28); (try clear hn13); (try clear hy13); (try clear hJw); (try clear hJb); simp only [vp_in_iff, Int32.lt_iff_toInt_lt, Int32.le_iff_toInt_le, ← Int32.toInt_inj, Int32.toInt_add, Int32.toInt_sub, Int32.toInt_mul, Int32.toInt_neg, pq_NuO, pq_NuI, pq_NuJ, pq_NuR, pq_shr6, pq_shr7, pq_shr8, lqm1, lq0, lq1, lq7] at *; (try simp (disch := omega) only [pq_bm] at *); all_goals omega)))
  refine pq_iconst (v := 0) F dX5_link_0 (by decide) ?_
  refine pq_istore_n F dX5_link_1 rfl (by decide) ?_
  exact pq_fgm [true, true, true, true] (L2 1000 _ _ 0 pq_Fr.rf (fun p q hp => (by rw [← hP.2.2.2.2.1 p q hp]; exact ⟨Or.inl, fun v => v.elim id (fun u => absurd u.1 (Nat.not_lt_zero _))⟩)) rfl (Nat.zero_le _) (by focus ((try clear hP); (try clear hLk); (try clear hFR); (try clear hTO); (try clear hfb); (try clear ih); (try clear p13); (try clear g28); (try clear hn13); (try clear hy13); (try clear hJw); (try clear hJb); simp only [vp_in_iff, Int32.lt_iff_toInt_lt, Int32.le_iff_toInt_le, ← Int32.toInt_inj, Int32.toInt_add, Int32.toInt_sub, Int32.toInt_mul, Int32.toInt_neg, pq_NuO, pq_NuI, pq_NuJ, pq_NuR, pq_shr6, pq_shr7, pq_shr8, lqm1, lq0, lq1, lq7] at *; (try simp (disch := omega) only [pq_bm] at *); all_goals omega)))

