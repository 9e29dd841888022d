/-- the walk's own fields -/
def tk_Wf (S : HS) (a pl wh se re gl kd ko le sl : Nat) : Prop := (hO S a 0 = .ref pl ∧ pq_R S pl 8) ∧ (hO S pl 2 = .ref wh ∧ pq_R S wh 5) ∧ (hO S a 2 = .ref se ∧ pq_R S se 197) ∧ (hO S a 4 = .ref re ∧ pq_R S re 198) ∧ (hO S a 5 = .ref gl ∧ pq_R S gl 199) ∧ (hO S a 1 = .ref kd ∧ pq_R S kd 6) ∧ (hO S kd 0 = .ref ko ∧ pq_R S ko 156) ∧ (hO S kd 1 = .ref le ∧ pq_R S le 157) ∧ (hO S a 3 = .ref sl ∧ pq_R S sl 166)
section WF
variable {S S1 : HS} {a pl wh se re gl kd ko le sl : Nat}
theorem tk_Wf.epl (h : tk_Wf S a pl wh se re gl kd ko le sl) : hO S a 0 = .ref pl := h.1.1
theorem tk_Wf.rpl (h : tk_Wf S a pl wh se re gl kd ko le sl) : pq_R S pl 8 := h.1.2
theorem tk_Wf.ewh (h : tk_Wf S a pl wh se re gl kd ko le sl) : hO S pl 2 = .ref wh := h.2.1.1
theorem tk_Wf.rwh (h : tk_Wf S a pl wh se re gl kd ko le sl) : pq_R S wh 5 := h.2.1.2
theorem tk_Wf.ese (h : tk_Wf S a pl wh se re gl kd ko le sl) : hO S a 2 = .ref se := h.2.2.1.1
theorem tk_Wf.rse (h : tk_Wf S a pl wh se re gl kd ko le sl) : pq_R S se 197 := h.2.2.1.2
theorem tk_Wf.ere (h : tk_Wf S a pl wh se re gl kd ko le sl) : hO S a 4 = .ref re := h.2.2.2.1.1
theorem tk_Wf.rre (h : tk_Wf S a pl wh se re gl kd ko le sl) : pq_R S re 198 := h.2.2.2.1.2
theorem tk_Wf.egl (h : tk_Wf S a pl wh se re gl kd ko le sl) : hO S a 5 = .ref gl := h.2.2.2.2.1.1
theorem tk_Wf.rgl (h : tk_Wf S a pl wh se re gl kd ko le sl) : pq_R S gl 199 := h.2.2.2.2.1.2
theorem tk_Wf.ekd (h : tk_Wf S a pl wh se re gl kd ko le sl) : hO S a 1 = .ref kd := h.2.2.2.2.2.1.1
theorem tk_Wf.rkd (h : tk_Wf S a pl wh se re gl kd ko le sl) : pq_R S kd 6 := h.2.2.2.2.2.1.2
theorem tk_Wf.eko (h : tk_Wf S a pl wh se re gl kd ko le sl) : hO S kd 0 = .ref ko := h.2.2.2.2.2.2.1.1
theorem tk_Wf.rko (h : tk_Wf S a pl wh se re gl kd ko le sl) : pq_R S ko 156 := h.2.2.2.2.2.2.1.2
theorem tk_Wf.ele (h : tk_Wf S a pl wh se re gl kd ko le sl) : hO S kd 1 = .ref le := h.2.2.2.2.2.2.2.1.1
theorem tk_Wf.rle (h : tk_Wf S a pl wh se re gl kd ko le sl) : pq_R S le 157 := h.2.2.2.2.2.2.2.1.2
theorem tk_Wf.esl (h : tk_Wf S a pl wh se re gl kd ko le sl) : hO S a 3 = .ref sl := h.2.2.2.2.2.2.2.2.1
theorem tk_Wf.rsl (h : tk_Wf S a pl wh se re gl kd ko le sl) : pq_R S sl 166 := h.2.2.2.2.2.2.2.2.2
theorem tk_Wf.fr {M : List (Nat × Nat)} (h : tk_Wf S a pl wh se re gl kd ko le sl) (ha : pq_R S a 11) (hF : pq_Fr M S S1) (hM : ∀ q ∈ [(11, 0), (8, 2), (11, 2), (11, 4), (11, 5), (11, 1), (6, 0), (6, 1), (11, 3)], q ∉ M) : tk_Wf S1 a pl wh se re gl kd ko le sl :=
  ⟨⟨hF.O ha (by decide) (hM _ (by decide)) h.epl, hF.R h.rpl (by decide)⟩, ⟨hF.O h.rpl (by decide) (hM _ (by decide)) h.ewh, hF.R h.rwh (by decide)⟩, ⟨hF.O ha (by decide) (hM _ (by decide)) h.ese, hF.R h.rse (by decide)⟩, ⟨hF.O ha (by decide) (hM _ (by decide)) h.ere, hF.R h.rre (by decide)⟩, ⟨hF.O ha (by decide) (hM _ (by decide)) h.egl, hF.R h.rgl (by decide)⟩, ⟨hF.O ha (by decide) (hM _ (by decide)) h.ekd, hF.R h.rkd (by decide)⟩, ⟨hF.O h.rkd (by decide) (hM _ (by decide)) h.eko, hF.R h.rko (by decide)⟩, ⟨hF.O h.rkd (by decide) (hM _ (by decide)) h.ele, hF.R h.rle (by decide)⟩, ⟨hF.O ha (by decide) (hM _ (by decide)) h.esl, hF.R h.rsl (by decide)⟩⟩
end WF

/-- the places that may come next -/
def tk_re (z : tr_Z) (se : Nat → Int64) (t : Nat) : tz_S := fun q => if t = 1 then z.2.2.1.1 q else ∃ p, tk_X se t p ∧ z.2.2.2 p q
theorem tk_cs.re {z : tr_Z} {se : Nat → Int64} {t b q : Nat} (h1 : 1 ≤ t) : tk_cs z se t b q ↔ tk_re z se t q ∧ tr_in (z.2.1 q) b := by
  unfold tk_re
  by_cases e : t = 1
  · rw [e, tk_cs1, if_pos rfl]; exact Iff.rfl
  · rw [tk_cs2 (by omega), if_neg e]
    exact ⟨fun ⟨p, w⟩ => ⟨⟨p, w.1, w.2.1⟩, w.2.2⟩, fun ⟨⟨p, w⟩, v⟩ => ⟨p, w.1, w.2, v⟩⟩
theorem tk_or0 {x y : Int64} : x ||| y = 0 ↔ x = 0 ∧ y = 0 := by
  constructor
  · intro h
    have k : ∀ i, ¬ (tr_bt x i ∨ tr_bt y i) := fun i w => tr_bt.z (i := i) (by rw [← h]; exact tr_bt.or.mpr w)
    exact ⟨tr_bt.ext (fun i _ => ⟨fun w => absurd (Or.inl w) (k i), fun w => absurd w tr_bt.z⟩), tr_bt.ext (fun i _ => ⟨fun w => absurd (Or.inr w) (k i), fun w => absurd w tr_bt.z⟩)⟩
  · rintro ⟨a, b⟩
    rw [a, b]; rfl
/-- a goal without places: all its words are 0 -/
theorem tk_B00 {g : Nat → Int64} : (∀ w, w < 7 → g w = 0) ↔ ∀ q, ¬ tk_B0 g q := by
  constructor
  · intro h q w
    exact tk_bit.z (r := g) (st := 0) (fun w hw => by rw [Nat.zero_add]; exact h w hw) w
  · intro h w hw
    have := tk_bit.ext (r := fun _ => 0) (r' := g) (st := 0) (st' := 0) (fun q => ⟨fun v => absurd v (h q), fun v => absurd v (tk_bit.z (fun _ _ => rfl))⟩) w hw
    rwa [Nat.zero_add] at this
theorem tk_and0 {x y : Int64} : x &&& y ≠ 0 ↔ ∃ i, i < 64 ∧ tr_bt x i ∧ tr_bt y i := by
  constructor
  · intro h
    refine Classical.byContradiction (fun w => h (tr_bt.ext (fun i hi => ⟨fun v => ?_, fun v => absurd v tr_bt.z⟩)))
    have := tr_bt.and.mp v
    exact absurd ⟨i, hi, this⟩ w
  · rintro ⟨i, hi, a, b⟩ e
    exact tr_bt.z (i := i) (by rw [← e]; exact tr_bt.and.mpr ⟨a, b⟩)

set_option maxHeartbeats 4000000 in
set_option maxRecDepth 100000 in
theorem k_X8_addFollowersG (l : Launch) (D : va_G) (cy : Nat → ClassId) (S : HS) (a : Nat) (ha : pq_R S a 11) (pp : Int32) (hpp0 : 0 ≤ pp.toInt) (hpp1 : pp.toInt ≤ 399) (pl fo re pn : Nat) (ep : hO S a 0 = .ref pl) (hpl : pq_R S pl 8) (efo : hO S pl 1 = .ref fo) (hfo : pq_R S fo 195) (ere : hO S a 4 = .ref re) (hre : pq_R S re 198) (hpn : pp.toInt = (pn : Int)) : pq_C l D cy yX8_addFollowers cX8_addFollowers 3 (none) 1 0 0 S [.ref a, .int pp] (fun v S2 => v = none ∧ ∃ f : Nat → Int64, S2 = pq_uJ S re f ∧ (∀ w, w < 7 → f w = hJ S re w ||| hJ S fo (7 * pn + w))) := by
  refine pq_start (by decide) (Nat.le_of_ble_eq_true rfl) ?_
  intro p e s m args below meth c A F hr hlk hnm hA
  have lqm1 : (-1 : Int32).toInt = -1 := rfl
  have lq0 : (0 : Int32).toInt = 0 := rfl
  have lq1 : (1 : Int32).toInt = 1 := rfl
  have lq7 : (7 : Int32).toInt = 7 := rfl
  have nfr := pq_nrole hfo hre (by decide)
  refine pq_lenF hfo (by decide) rfl (fun lf1 lf2 => ?_)
  refine pq_lenF hre (by decide) rfl (fun lr1 lr2 => ?_)
  have L2 : ∀  (fu : Nat) (S1 : HS) (k : Int32)  (hF : ∃ f : Nat → Int64, S1 = pq_uJ S re f ∧ (∀ w : Nat, (w : Int) < k.toInt → f w = hJ S re w ||| hJ S fo (7 * pn + w)) ∧ (∀ w : Nat, k.toInt ≤ (w : Int) → f w = hJ S re w)) (hk0 : 0 ≤ k.toInt) (hk1 : k.toInt ≤ 7), (7 - k.toInt).toNat < fu → pq_At p l e (pq_rm 1 0 0) s m args below meth c (pq_Z below args s D cy S 0 0 (fun v S2 => v = none ∧ ∃ f : Nat → Int64, S2 = pq_uJ S re f ∧ (∀ w, w < 7 → f w = hJ S re w ||| hJ S fo (7 * pn + w)))) D cy A 3 0 0 2 S1 [some (.ref a), some (.int pp), some (.int k)] [] := by
    intro  fu
    induction fu with
    | zero => intro S1 k hF hk0 hk1 hm; exact absurd hm (Nat.not_lt_zero _)
    | succ fu ih =>
      intro S1 k hF hk0 hk1 hm
      obtain ⟨f0, rfl, hf1, hf2⟩ := hF
      have ck := pq_cl hk0
      have ix9 : (pp * 7 + k).toNatClampNeg = 7 * pn + k.toNatClampNeg := (by have w := pq_cl (x := pp * 7 + k) (by focus ((try clear hf1); (try clear hf2); simp only [vp_in_iff, Int32.lt_iff_toInt_lt, Int32.le_iff_toInt_le, ← Int32.toInt_inj, Int32.toInt_add, Int32.toInt_sub, Int32.toInt_mul, Int32.toInt_neg, pq_NuO, pq_NuI, pq_NuJ, pq_NuR, pq_shr6, pq_shr7, pq_shr8, lqm1, lq0, lq1, lq7] at *; (try simp (disch := omega) only [pq_bm] at *); all_goals omega)); focus ((try clear hf1); (try clear hf2); simp only [vp_in_iff, Int32.lt_iff_toInt_lt, Int32.le_iff_toInt_le, ← Int32.toInt_inj, Int32.toInt_add, Int32.toInt_sub, Int32.toInt_mul, Int32.toInt_neg, pq_NuO, pq_NuI, pq_NuJ, pq_NuR, pq_shr6, pq_shr7, pq_shr8, lqm1, lq0, lq1, lq7] at *; (try simp (disch := omega) only [pq_bm] at *); all_goals omega))
      have hfL : pq_R (pq_uJ S re f0) fo 195 := hfo
      have hrL : pq_R (pq_uJ S re f0) re 198 := hre
      have haL := ha
      refine pq_iload_n F dX8_addFollowers_2 rfl rfl ?_
      refine pq_bipush (v := 7) F dX8_addFollowers_3 (by decide) ?_
      refine pq_icmp_ge (tgt := 37) F dX8_addFollowers_5 (by decide) (fun c5 => ?_) (fun c5 => ?_)
      · skip
        exact pq_vret F hr hlk hA (Nat.le_refl _) (Nat.le_refl _) (⟨rfl, _, rfl, (fun w hv9 => hf1 w (by focus ((try clear hf1); (try clear hf2); simp only [vp_in_iff, Int32.lt_iff_toInt_lt, Int32.le_iff_toInt_le, ← Int32.toInt_inj, Int32.toInt_add, Int32.toInt_sub, Int32.toInt_mul, Int32.toInt_neg, pq_NuO, pq_NuI, pq_NuJ, pq_NuR, pq_shr6, pq_shr7, pq_shr8, lqm1, lq0, lq1, lq7] at *; (try simp (disch := omega) only [pq_bm] at *); all_goals omega)))⟩) dX8_addFollowers_37
      · skip
        refine pq_aload_n F dX8_addFollowers_8 rfl rfl ?_
        refine pq_get F haL (by decide) lk_X8_26 ere dX8_addFollowers_9 ?_
        refine pq_iload_n F dX8_addFollowers_12 rfl rfl ?_
        refine pq_dup2 F dX8_addFollowers_13 rfl rfl ?_
        refine pq_lald F hrL (by decide) (by decide) rfl (fun n1_14 n2_14 => (by focus ((try clear hf1); (try clear hf2); simp only [vp_in_iff, Int32.lt_iff_toInt_lt, Int32.le_iff_toInt_le, ← Int32.toInt_inj, Int32.toInt_add, Int32.toInt_sub, Int32.toInt_mul, Int32.toInt_neg, pq_NuO, pq_NuI, pq_NuJ, pq_NuR, pq_shr6, pq_shr7, pq_shr8, lqm1, lq0, lq1, lq7] at *; (try simp (disch := omega) only [pq_bm] at *); all_goals omega))) dX8_addFollowers_14 (fun x14 e14 => ?_)
        refine pq_aload_n F dX8_addFollowers_15 rfl rfl ?_
        refine pq_get F haL (by decide) lk_X8_35 ep dX8_addFollowers_16 ?_
        refine pq_get F hpl (by decide) lk_X8_109 efo dX8_addFollowers_19 ?_
        refine pq_iload_n F dX8_addFollowers_22 rfl rfl ?_
        refine pq_bipush (v := 7) F dX8_addFollowers_23 (by decide) ?_
        refine pq_imul F dX8_addFollowers_25 ?_
        refine pq_iload_n F dX8_addFollowers_26 rfl rfl ?_
        refine pq_iadd F dX8_addFollowers_27 ?_
        refine pq_lald F hfL (by decide) (by decide) rfl (fun n1_28 n2_28 => (by focus ((try clear hf1); (try clear hf2); simp only [vp_in_iff, Int32.lt_iff_toInt_lt, Int32.le_iff_toInt_le, ← Int32.toInt_inj, Int32.toInt_add, Int32.toInt_sub, Int32.toInt_mul, Int32.toInt_neg, pq_NuO, pq_NuI, pq_NuJ, pq_NuR, pq_shr6, pq_shr7, pq_shr8, lqm1, lq0, lq1, lq7] at *; (try simp (disch := omega) only [pq_bm] at *); all_goals omega))) dX8_addFollowers_28 (fun x28 e28 => ?_)
        refine pq_lor F dX8_addFollowers_29 ?_
        refine pq_last F hrL (by decide) (by decide) rfl (fun n1_30 n2_30 => (by focus ((try clear hf1); (try clear hf2); simp only [vp_in_iff, Int32.lt_iff_toInt_lt, Int32.le_iff_toInt_le, ← Int32.toInt_inj, Int32.toInt_add, Int32.toInt_sub, Int32.toInt_mul, Int32.toInt_neg, pq_NuO, pq_NuI, pq_NuJ, pq_NuR, pq_shr6, pq_shr7, pq_shr8, lqm1, lq0, lq1, lq7] at *; (try simp (disch := omega) only [pq_bm] at *); all_goals omega))) dX8_addFollowers_30 ?_
        refine pq_iinc (v := 1) F dX8_addFollowers_31 rfl (by decide) (by decide) ?_
        refine pq_goto (tgt := 2) F dX8_addFollowers_34 (by decide) ?_
        exact pq_fgm [true, true, true] (ih _ _ ⟨_, pq_uJJ, (fun w hv9 => (by by_cases e : w = k.toNatClampNeg; (rw [e, pk_uLs, e14, e28, ix9, pq_Ja, pq_Jb2 nfr, hf2 _ (by omega)]); (rw [pk_uLn e, pq_Ja]; exact hf1 w (by focus ((try clear hf1); (try clear hf2); simp only [vp_in_iff, Int32.lt_iff_toInt_lt, Int32.le_iff_toInt_le, ← Int32.toInt_inj, Int32.toInt_add, Int32.toInt_sub, Int32.toInt_mul, Int32.toInt_neg, pq_NuO, pq_NuI, pq_NuJ, pq_NuR, pq_shr6, pq_shr7, pq_shr8, lqm1, lq0, lq1, lq7] at *; (try simp (disch := omega) only [pq_bm] at *); all_goals omega))))), (fun w hv9 => (by rw [pk_uLn (by focus ((try clear hf1); (try clear hf2); simp only [vp_in_iff, Int32.lt_iff_toInt_lt, Int32.le_iff_toInt_le, ← Int32.toInt_inj, Int32.toInt_add, Int32.toInt_sub, Int32.toInt_mul, Int32.toInt_neg, pq_NuO, pq_NuI, pq_NuJ, pq_NuR, pq_shr6, pq_shr7, pq_shr8, lqm1, lq0, lq1, lq7] at *; (try simp (disch := omega) only [pq_bm] at *); all_goals omega)), pq_Ja]; exact hf2 w (by focus ((try clear hf1); (try clear hf2); simp only [vp_in_iff, Int32.lt_iff_toInt_lt, Int32.le_iff_toInt_le, ← Int32.toInt_inj, Int32.toInt_add, Int32.toInt_sub, Int32.toInt_mul, Int32.toInt_neg, pq_NuO, pq_NuI, pq_NuJ, pq_NuR, pq_shr6, pq_shr7, pq_shr8, lqm1, lq0, lq1, lq7] at *; (try simp (disch := omega) only [pq_bm] at *); all_goals omega))))⟩ (by focus ((try clear hf1); (try clear hf2); simp only [vp_in_iff, Int32.lt_iff_toInt_lt, Int32.le_iff_toInt_le, ← Int32.toInt_inj, Int32.toInt_add, Int32.toInt_sub, Int32.toInt_mul, Int32.toInt_neg, pq_NuO, pq_NuI, pq_NuJ, pq_NuR, pq_shr6, pq_shr7, pq_shr8, lqm1, lq0, lq1, lq7] at *; (try simp (disch := omega) only [pq_bm] at *); all_goals omega)) (by focus ((try clear hf1); (try clear hf2); simp only [vp_in_iff, Int32.lt_iff_toInt_lt, Int32.le_iff_toInt_le, ← Int32.toInt_inj, Int32.toInt_add, Int32.toInt_sub, Int32.toInt_mul, Int32.toInt_neg, pq_NuO, pq_NuI, pq_NuJ, pq_NuR, pq_shr6, pq_shr7, pq_shr8, lqm1, lq0, lq1, lq7] at *; (try simp (disch := omega) only [pq_bm] at *); all_goals omega)) (by focus ((try clear hf1); (try clear hf2); simp only [vp_in_iff, Int32.lt_iff_toInt_lt, Int32.le_iff_toInt_le, ← Int32.toInt_inj, Int32.toInt_add, Int32.toInt_sub, Int32.toInt_mul, Int32.toInt_neg, pq_NuO, pq_NuI, pq_NuJ, pq_NuR, pq_shr6, pq_shr7, pq_shr8, lqm1, lq0, lq1, lq7] at *; (try simp (disch := omega) only [pq_bm] at *); all_goals omega)))
  refine pq_iconst (v := 0) F dX8_addFollowers_0 (by decide) ?_
  refine pq_istore_n F dX8_addFollowers_1 rfl (by decide) ?_
  exact pq_fgm [true, true, true] (L2 100 _ _ ⟨_, pq_uJs, (fun w hv9 => absurd hv9 (by focus ((try clear hf1); (try clear hf2); simp only [vp_in_iff, Int32.lt_iff_toInt_lt, Int32.le_iff_toInt_le, ← Int32.toInt_inj, Int32.toInt_add, Int32.toInt_sub, Int32.toInt_mul, Int32.toInt_neg, pq_NuO, pq_NuI, pq_NuJ, pq_NuR, pq_shr6, pq_shr7, pq_shr8, lqm1, lq0, lq1, lq7] at *; (try simp (disch := omega) only [pq_bm] at *); all_goals omega))), (fun _ _ => rfl)⟩ (by focus ((try clear hf1); (try clear hf2); simp only [vp_in_iff, Int32.lt_iff_toInt_lt, Int32.le_iff_toInt_le, ← Int32.toInt_inj, Int32.toInt_add, Int32.toInt_sub, Int32.toInt_mul, Int32.toInt_neg, pq_NuO, pq_NuI, pq_NuJ, pq_NuR, pq_shr6, pq_shr7, pq_shr8, lqm1, lq0, lq1, lq7] at *; (try simp (disch := omega) only [pq_bm] at *); all_goals omega)) (by focus ((try clear hf1); (try clear hf2); simp only [vp_in_iff, Int32.lt_iff_toInt_lt, Int32.le_iff_toInt_le, ← Int32.toInt_inj, Int32.toInt_add, Int32.toInt_sub, Int32.toInt_mul, Int32.toInt_neg, pq_NuO, pq_NuI, pq_NuJ, pq_NuR, pq_shr6, pq_shr7, pq_shr8, lqm1, lq0, lq1, lq7] at *; (try simp (disch := omega) only [pq_bm] at *); all_goals omega)) (by focus ((try clear hf1); (try clear hf2); simp only [vp_in_iff, Int32.lt_iff_toInt_lt, Int32.le_iff_toInt_le, ← Int32.toInt_inj, Int32.toInt_add, Int32.toInt_sub, Int32.toInt_mul, Int32.toInt_neg, pq_NuO, pq_NuI, pq_NuJ, pq_NuR, pq_shr6, pq_shr7, pq_shr8, lqm1, lq0, lq1, lq7] at *; (try simp (disch := omega) only [pq_bm] at *); all_goals omega)))

