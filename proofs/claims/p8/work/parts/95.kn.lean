/-- the walk's own fields -/
def tk_Wf (S : HS) (a pl wh se re gl kd ko le sl : Nat) : Prop := (hO S a 0 = .ref pl ∧ pq_R S pl 8) ∧ (hO S pl 2 = .ref wh ∧ pq_R S wh 5) ∧ (hO S a 2 = .ref se ∧ pq_R S se 197) ∧ (hO S a 4 = .ref re ∧ pq_R S re 198) ∧ (hO S a 5 = .ref gl ∧ pq_R S gl 199) ∧ (hO S a 1 = .ref kd ∧ pq_R S kd 6) ∧ (hO S kd 0 = .ref ko ∧ pq_R S ko 156) ∧ (hO S kd 1 = .ref le ∧ pq_R S le 157) ∧ (hO S a 3 = .ref sl ∧ pq_R S sl 166)
section WF
variable {S S1 : HS} {a pl wh se re gl kd ko le sl : Nat}
theorem tk_Wf.epl (h : tk_Wf S a pl wh se re gl kd ko le sl) : hO S a 0 = .ref pl := h.1.1
theorem tk_Wf.rpl (h : tk_Wf S a pl wh se re gl kd ko le sl) : pq_R S pl 8 := h.1.2
theorem tk_Wf.ewh (h : tk_Wf S a pl wh se re gl kd ko le sl) : hO S pl 2 = .ref wh := h.2.1.1
theorem tk_Wf.rwh (h : tk_Wf S a pl wh se re gl kd ko le sl) : pq_R S wh 5 := h.2.1.2
theorem tk_Wf.ese (h : tk_Wf S a pl wh se re gl kd ko le sl) : hO S a 2 = .ref se := h.2.2.1.1
theorem tk_Wf.rse (h : tk_Wf S a pl wh se re gl kd ko le sl) : pq_R S se 197 := h.2.2.1.2
theorem tk_Wf.ere (h : tk_Wf S a pl wh se re gl kd ko le sl) : hO S a 4 = .ref re := h.2.2.2.1.1
theorem tk_Wf.rre (h : tk_Wf S a pl wh se re gl kd ko le sl) : pq_R S re 198 := h.2.2.2.1.2
theorem tk_Wf.egl (h : tk_Wf S a pl wh se re gl kd ko le sl) : hO S a 5 = .ref gl := h.2.2.2.2.1.1
theorem tk_Wf.rgl (h : tk_Wf S a pl wh se re gl kd ko le sl) : pq_R S gl 199 := h.2.2.2.2.1.2
theorem tk_Wf.ekd (h : tk_Wf S a pl wh se re gl kd ko le sl) : hO S a 1 = .ref kd := h.2.2.2.2.2.1.1
theorem tk_Wf.rkd (h : tk_Wf S a pl wh se re gl kd ko le sl) : pq_R S kd 6 := h.2.2.2.2.2.1.2
theorem tk_Wf.eko (h : tk_Wf S a pl wh se re gl kd ko le sl) : hO S kd 0 = .ref ko := h.2.2.2.2.2.2.1.1
theorem tk_Wf.rko (h : tk_Wf S a pl wh se re gl kd ko le sl) : pq_R S ko 156 := h.2.2.2.2.2.2.1.2
theorem tk_Wf.ele (h : tk_Wf S a pl wh se re gl kd ko le sl) : hO S kd 1 = .ref le := h.2.2.2.2.2.2.2.1.1
theorem tk_Wf.rle (h : tk_Wf S a pl wh se re gl kd ko le sl) : pq_R S le 157 := h.2.2.2.2.2.2.2.1.2
theorem tk_Wf.esl (h : tk_Wf S a pl wh se re gl kd ko le sl) : hO S a 3 = .ref sl := h.2.2.2.2.2.2.2.2.1
theorem tk_Wf.rsl (h : tk_Wf S a pl wh se re gl kd ko le sl) : pq_R S sl 166 := h.2.2.2.2.2.2.2.2.2
theorem tk_Wf.fr {M : List (Nat × Nat)} (h : tk_Wf S a pl wh se re gl kd ko le sl) (ha : pq_R S a 11) (hF : pq_Fr M S S1) (hM : ∀ q ∈ [(11, 0), (8, 2), (11, 2), (11, 4), (11, 5), (11, 1), (6, 0), (6, 1), (11, 3)], q ∉ M) : tk_Wf S1 a pl wh se re gl kd ko le sl :=
  ⟨⟨hF.O ha (by decide) (hM _ (by decide)) h.epl, hF.R h.rpl (by decide)⟩, ⟨hF.O h.rpl (by decide) (hM _ (by decide)) h.ewh, hF.R h.rwh (by decide)⟩, ⟨hF.O ha (by decide) (hM _ (by decide)) h.ese, hF.R h.rse (by decide)⟩, ⟨hF.O ha (by decide) (hM _ (by decide)) h.ere, hF.R h.rre (by decide)⟩, ⟨hF.O ha (by decide) (hM _ (by decide)) h.egl, hF.R h.rgl (by decide)⟩, ⟨hF.O ha (by decide) (hM _ (by decide)) h.ekd, hF.R h.rkd (by decide)⟩, ⟨hF.O h.rkd (by decide) (hM _ (by decide)) h.eko, hF.R h.rko (by decide)⟩, ⟨hF.O h.rkd (by decide) (hM _ (by decide)) h.ele, hF.R h.rle (by decide)⟩, ⟨hF.O ha (by decide) (hM _ (by decide)) h.esl, hF.R h.rsl (by decide)⟩⟩
end WF

/-- the places that may come next -/
def tk_re (z : tr_Z) (se : Nat → Int64) (t : Nat) : tz_S := fun q => if t = 1 then z.2.2.1.1 q else ∃ p, tk_X se t p ∧ z.2.2.2 p q
theorem tk_cs.re {z : tr_Z} {se : Nat → Int64} {t b q : Nat} (h1 : 1 ≤ t) : tk_cs z se t b q ↔ tk_re z se t q ∧ tr_in (z.2.1 q) b := by
  unfold tk_re
  by_cases e : t = 1
  · rw [e, tk_cs1, if_pos rfl]; exact Iff.rfl
  · rw [tk_cs2 (by omega), if_neg e]
    exact ⟨fun ⟨p, w⟩ => ⟨⟨p, w.1, w.2.1⟩, w.2.2⟩, fun ⟨⟨p, w⟩, v⟩ => ⟨p, w.1, w.2, v⟩⟩
theorem tk_or0 {x y : Int64} : x ||| y = 0 ↔ x = 0 ∧ y = 0 := by
  constructor
  · intro h
    have k : ∀ i, ¬ (tr_bt x i ∨ tr_bt y i) := fun i w => tr_bt.z (i := i) (by rw [← h]; exact tr_bt.or.mpr w)
    exact ⟨tr_bt.ext (fun i _ => ⟨fun w => absurd (Or.inl w) (k i), fun w => absurd w tr_bt.z⟩), tr_bt.ext (fun i _ => ⟨fun w => absurd (Or.inr w) (k i), fun w => absurd w tr_bt.z⟩)⟩
  · rintro ⟨a, b⟩
    rw [a, b]; rfl
/-- a goal without places: all its words are 0 -/
theorem tk_B00 {g : Nat → Int64} : (∀ w, w < 7 → g w = 0) ↔ ∀ q, ¬ tk_B0 g q := by
  constructor
  · intro h q w
    exact tk_bit.z (r := g) (st := 0) (fun w hw => by rw [Nat.zero_add]; exact h w hw) w
  · intro h w hw
    have := tk_bit.ext (r := fun _ => 0) (r' := g) (st := 0) (st' := 0) (fun q => ⟨fun v => absurd v (h q), fun v => absurd v (tk_bit.z (fun _ _ => rfl))⟩) w hw
    rwa [Nat.zero_add] at this
theorem tk_and0 {x y : Int64} : x &&& y ≠ 0 ↔ ∃ i, i < 64 ∧ tr_bt x i ∧ tr_bt y i := by
  constructor
  · intro h
    refine Classical.byContradiction (fun w => h (tr_bt.ext (fun i hi => ⟨fun v => ?_, fun v => absurd v tr_bt.z⟩)))
    have := tr_bt.and.mp v
    exact absurd ⟨i, hi, this⟩ w
  · rintro ⟨i, hi, a, b⟩ e
    exact tr_bt.z (i := i) (by rw [← e]; exact tr_bt.and.mpr ⟨a, b⟩)

set_option maxHeartbeats 4000000 in
set_option maxRecDepth 100000 in
theorem k_X8_addFollowersG (l : Launch) (D : va_G) (cy : Nat → ClassId) (S : HS) (a : Nat) (ha : pq_R S a 11) (pp : Int32) (hpp0 : 0 ≤ pp.toInt) (hpp1 : pp.toInt ≤ 399) (pl fo re pn : Nat) (ep : hO S a 0 = .ref pl) (hpl : pq_R S pl 8) (efo : hO S pl 1 = .ref fo) (hfo : pq_R S fo 195) (ere : hO S a 4 = .ref re) (hre : pq_R S re 198) (hpn : pp.toInt = (pn : Int)) : pq_C l D cy yX8_addFollowers cX8_addFollowers 3 (none) 1 0 0 S [.ref a, .int pp] (fun v S2 => v = none ∧ ∃ f : Nat → Int64, S2 = pq_uJ S re f ∧ (∀ w, w < 7 → f w = hJ S re w ||| hJ S fo (7 * pn + w))) := by
  refine pq_start (by decide) (Nat.le_of_ble_eq_true rfl) ?_
  intro p e s m args below meth c A F hr hlk hnm hA
  have lqm1 : (-1 : Int32).toInt = -1 := rfl
  have lq0 : (0 : Int32).toInt = 0 := rfl
  have lq1 : (1 : Int32).toInt = 1 := rfl
  have lq7 : (7 : Int32).toInt = 7 := rfl
  have nfr := pq_nrole hfo hre (by decide)
  refine pq_lenF hfo (by decide) rfl (fun lf1 lf2 => ?_)
  refine pq_lenF hre (by decide) rfl (fun lr1 lr2 => ?_)
  have L2 : ∀  (fu : Nat) (S1 : HS) (k : Int32)  (hF : ∃ f : Nat → Int64, S1 = pq_uJ S re f ∧ (∀ w : Nat, (w : Int) < k.toInt → f w = hJ S re w ||| hJ S fo (7 * pn + w)) ∧ (∀ w : Nat, k.toInt ≤ (w : Int) → f w = hJ S re w)) (hk0 : 0 ≤ k.toInt) (hk1 : k.toInt ≤ 7), (7 - k.toInt).toNat < fu → pq_At p l e (pq_rm 1 0 0) s m args below meth c (pq_Z below args s D cy S 0 0 (fun v S2 => v = none ∧ ∃ f : Nat → Int64, S2 = pq_uJ S re f ∧ (∀ w, w < 7 → f w = hJ S re w ||| hJ S fo (7 * pn + w)))) D cy A 3 0 0 2 S1 [some (.ref a), some (.int pp), some (.int k)] [] := by
    intro  fu
    induction fu with
    | zero => intro S1 k hF hk0 hk1 hm; exact absurd hm (Nat.not_lt_zero _)
    | succ fu ih =>
      intro S1 k hF hk0 hk1 hm
      obtain ⟨f0, rfl, hf1, hf2⟩ := hF
      have ck := pq_cl hk0
      have ix9 : (pp * 7 + k).toNatClampNeg = 7 * pn + k.toNatClampNeg := (by have w := pq_cl (x := pp * 7 + k) (by focus ((try clear hf1); (try clear hf2); simp only [vp_in_iff, Int32.lt_iff_toInt_lt, Int32.le_iff_toInt_le, ← Int32.toInt_inj, Int32.toInt_add, Int32.toInt_sub, Int32.toInt_mul, Int32.toInt_neg, pq_NuO, pq_NuI, pq_NuJ, pq_NuR, pq_shr6, pq_shr7, pq_shr8, lqm1, lq0, lq1, lq7] at *; (try simp (disch := omega) only [pq_bm] at *); all_goals omega)); focus ((try clear hf1); (try clear hf2); simp only [vp_in_iff, Int32.lt_iff_toInt_lt, Int32.le_iff_toInt_le, ← Int32.toInt_inj, Int32.toInt_add, Int32.toInt_sub, Int32.toInt_mul, Int32.toInt_neg, pq_NuO, pq_NuI, pq_NuJ, pq_NuR, pq_shr6, pq_shr7, pq_shr8, lqm1, lq0, lq1, lq7] at *; (try simp (disch := omega) only [pq_bm] at *); all_goals omega))
      have hfL : pq_R (pq_uJ S re f0) fo 195 := hfo
      have hrL : pq_R (pq_uJ S re f0) re 198 := hre
      have haL := ha
      refine pq_iload_n F dX8_addFollowers_2 rfl rfl ?_
      refine pq_bipush (v := 7) F dX8_addFollowers_3 (by decide) ?_
      refine pq_icmp_ge (tgt := 37) F dX8_addFollowers_5 (by decide) (fun c5 => ?_) (fun c5 => ?_)
      · skip
        exact pq_vret F hr hlk hA (Nat.le_refl _) (Nat.le_refl _) (⟨rfl, _, rfl, (fun w hv9 => hf1 w (by focus ((try clear hf1); (try clear hf2); simp only [vp_in_iff, Int32.lt_iff_toInt_lt, Int32.le_iff_toInt_le, ← Int32.toInt_inj, Int32.toInt_add, Int32.toInt_sub, Int32.toInt_mul, Int32.toInt_neg, pq_NuO, pq_NuI, pq_NuJ, pq_NuR, pq_shr6, pq_shr7, pq_shr8, lqm1, lq0, lq1, lq7] at *; (try simp (disch := omega) only [pq_bm] at *); all_goals omega)))⟩) dX8_addFollowers_37
      · skip
        refine pq_aload_n F dX8_addFollowers_8 rfl rfl ?_
        refine pq_get F haL (by decide) lk_X8_26 ere dX8_addFollowers_9 ?_
        refine pq_iload_n F dX8_addFollowers_12 rfl rfl ?_
        refine pq_dup2 F dX8_addFollowers_13 rfl rfl ?_
        refine pq_lald F hrL (by decide) (by decide) rfl (fun n1_14 n2_14 => (by focus ((try clear hf1); (try clear hf2); simp only [vp_in_iff, Int32.lt_iff_toInt_lt, Int32.le_iff_toInt_le, ← Int32.toInt_inj, Int32.toInt_add, Int32.toInt_sub, Int32.toInt_mul, Int32.toInt_neg, pq_NuO, pq_NuI, pq_NuJ, pq_NuR, pq_shr6, pq_shr7, pq_shr8, lqm1, lq0, lq1, lq7] at *; (try simp (disch := omega) only [pq_bm] at *); all_goals omega))) dX8_addFollowers_14 (fun x14 e14 => ?_)
        refine pq_aload_n F dX8_addFollowers_15 rfl rfl ?_
        refine pq_get F haL (by decide) lk_X8_35 ep dX8_addFollowers_16 ?_
        refine pq_get F hpl (by decide) lk_X8_109 efo dX8_addFollowers_19 ?_
        refine pq_iload_n F dX8_addFollowers_22 rfl rfl ?_
        refine pq_bipush (v := 7) F dX8_addFollowers_23 (by decide) ?_
        refine pq_imul F dX8_addFollowers_25 ?_
        refine pq_iload_n F dX8_addFollowers_26 rfl rfl ?_
        refine pq_iadd F dX8_addFollowers_27 ?_
        refine pq_lald F hfL (by decide) (by decide) rfl (fun n1_28 n2_28 => (by focus ((try clear hf1); (try clear hf2); simp only [vp_in_iff, Int32.lt_iff_toInt_lt, Int32.le_iff_toInt_le, ← Int32.toInt_inj, Int32.toInt_add, Int32.toInt_sub, Int32.toInt_mul, Int32.toInt_neg, pq_NuO, pq_NuI, pq_NuJ, pq_NuR, pq_shr6, pq_shr7, pq_shr8, lqm1, lq0, lq1, lq7] at *; (try simp (disch := omega) only [pq_bm] at *); all_goals omega))) dX8_addFollowers_28 (fun x28 e28 => ?_)
        refine pq_lor F dX8_addFollowers_29 ?_
        refine pq_last F hrL (by decide) (by decide) rfl (fun n1_30 n2_30 => (by focus ((try clear hf1); (try clear hf2); simp only [vp_in_iff, Int32.lt_iff_toInt_lt, Int32.le_iff_toInt_le, ← Int32.toInt_inj, Int32.toInt_add, Int32.toInt_sub, Int32.toInt_mul, Int32.toInt_neg, pq_NuO, pq_NuI, pq_NuJ, pq_NuR, pq_shr6, pq_shr7, pq_shr8, lqm1, lq0, lq1, lq7] at *; (try simp (disch := omega) only [pq_bm] at *); all_goals omega))) dX8_addFollowers_30 ?_
        refine pq_iinc (v := 1) F dX8_addFollowers_31 rfl (by decide) (by decide) ?_
        refine pq_goto (tgt := 2) F dX8_addFollowers_34 (by decide) ?_
        exact pq_fgm [true, true, true] (ih _ _ ⟨_, pq_uJJ, (fun w hv9 => (by by_cases e : w = k.toNatClampNeg; (rw [e, pk_uLs, e14, e28, ix9, pq_Ja, pq_Jb2 nfr, hf2 _ (by omega)]); (rw [pk_uLn e, pq_Ja]; exact hf1 w (by focus ((try clear hf1); (try clear hf2); simp only [vp_in_iff, Int32.lt_iff_toInt_lt, Int32.le_iff_toInt_le, ← Int32.toInt_inj, Int32.toInt_add, Int32.toInt_sub, Int32.toInt_mul, Int32.toInt_neg, pq_NuO, pq_NuI, pq_NuJ, pq_NuR, pq_shr6, pq_shr7, pq_shr8, lqm1, lq0, lq1, lq7] at *; (try simp (disch := omega) only [pq_bm] at *); all_goals omega))))), (fun w hv9 => (by rw [pk_uLn (by focus ((try clear hf1); (try clear hf2); simp only [vp_in_iff, Int32.lt_iff_toInt_lt, Int32.le_iff_toInt_le, ← Int32.toInt_inj, Int32.toInt_add, Int32.toInt_sub, Int32.toInt_mul, Int32.toInt_neg, pq_NuO, pq_NuI, pq_NuJ, pq_NuR, pq_shr6, pq_shr7, pq_shr8, lqm1, lq0, lq1, lq7] at *; (try simp (disch := omega) only [pq_bm] at *); all_goals omega)), pq_Ja]; exact hf2 w (by focus ((try clear hf1); (try clear hf2); simp only [vp_in_iff, Int32.lt_iff_toInt_lt, Int32.le_iff_toInt_le, ← Int32.toInt_inj, Int32.toInt_add, Int32.toInt_sub, Int32.toInt_mul, Int32.toInt_neg, pq_NuO, pq_NuI, pq_NuJ, pq_NuR, pq_shr6, pq_shr7, pq_shr8, lqm1, lq0, lq1, lq7] at *; (try simp (disch := omega) only [pq_bm] at *); all_goals omega))))⟩ (by focus ((try clear hf1); (try clear hf2); simp only [vp_in_iff, Int32.lt_iff_toInt_lt, Int32.le_iff_toInt_le, ← Int32.toInt_inj, Int32.toInt_add, Int32.toInt_sub, Int32.toInt_mul, Int32.toInt_neg, pq_NuO, pq_NuI, pq_NuJ, pq_NuR, pq_shr6, pq_shr7, pq_shr8, lqm1, lq0, lq1, lq7] at *; (try simp (disch := omega) only [pq_bm] at *); all_goals omega)) (by focus ((try clear hf1); (try clear hf2); simp only [vp_in_iff, Int32.lt_iff_toInt_lt, Int32.le_iff_toInt_le, ← Int32.toInt_inj, Int32.toInt_add, Int32.toInt_sub, Int32.toInt_mul, Int32.toInt_neg, pq_NuO, pq_NuI, pq_NuJ, pq_NuR, pq_shr6, pq_shr7, pq_shr8, lqm1, lq0, lq1, lq7] at *; (try simp (disch := omega) only [pq_bm] at *); all_goals omega)) (by focus ((try clear hf1); (try clear hf2); simp only [vp_in_iff, Int32.lt_iff_toInt_lt, Int32.le_iff_toInt_le, ← Int32.toInt_inj, Int32.toInt_add, Int32.toInt_sub, Int32.toInt_mul, Int32.toInt_neg, pq_NuO, pq_NuI, pq_NuJ, pq_NuR, pq_shr6, pq_shr7, pq_shr8, lqm1, lq0, lq1, lq7] at *; (try simp (disch := omega) only [pq_bm] at *); all_goals omega)))
  refine pq_iconst (v := 0) F dX8_addFollowers_0 (by decide) ?_
  refine pq_istore_n F dX8_addFollowers_1 rfl (by decide) ?_
  exact pq_fgm [true, true, true] (L2 100 _ _ ⟨_, pq_uJs, (fun w hv9 => absurd hv9 (by focus ((try clear hf1); (try clear hf2); simp only [vp_in_iff, Int32.lt_iff_toInt_lt, Int32.le_iff_toInt_le, ← Int32.toInt_inj, Int32.toInt_add, Int32.toInt_sub, Int32.toInt_mul, Int32.toInt_neg, pq_NuO, pq_NuI, pq_NuJ, pq_NuR, pq_shr6, pq_shr7, pq_shr8, lqm1, lq0, lq1, lq7] at *; (try simp (disch := omega) only [pq_bm] at *); all_goals omega))), (fun _ _ => rfl)⟩ (by focus ((try clear hf1); (try clear hf2); simp only [vp_in_iff, Int32.lt_iff_toInt_lt, Int32.le_iff_toInt_le, ← Int32.toInt_inj, Int32.toInt_add, Int32.toInt_sub, Int32.toInt_mul, Int32.toInt_neg, pq_NuO, pq_NuI, pq_NuJ, pq_NuR, pq_shr6, pq_shr7, pq_shr8, lqm1, lq0, lq1, lq7] at *; (try simp (disch := omega) only [pq_bm] at *); all_goals omega)) (by focus ((try clear hf1); (try clear hf2); simp only [vp_in_iff, Int32.lt_iff_toInt_lt, Int32.le_iff_toInt_le, ← Int32.toInt_inj, Int32.toInt_add, Int32.toInt_sub, Int32.toInt_mul, Int32.toInt_neg, pq_NuO, pq_NuI, pq_NuJ, pq_NuR, pq_shr6, pq_shr7, pq_shr8, lqm1, lq0, lq1, lq7] at *; (try simp (disch := omega) only [pq_bm] at *); all_goals omega)) (by focus ((try clear hf1); (try clear hf2); simp only [vp_in_iff, Int32.lt_iff_toInt_lt, Int32.le_iff_toInt_le, ← Int32.toInt_inj, Int32.toInt_add, Int32.toInt_sub, Int32.toInt_mul, Int32.toInt_neg, pq_NuO, pq_NuI, pq_NuJ, pq_NuR, pq_shr6, pq_shr7, pq_shr8, lqm1, lq0, lq1, lq7] at *; (try simp (disch := omega) only [pq_bm] at *); all_goals omega)))

set_option maxHeartbeats 4000000 in
set_option maxRecDepth 100000 in
theorem k_X8_findReachG (l : Launch) (D : va_G) (cy : Nat → ClassId) (S : HS) (a : Nat) (ha : pq_R S a 11) (sv : Int32) (hsv0 : 1 ≤ sv.toInt) (hsv1 : sv.toInt ≤ 401) (pl wh se re gl kd ko le sl : Nat) (hWf : tk_Wf S a pl wh se re gl kd ko le sl) (tk fo np : Nat) (mk : Nat → tr_M) (F0 : Nat → Nat → Prop) (hP : tk_Pl S pl tk fo np mk F0) (hd tl : Nat) (E : tq_E) (hE : tk_En S wh hd tl E) (sn : Nat) (hsn : sv.toInt = (sn : Int)) : pq_C l D cy yX8_findReach cX8_findReach 3 (none) 2 0 0 S [.ref a, .int sv] (fun v S2 => v = none ∧ pq_Fr [(198, 0)] S S2 ∧ (∀ q, tk_bit (hJ S2 re) 0 q ↔ tk_re (np, mk, E, F0) (hJ S se) sn q)) := by
  refine pq_start (by decide) (Nat.le_of_ble_eq_true rfl) ?_
  intro p e s m args below meth c A F hr hlk hnm hA
  have lqm1 : (-1 : Int32).toInt = -1 := rfl
  have lq0 : (0 : Int32).toInt = 0 := rfl
  have lq1 : (1 : Int32).toInt = 1 := rfl
  have lq7 : (7 : Int32).toInt = 7 := rfl
  refine pq_lenF hWf.rse (by decide) rfl (fun ls1 ls2 => ?_)
  refine pq_lenF hWf.rre (by decide) rfl (fun lr1 lr2 => ?_)
  refine pq_lenF hE.r0 (by decide) rfl (fun lh1 lh2 => ?_)
  refine pq_lenF hE.r1 (by decide) rfl (fun lt1 lt2 => ?_)
  obtain ⟨tt9, et9, ht9⟩ := hP.2.1
  have hnp9 := hP.2.2.1
  have L34 : ∀ (hs9 : sn ≠ 1) (fu : Nat) (S1 : HS) (p9 : Int32) (pn : Nat) (hF : pq_Fr [(198, 0)] S S1) (hRf : ∀ q, tk_bit (hJ S1 re) 0 q ↔ ∃ p, p < pn ∧ tk_X (hJ S se) sn p ∧ F0 p q) (hpn : p9.toInt = (pn : Int)) (hk1 : pn ≤ np), (400 - p9.toInt).toNat < fu → pq_At p l e (pq_rm 2 0 0) s m args below meth c (pq_Z below args s D cy S 0 0 (fun v S2 => v = none ∧ pq_Fr [(198, 0)] S S2 ∧ (∀ q, tk_bit (hJ S2 re) 0 q ↔ tk_re (np, mk, E, F0) (hJ S se) sn q))) D cy A 3 0 0 34 S1 [some (.ref a), some (.int sv), some (.int p9)] [] := by
    intro hs9 fu
    induction fu with
    | zero => intro S1 p9 pn hF hRf hpn hk1 hm; exact absurd hm (Nat.not_lt_zero _)
    | succ fu ih =>
      intro S1 p9 pn hF hRf hpn hk1 hm
      have haL := hF.R ha (by first | decide | omega)
      have hWL := hWf.fr ha hF (by decide)
      have hPL := hP.fr hF (by decide) (by decide) (by decide) (by decide) (by decide)
      have e3L := hF.O hWf.rpl (by decide) (by decide) et9
      have hNs : hN S1 se = hN S se := (hF.1 se 197 hWf.rse (by decide)).2
      have hJs : hJ S1 se = hJ S se := (hF.2.2 se 197 hWf.rse (by decide) (by decide)).2.1
      refine pq_iload_n F dX8_findReach_34 rfl rfl ?_
      refine pq_aload_n F dX8_findReach_35 rfl rfl ?_
      refine pq_get F haL (by decide) lk_X8_35 hWL.epl dX8_findReach_36 ?_
      refine pq_get F hWL.rpl (by decide) lk_X8_101 e3L dX8_findReach_39 ?_
      refine pq_icmp_ge (tgt := 71) F dX8_findReach_42 (by decide) (fun c42 => ?_) (fun c42 => ?_)
      · skip
        exact pq_vret F hr hlk hA (Nat.le_refl _) (Nat.le_refl _) (⟨rfl, hF, (fun q => (by have ek : pn = np := (by clear hRf; focus ((try clear hWf); (try clear hP); (try clear hE); (try clear hRf); (try clear hWL); (try clear hPL); (try clear ih); (try clear p54); (try clear g62); (try clear g5); (try clear g28); (try clear hn54); (try clear hy54); simp only [vp_in_iff, Int32.lt_iff_toInt_lt, Int32.le_iff_toInt_le, ← Int32.toInt_inj, Int32.toInt_add, Int32.toInt_sub, Int32.toInt_mul, Int32.toInt_neg, pq_NuO, pq_NuI, pq_NuJ, pq_NuR, pq_shr6, pq_shr7, pq_shr8, lqm1, lq0, lq1, lq7] at *; (try simp (disch := omega) only [pq_bm] at *); all_goals omega)); rw [hRf q]; unfold tk_re; rw [if_neg hs9, ek]; exact ⟨fun ⟨p, v⟩ => ⟨p, v.2⟩, fun ⟨p, v⟩ => ⟨p, hP.2.2.2.2.2 p q v.2, v⟩⟩))⟩) dX8_findReach_71
      · skip
        refine pq_aload_n F dX8_findReach_45 rfl rfl ?_
        refine pq_get F haL (by decide) lk_X8_18 hWL.ese dX8_findReach_46 ?_
        refine pq_iload_n F dX8_findReach_49 rfl rfl ?_
        refine pq_bipush (v := 7) F dX8_findReach_50 (by decide) ?_
        refine pq_imul F dX8_findReach_52 ?_
        refine pq_iload_n F dX8_findReach_53 rfl rfl ?_
        refine pq_lenF hWL.rse (by decide) rfl (fun lna54_0 lnb54_0 => ?_)
        refine pq_callS (As := [_, _, _]) F (k_X10_hasBitG l D cy _ _ 197 ?_ ?_ ?_ _ ?_ _ ?_ ?_ ?_ (7 * sn) pn ?_ hpn ?_) ml_X8_102 (Nat.le_of_ble_eq_true rfl) ⟨Nat.le_of_ble_eq_true rfl, Nat.le_of_ble_eq_true rfl⟩ ⟨by decide, by decide⟩ dX8_findReach_54 (fun v54 S54 w54 => ?_)
        · exact hWL.rse
        · first | decide | omega
        · first | decide | omega
        · focus ((try clear hWf); (try clear hP); (try clear hE); (try clear hRf); (try clear hWL); (try clear hPL); (try clear ih); (try clear p54); (try clear g62); (try clear g5); (try clear g28); (try clear hn54); (try clear hy54); simp only [vp_in_iff, Int32.lt_iff_toInt_lt, Int32.le_iff_toInt_le, ← Int32.toInt_inj, Int32.toInt_add, Int32.toInt_sub, Int32.toInt_mul, Int32.toInt_neg, pq_NuO, pq_NuI, pq_NuJ, pq_NuR, pq_shr6, pq_shr7, pq_shr8, lqm1, lq0, lq1, lq7] at *; (try simp (disch := omega) only [pq_bm] at *); all_goals omega)
        · focus ((try clear hWf); (try clear hP); (try clear hE); (try clear hRf); (try clear hWL); (try clear hPL); (try clear ih); (try clear p54); (try clear g62); (try clear g5); (try clear g28); (try clear hn54); (try clear hy54); simp only [vp_in_iff, Int32.lt_iff_toInt_lt, Int32.le_iff_toInt_le, ← Int32.toInt_inj, Int32.toInt_add, Int32.toInt_sub, Int32.toInt_mul, Int32.toInt_neg, pq_NuO, pq_NuI, pq_NuJ, pq_NuR, pq_shr6, pq_shr7, pq_shr8, lqm1, lq0, lq1, lq7] at *; (try simp (disch := omega) only [pq_bm] at *); all_goals omega)
        · focus ((try clear hWf); (try clear hP); (try clear hE); (try clear hRf); (try clear hWL); (try clear hPL); (try clear ih); (try clear p54); (try clear g62); (try clear g5); (try clear g28); (try clear hn54); (try clear hy54); simp only [vp_in_iff, Int32.lt_iff_toInt_lt, Int32.le_iff_toInt_le, ← Int32.toInt_inj, Int32.toInt_add, Int32.toInt_sub, Int32.toInt_mul, Int32.toInt_neg, pq_NuO, pq_NuI, pq_NuJ, pq_NuR, pq_shr6, pq_shr7, pq_shr8, lqm1, lq0, lq1, lq7] at *; (try simp (disch := omega) only [pq_bm] at *); all_goals omega)
        · focus ((try clear hWf); (try clear hP); (try clear hE); (try clear hRf); (try clear hWL); (try clear hPL); (try clear ih); (try clear p54); (try clear g62); (try clear g5); (try clear g28); (try clear hn54); (try clear hy54); simp only [vp_in_iff, Int32.lt_iff_toInt_lt, Int32.le_iff_toInt_le, ← Int32.toInt_inj, Int32.toInt_add, Int32.toInt_sub, Int32.toInt_mul, Int32.toInt_neg, pq_NuO, pq_NuI, pq_NuJ, pq_NuR, pq_shr6, pq_shr7, pq_shr8, lqm1, lq0, lq1, lq7] at *; (try simp (disch := omega) only [pq_bm] at *); all_goals omega)
        · focus ((try clear hWf); (try clear hP); (try clear hE); (try clear hRf); (try clear hWL); (try clear hPL); (try clear ih); (try clear p54); (try clear g62); (try clear g5); (try clear g28); (try clear hn54); (try clear hy54); simp only [vp_in_iff, Int32.lt_iff_toInt_lt, Int32.le_iff_toInt_le, ← Int32.toInt_inj, Int32.toInt_add, Int32.toInt_sub, Int32.toInt_mul, Int32.toInt_neg, pq_NuO, pq_NuI, pq_NuJ, pq_NuR, pq_shr6, pq_shr7, pq_shr8, lqm1, lq0, lq1, lq7] at *; (try simp (disch := omega) only [pq_bm] at *); all_goals omega)
        · focus ((try clear hWf); (try clear hP); (try clear hE); (try clear hRf); (try clear hWL); (try clear hPL); (try clear ih); (try clear p54); (try clear g62); (try clear g5); (try clear g28); (try clear hn54); (try clear hy54); simp only [vp_in_iff, Int32.lt_iff_toInt_lt, Int32.le_iff_toInt_le, ← Int32.toInt_inj, Int32.toInt_add, Int32.toInt_sub, Int32.toInt_mul, Int32.toInt_neg, pq_NuO, pq_NuI, pq_NuJ, pq_NuR, pq_shr6, pq_shr7, pq_shr8, lqm1, lq0, lq1, lq7] at *; (try simp (disch := omega) only [pq_bm] at *); all_goals omega)
        obtain ⟨u54, y54, rfl, yl54_0, yl54_1, p54⟩ := w54
        rw [u54]
        try rw [u54] at p54
        rw [hJs] at p54
        refine pq_if_eq (tgt := 65) F dX8_findReach_57 (by decide) (fun c57 => ?_) (fun c57 => ?_)
        · skip
          have hn54 : ¬ tk_X (hJ S se) sn pn := (fun v => (by have u := p54.mpr v; rw [u] at c57; exact absurd c57 (by decide)))
          refine pq_iinc (v := 1) F dX8_findReach_65 rfl (by decide) (by decide) ?_
          refine pq_goto (tgt := 34) F dX8_findReach_68 (by decide) ?_
          exact pq_fgm [true, true, true] (ih _ _ (pn + 1) hF (fun q => (hRf q).trans ⟨fun ⟨p, v⟩ => ⟨p, Nat.lt_succ_of_lt v.1, v.2⟩, fun ⟨p, v⟩ => ⟨p, (by have v1 := v.1; have v2 : p ≠ pn := (fun e => hn54 (by rw [← e]; exact v.2.1)); omega), v.2⟩⟩) (by focus ((try clear hWf); (try clear hP); (try clear hE); (try clear hRf); (try clear hWL); (try clear hPL); (try clear ih); (try clear p54); (try clear g62); (try clear g5); (try clear g28); (try clear hn54); (try clear hy54); simp only [vp_in_iff, Int32.lt_iff_toInt_lt, Int32.le_iff_toInt_le, ← Int32.toInt_inj, Int32.toInt_add, Int32.toInt_sub, Int32.toInt_mul, Int32.toInt_neg, pq_NuO, pq_NuI, pq_NuJ, pq_NuR, pq_shr6, pq_shr7, pq_shr8, lqm1, lq0, lq1, lq7] at *; (try simp (disch := omega) only [pq_bm] at *); all_goals omega)) (by focus ((try clear hWf); (try clear hP); (try clear hE); (try clear hRf); (try clear hWL); (try clear hPL); (try clear ih); (try clear p54); (try clear g62); (try clear g5); (try clear g28); (try clear hn54); (try clear hy54); simp only [vp_in_iff, Int32.lt_iff_toInt_lt, Int32.le_iff_toInt_le, ← Int32.toInt_inj, Int32.toInt_add, Int32.toInt_sub, Int32.toInt_mul, Int32.toInt_neg, pq_NuO, pq_NuI, pq_NuJ, pq_NuR, pq_shr6, pq_shr7, pq_shr8, lqm1, lq0, lq1, lq7] at *; (try simp (disch := omega) only [pq_bm] at *); all_goals omega)) (by focus ((try clear hWf); (try clear hP); (try clear hE); (try clear hRf); (try clear hWL); (try clear hPL); (try clear ih); (try clear p54); (try clear g62); (try clear g5); (try clear g28); (try clear hn54); (try clear hy54); simp only [vp_in_iff, Int32.lt_iff_toInt_lt, Int32.le_iff_toInt_le, ← Int32.toInt_inj, Int32.toInt_add, Int32.toInt_sub, Int32.toInt_mul, Int32.toInt_neg, pq_NuO, pq_NuI, pq_NuJ, pq_NuR, pq_shr6, pq_shr7, pq_shr8, lqm1, lq0, lq1, lq7] at *; (try simp (disch := omega) only [pq_bm] at *); all_goals omega)))
        · skip
          have hpl9 : pn < np := (by focus ((try clear hWf); (try clear hP); (try clear hE); (try clear hRf); (try clear hWL); (try clear hPL); (try clear ih); (try clear p54); (try clear g62); (try clear g5); (try clear g28); (try clear hn54); (try clear hy54); simp only [vp_in_iff, Int32.lt_iff_toInt_lt, Int32.le_iff_toInt_le, ← Int32.toInt_inj, Int32.toInt_add, Int32.toInt_sub, Int32.toInt_mul, Int32.toInt_neg, pq_NuO, pq_NuI, pq_NuJ, pq_NuR, pq_shr6, pq_shr7, pq_shr8, lqm1, lq0, lq1, lq7] at *; (try simp (disch := omega) only [pq_bm] at *); all_goals omega))
          have hy54 : tk_X (hJ S se) sn pn := p54.mp (Int32.toInt_inj.mp (by focus ((try clear hWf); (try clear hP); (try clear hE); (try clear hRf); (try clear hWL); (try clear hPL); (try clear ih); (try clear p54); (try clear g62); (try clear g5); (try clear g28); (try clear hn54); (try clear hy54); simp only [vp_in_iff, Int32.lt_iff_toInt_lt, Int32.le_iff_toInt_le, ← Int32.toInt_inj, Int32.toInt_add, Int32.toInt_sub, Int32.toInt_mul, Int32.toInt_neg, pq_NuO, pq_NuI, pq_NuJ, pq_NuR, pq_shr6, pq_shr7, pq_shr8, lqm1, lq0, lq1, lq7] at *; (try simp (disch := omega) only [pq_bm] at *); all_goals omega)))
          refine pq_aload_n F dX8_findReach_60 rfl rfl ?_
          refine pq_iload_n F dX8_findReach_61 rfl rfl ?_
          refine pq_callV (As := [_]) F (k_X8_addFollowersG l D cy _ _ ?_ _ ?_ ?_ pl fo re pn hWL.epl hWL.rpl hPL.a1 hPL.r1 hWL.ere hWL.rre hpn) ml_X8_106 haL (by decide) rfl (Nat.le_of_ble_eq_true rfl) ⟨Nat.le_of_ble_eq_true rfl, Nat.le_of_ble_eq_true rfl⟩ ⟨by decide, by decide⟩ dX8_findReach_62 (fun v62 S62 w62 => ?_)
          · exact haL
          · focus ((try clear hWf); (try clear hP); (try clear hE); (try clear hRf); (try clear hWL); (try clear hPL); (try clear ih); (try clear p54); (try clear g62); (try clear g5); (try clear g28); (try clear hn54); (try clear hy54); simp only [vp_in_iff, Int32.lt_iff_toInt_lt, Int32.le_iff_toInt_le, ← Int32.toInt_inj, Int32.toInt_add, Int32.toInt_sub, Int32.toInt_mul, Int32.toInt_neg, pq_NuO, pq_NuI, pq_NuJ, pq_NuR, pq_shr6, pq_shr7, pq_shr8, lqm1, lq0, lq1, lq7] at *; (try simp (disch := omega) only [pq_bm] at *); all_goals omega)
          · focus ((try clear hWf); (try clear hP); (try clear hE); (try clear hRf); (try clear hWL); (try clear hPL); (try clear ih); (try clear p54); (try clear g62); (try clear g5); (try clear g28); (try clear hn54); (try clear hy54); simp only [vp_in_iff, Int32.lt_iff_toInt_lt, Int32.le_iff_toInt_le, ← Int32.toInt_inj, Int32.toInt_add, Int32.toInt_sub, Int32.toInt_mul, Int32.toInt_neg, pq_NuO, pq_NuI, pq_NuJ, pq_NuR, pq_shr6, pq_shr7, pq_shr8, lqm1, lq0, lq1, lq7] at *; (try simp (disch := omega) only [pq_bm] at *); all_goals omega)
          obtain ⟨rfl, f62, rfl, g62⟩ := w62
          refine pq_iinc (v := 1) F dX8_findReach_65 rfl (by decide) (by decide) ?_
          refine pq_goto (tgt := 34) F dX8_findReach_68 (by decide) ?_
          exact pq_fgm [true, true, true] (ih _ _ (pn + 1) (hF.uJ hWL.rre (by first | decide | exact List.mem_cons_self)) (fun q => (by simp only [pq_IuO, pq_IuJ, pq_Iu, pq_JuO, pq_JuI, pq_Ju, pq_RuO, pq_RuJ, pq_RuI, if_true, if_false]; rw [tk_bit.or (r := hJ S1 re) (r2 := hJ S1 fo) (st := 0) (st2 := 7 * pn) (fun w9 hv9 => (by rw [Nat.zero_add]; exact g62 w9 hv9)), hRf q, ← hPL.2.2.2.2.1 pn q hpl9]; exact ⟨fun v => v.elim (fun ⟨p, u⟩ => ⟨p, Nat.lt_succ_of_lt u.1, u.2⟩) (fun u => ⟨pn, Nat.lt_succ_self _, hy54, u⟩), fun ⟨p, u⟩ => (by by_cases e : p = pn; (subst e; exact Or.inr u.2.2); exact Or.inl ⟨p, by have := u.1; omega, u.2⟩)⟩)) (by focus ((try clear hWf); (try clear hP); (try clear hE); (try clear hRf); (try clear hWL); (try clear hPL); (try clear ih); (try clear p54); (try clear g62); (try clear g5); (try clear g28); (try clear hn54); (try clear hy54); simp only [vp_in_iff, Int32.lt_iff_toInt_lt, Int32.le_iff_toInt_le, ← Int32.toInt_inj, Int32.toInt_add, Int32.toInt_sub, Int32.toInt_mul, Int32.toInt_neg, pq_NuO, pq_NuI, pq_NuJ, pq_NuR, pq_shr6, pq_shr7, pq_shr8, lqm1, lq0, lq1, lq7] at *; (try simp (disch := omega) only [pq_bm] at *); all_goals omega)) (by focus ((try clear hWf); (try clear hP); (try clear hE); (try clear hRf); (try clear hWL); (try clear hPL); (try clear ih); (try clear p54); (try clear g62); (try clear g5); (try clear g28); (try clear hn54); (try clear hy54); simp only [vp_in_iff, Int32.lt_iff_toInt_lt, Int32.le_iff_toInt_le, ← Int32.toInt_inj, Int32.toInt_add, Int32.toInt_sub, Int32.toInt_mul, Int32.toInt_neg, pq_NuO, pq_NuI, pq_NuJ, pq_NuR, pq_shr6, pq_shr7, pq_shr8, lqm1, lq0, lq1, lq7] at *; (try simp (disch := omega) only [pq_bm] at *); all_goals omega)) (by focus ((try clear hWf); (try clear hP); (try clear hE); (try clear hRf); (try clear hWL); (try clear hPL); (try clear ih); (try clear p54); (try clear g62); (try clear g5); (try clear g28); (try clear hn54); (try clear hy54); simp only [vp_in_iff, Int32.lt_iff_toInt_lt, Int32.le_iff_toInt_le, ← Int32.toInt_inj, Int32.toInt_add, Int32.toInt_sub, Int32.toInt_mul, Int32.toInt_neg, pq_NuO, pq_NuI, pq_NuJ, pq_NuR, pq_shr6, pq_shr7, pq_shr8, lqm1, lq0, lq1, lq7] at *; (try simp (disch := omega) only [pq_bm] at *); all_goals omega)))
  refine pq_aload_n F dX8_findReach_0 rfl rfl ?_
  refine pq_get F ha (by decide) lk_X8_26 hWf.ere dX8_findReach_1 ?_
  refine pq_lconst (v := 0) F dX8_findReach_4 (by decide) ?_
  refine pq_lenF hWf.rre (by decide) rfl (fun lna5_0 lnb5_0 => ?_)
  refine pq_callS (As := [_, _]) F (k_J7_fill_d0a16 l D cy _ _ 198 ?_ ?_ ?_ _ ?_) ml_X8_85 (Nat.le_of_ble_eq_true rfl) ⟨Nat.le_of_ble_eq_true rfl, Nat.le_of_ble_eq_true rfl⟩ ⟨by decide, by decide⟩ dX8_findReach_5 (fun v5 S5 w5 => ?_)
  · exact hWf.rre
  · first | decide | omega
  · first | decide | omega
  · focus ((try clear hWf); (try clear hP); (try clear hE); (try clear hRf); (try clear hWL); (try clear hPL); (try clear ih); (try clear p54); (try clear g62); (try clear g5); (try clear g28); (try clear hn54); (try clear hy54); simp only [vp_in_iff, Int32.lt_iff_toInt_lt, Int32.le_iff_toInt_le, ← Int32.toInt_inj, Int32.toInt_add, Int32.toInt_sub, Int32.toInt_mul, Int32.toInt_neg, pq_NuO, pq_NuI, pq_NuJ, pq_NuR, pq_shr6, pq_shr7, pq_shr8, lqm1, lq0, lq1, lq7] at *; (try simp (disch := omega) only [pq_bm] at *); all_goals omega)
  obtain ⟨rfl, f5, rfl, g5⟩ := w5
  refine pq_iload_n F dX8_findReach_8 rfl rfl ?_
  refine pq_iconst (v := 1) F dX8_findReach_9 (by decide) ?_
  refine pq_icmp_ne (tgt := 32) F dX8_findReach_10 (by decide) (fun c10 => ?_) (fun c10 => ?_)
  · skip
    refine pq_iconst (v := 0) F dX8_findReach_32 (by decide) ?_
    refine pq_istore_n F dX8_findReach_33 rfl (by decide) ?_
    exact pq_fgm [true, true, true] (L34 (by clear g5; focus ((try clear hWf); (try clear hP); (try clear hE); (try clear hRf); (try clear hWL); (try clear hPL); (try clear ih); (try clear p54); (try clear g62); (try clear g5); (try clear g28); (try clear hn54); (try clear hy54); simp only [vp_in_iff, Int32.lt_iff_toInt_lt, Int32.le_iff_toInt_le, ← Int32.toInt_inj, Int32.toInt_add, Int32.toInt_sub, Int32.toInt_mul, Int32.toInt_neg, pq_NuO, pq_NuI, pq_NuJ, pq_NuR, pq_shr6, pq_shr7, pq_shr8, lqm1, lq0, lq1, lq7] at *; (try simp (disch := omega) only [pq_bm] at *); all_goals omega)) 1000 _ _ 0 (pq_Fr.rf.uJ hWf.rre (by first | decide | exact List.mem_cons_self)) (fun q => (by simp only [pq_IuO, pq_IuJ, pq_Iu, pq_JuO, pq_JuI, pq_Ju, pq_RuO, pq_RuJ, pq_RuI, if_true, if_false]; exact ⟨fun v => absurd v (tk_bit.z (fun w9 hv9 => g5 _ (by omega))), fun ⟨p, u⟩ => absurd u.1 (Nat.not_lt_zero _)⟩)) rfl (Nat.zero_le _) (by focus ((try clear hWf); (try clear hP); (try clear hE); (try clear hRf); (try clear hWL); (try clear hPL); (try clear ih); (try clear p54); (try clear g62); (try clear g5); (try clear g28); (try clear hn54); (try clear hy54); simp only [vp_in_iff, Int32.lt_iff_toInt_lt, Int32.le_iff_toInt_le, ← Int32.toInt_inj, Int32.toInt_add, Int32.toInt_sub, Int32.toInt_mul, Int32.toInt_neg, pq_NuO, pq_NuI, pq_NuJ, pq_NuR, pq_shr6, pq_shr7, pq_shr8, lqm1, lq0, lq1, lq7] at *; (try simp (disch := omega) only [pq_bm] at *); all_goals omega)))
  · skip
    refine pq_aload_n F dX8_findReach_13 rfl rfl ?_
    refine pq_get F ha (by decide) lk_X8_26 hWf.ere dX8_findReach_14 ?_
    refine pq_iconst (v := 0) F dX8_findReach_17 (by decide) ?_
    refine pq_aload_n F dX8_findReach_18 rfl rfl ?_
    refine pq_get F ha (by decide) lk_X8_35 hWf.epl dX8_findReach_19 ?_
    refine pq_get F hWf.rpl (by decide) lk_X8_88 hWf.ewh dX8_findReach_22 ?_
    refine pq_get F hWf.rwh (by decide) lk_X8_92 hE.a0 dX8_findReach_25 ?_
    refine pq_lenF hWf.rre (by decide) rfl (fun lna28_0 lnb28_0 => ?_)
    refine pq_lenF hE.r0 (by decide) rfl (fun lna28_2 lnb28_2 => ?_)
    refine pq_callS (As := [_, _, _]) F (k_X10_addAllG l D cy _ _ 198 ?_ ?_ ?_ _ ?_ _ 190 ?_ ?_ ?_ ?_ ?_ ?_ 0 rfl (pq_nrole hWf.rre hE.r0 (by decide))) ml_X8_97 (Nat.le_of_ble_eq_true rfl) ⟨Nat.le_of_ble_eq_true rfl, Nat.le_of_ble_eq_true rfl⟩ ⟨by decide, by decide⟩ dX8_findReach_28 (fun v28 S28 w28 => ?_)
    · exact hWf.rre
    · first | decide | omega
    · first | decide | omega
    · focus ((try clear hWf); (try clear hP); (try clear hE); (try clear hRf); (try clear hWL); (try clear hPL); (try clear ih); (try clear p54); (try clear g62); (try clear g5); (try clear g28); (try clear hn54); (try clear hy54); simp only [vp_in_iff, Int32.lt_iff_toInt_lt, Int32.le_iff_toInt_le, ← Int32.toInt_inj, Int32.toInt_add, Int32.toInt_sub, Int32.toInt_mul, Int32.toInt_neg, pq_NuO, pq_NuI, pq_NuJ, pq_NuR, pq_shr6, pq_shr7, pq_shr8, lqm1, lq0, lq1, lq7] at *; (try simp (disch := omega) only [pq_bm] at *); all_goals omega)
    · exact hE.r0
    · first | decide | omega
    · first | decide | omega
    · focus ((try clear hWf); (try clear hP); (try clear hE); (try clear hRf); (try clear hWL); (try clear hPL); (try clear ih); (try clear p54); (try clear g62); (try clear g5); (try clear g28); (try clear hn54); (try clear hy54); simp only [vp_in_iff, Int32.lt_iff_toInt_lt, Int32.le_iff_toInt_le, ← Int32.toInt_inj, Int32.toInt_add, Int32.toInt_sub, Int32.toInt_mul, Int32.toInt_neg, pq_NuO, pq_NuI, pq_NuJ, pq_NuR, pq_shr6, pq_shr7, pq_shr8, lqm1, lq0, lq1, lq7] at *; (try simp (disch := omega) only [pq_bm] at *); all_goals omega)
    · focus ((try clear hWf); (try clear hP); (try clear hE); (try clear hRf); (try clear hWL); (try clear hPL); (try clear ih); (try clear p54); (try clear g62); (try clear g5); (try clear g28); (try clear hn54); (try clear hy54); simp only [vp_in_iff, Int32.lt_iff_toInt_lt, Int32.le_iff_toInt_le, ← Int32.toInt_inj, Int32.toInt_add, Int32.toInt_sub, Int32.toInt_mul, Int32.toInt_neg, pq_NuO, pq_NuI, pq_NuJ, pq_NuR, pq_shr6, pq_shr7, pq_shr8, lqm1, lq0, lq1, lq7] at *; (try simp (disch := omega) only [pq_bm] at *); all_goals omega)
    · focus ((try clear hWf); (try clear hP); (try clear hE); (try clear hRf); (try clear hWL); (try clear hPL); (try clear ih); (try clear p54); (try clear g62); (try clear g5); (try clear g28); (try clear hn54); (try clear hy54); simp only [vp_in_iff, Int32.lt_iff_toInt_lt, Int32.le_iff_toInt_le, ← Int32.toInt_inj, Int32.toInt_add, Int32.toInt_sub, Int32.toInt_mul, Int32.toInt_neg, pq_NuO, pq_NuI, pq_NuJ, pq_NuR, pq_shr6, pq_shr7, pq_shr8, lqm1, lq0, lq1, lq7] at *; (try simp (disch := omega) only [pq_bm] at *); all_goals omega)
    obtain ⟨rfl, f28, rfl, g28⟩ := w28
    exact pq_vret F hr hlk hA (Nat.le_refl _) (Nat.le_refl _) (⟨rfl, ((pq_Fr.rf.uJ hWf.rre (by first | decide | exact List.mem_cons_self)).uJ hWf.rre (by first | decide | exact List.mem_cons_self)), (fun q => (by simp only [pq_IuO, pq_IuJ, pq_Iu, pq_JuO, pq_JuI, pq_Ju, pq_RuO, pq_RuJ, pq_RuI, if_true, if_false]; have e9 : sn = 1 := (by clear g5 g28; focus ((try clear hWf); (try clear hP); (try clear hE); (try clear hRf); (try clear hWL); (try clear hPL); (try clear ih); (try clear p54); (try clear g62); (try clear g5); (try clear g28); (try clear hn54); (try clear hy54); simp only [vp_in_iff, Int32.lt_iff_toInt_lt, Int32.le_iff_toInt_le, ← Int32.toInt_inj, Int32.toInt_add, Int32.toInt_sub, Int32.toInt_mul, Int32.toInt_neg, pq_NuO, pq_NuI, pq_NuJ, pq_NuR, pq_shr6, pq_shr7, pq_shr8, lqm1, lq0, lq1, lq7] at *; (try simp (disch := omega) only [pq_bm] at *); all_goals omega)); unfold tk_re; rw [if_pos e9, tk_bit.or (r := f5) (r2 := hJ S hd) (st := 0) (st2 := 0) (fun w9 hv9 => (by have u := g28.1 w9 hv9; simp only [pq_IuO, pq_IuJ, pq_Iu, pq_JuO, pq_JuI, pq_Ju, pq_RuO, pq_RuJ, pq_RuI, if_true, if_false, pq_nrole hE.r0 hWf.rre (by decide)] at u; rw [Nat.zero_add] at u ⊢; exact u)), ← hE.2.2.1 q]; exact ⟨fun v => v.elim (fun u => absurd u (tk_bit.z (fun w9 hv9 => g5 _ (by omega)))) id, Or.inr⟩))⟩) dX8_findReach_31

theorem tk_acc {se tl : Nat → Int64} {t : Nat} : (∃ w, w < 7 ∧ se (7 * t + w) &&& tl w ≠ 0) ↔ ∃ p, tk_X se t p ∧ tk_bit tl 0 p := by
  constructor
  · rintro ⟨w, hw, h⟩
    obtain ⟨i, hi, a, b⟩ := tk_and0.mp h
    refine ⟨64 * w + i, ⟨by omega, ?_⟩, ⟨by omega, ?_⟩⟩
    · rw [show (64 * w + i) / 64 = w by omega, show (64 * w + i) % 64 = i by omega]; exact a
    · rw [show 0 + (64 * w + i) / 64 = w by omega, show (64 * w + i) % 64 = i by omega]; exact b
  · rintro ⟨p, ⟨h, a⟩, ⟨_, b⟩⟩
    rw [Nat.zero_add] at b
    exact ⟨p / 64, by omega, tk_and0.mpr ⟨p % 64, by omega, a, b⟩⟩

set_option maxHeartbeats 4000000 in
set_option maxRecDepth 100000 in
theorem k_X8_acceptsG (l : Launch) (D : va_G) (cy : Nat → ClassId) (S : HS) (a : Nat) (ha : pq_R S a 11) (sv : Int32) (hsv0 : 0 ≤ sv.toInt) (hsv1 : sv.toInt ≤ 401) (pl wh se hd tl sn : Nat) (E : tq_E) (epl : hO S a 0 = .ref pl) (hpl : pq_R S pl 8) (ewh : hO S pl 2 = .ref wh) (ese : hO S a 2 = .ref se) (hse : pq_R S se 197) (hE : tk_En S wh hd tl E) (hsn : sv.toInt = (sn : Int)) : pq_C l D cy yX8_accepts cX8_accepts 3 (some .boolean) 1 0 0 S [.ref a, .int sv] (fun v S2 => S2 = S ∧ ∃ x : Int32, v = some (.int x) ∧ 0 ≤ x.toInt ∧ x.toInt ≤ 1 ∧ (x = 1 ↔ ∃ p, tk_X (hJ S se) sn p ∧ E.2.2 p)) := by
  refine pq_start (by decide) (Nat.le_of_ble_eq_true rfl) ?_
  intro p e s m args below meth c A F hr hlk hnm hA
  have lqm1 : (-1 : Int32).toInt = -1 := rfl
  have lq0 : (0 : Int32).toInt = 0 := rfl
  have lq1 : (1 : Int32).toInt = 1 := rfl
  have lq7 : (7 : Int32).toInt = 7 := rfl
  have L2 : ∀  (fu : Nat)  (k : Int32) (kn : Nat) (hkn : k.toInt = (kn : Int)) (hk1 : kn ≤ 7) (hz9 : ∀ w, w < kn → hJ S se (7 * sn + w) &&& hJ S tl w = 0), (7 - k.toInt).toNat < fu → pq_At p l e (pq_rm 1 0 0) s m args below meth c (pq_Z below args s D cy S 0 0 (fun v S2 => S2 = S ∧ ∃ x : Int32, v = some (.int x) ∧ 0 ≤ x.toInt ∧ x.toInt ≤ 1 ∧ (x = 1 ↔ ∃ p, tk_X (hJ S se) sn p ∧ E.2.2 p))) D cy A 3 0 0 2 S [some (.ref a), some (.int sv), some (.int k)] [] := by
    intro  fu
    induction fu with
    | zero => intro k kn hkn hk1 hz9 hm; exact absurd hm (Nat.not_lt_zero _)
    | succ fu ih =>
      intro k kn hkn hk1 hz9 hm
      refine pq_iload_n F dX8_accepts_2 rfl rfl ?_
      refine pq_bipush (v := 7) F dX8_accepts_3 (by decide) ?_
      refine pq_icmp_ge (tgt := 45) F dX8_accepts_5 (by decide) (fun c5 => ?_) (fun c5 => ?_)
      · skip
        refine pq_iconst (v := 0) F dX8_accepts_45 (by decide) ?_
        exact pq_zret F hr hlk hA rfl (Nat.le_refl _) (Nat.le_refl _) (⟨rfl, 0, rfl, (by focus ((try clear hE); (try clear hz9); (try clear ih); (try clear hx9); simp only [vp_in_iff, Int32.lt_iff_toInt_lt, Int32.le_iff_toInt_le, ← Int32.toInt_inj, Int32.toInt_add, Int32.toInt_sub, Int32.toInt_mul, Int32.toInt_neg, pq_NuO, pq_NuI, pq_NuJ, pq_NuR, pq_shr6, pq_shr7, pq_shr8, lqm1, lq0, lq1, lq7] at *; (try simp (disch := omega) only [pq_bm] at *); all_goals omega)), (by focus ((try clear hE); (try clear hz9); (try clear ih); (try clear hx9); simp only [vp_in_iff, Int32.lt_iff_toInt_lt, Int32.le_iff_toInt_le, ← Int32.toInt_inj, Int32.toInt_add, Int32.toInt_sub, Int32.toInt_mul, Int32.toInt_neg, pq_NuO, pq_NuI, pq_NuJ, pq_NuR, pq_shr6, pq_shr7, pq_shr8, lqm1, lq0, lq1, lq7] at *; (try simp (disch := omega) only [pq_bm] at *); all_goals omega)), ⟨fun w => absurd w (by decide), fun ⟨p, v1, v2⟩ => (by obtain ⟨w, w1, w2⟩ := tk_acc.mpr ⟨p, v1, (hE.2.2.2 p).mp v2⟩; exact absurd (hz9 w (by clear hz9; focus ((try clear hE); (try clear hz9); (try clear ih); (try clear hx9); simp only [vp_in_iff, Int32.lt_iff_toInt_lt, Int32.le_iff_toInt_le, ← Int32.toInt_inj, Int32.toInt_add, Int32.toInt_sub, Int32.toInt_mul, Int32.toInt_neg, pq_NuO, pq_NuI, pq_NuJ, pq_NuR, pq_shr6, pq_shr7, pq_shr8, lqm1, lq0, lq1, lq7] at *; (try simp (disch := omega) only [pq_bm] at *); all_goals omega))) w2)⟩⟩) dX8_accepts_46
      · skip
        refine pq_aload_n F dX8_accepts_8 rfl rfl ?_
        refine pq_get F ha (by decide) lk_X8_18 ese dX8_accepts_9 ?_
        refine pq_iload_n F dX8_accepts_12 rfl rfl ?_
        refine pq_bipush (v := 7) F dX8_accepts_13 (by decide) ?_
        refine pq_imul F dX8_accepts_15 ?_
        refine pq_iload_n F dX8_accepts_16 rfl rfl ?_
        refine pq_iadd F dX8_accepts_17 ?_
        refine pq_lald F hse (by decide) (by decide) rfl (fun n1_18 n2_18 => (by focus ((try clear hE); (try clear hz9); (try clear ih); (try clear hx9); simp only [vp_in_iff, Int32.lt_iff_toInt_lt, Int32.le_iff_toInt_le, ← Int32.toInt_inj, Int32.toInt_add, Int32.toInt_sub, Int32.toInt_mul, Int32.toInt_neg, pq_NuO, pq_NuI, pq_NuJ, pq_NuR, pq_shr6, pq_shr7, pq_shr8, lqm1, lq0, lq1, lq7] at *; (try simp (disch := omega) only [pq_bm] at *); all_goals omega))) dX8_accepts_18 (fun x18 e18 => ?_)
        refine pq_aload_n F dX8_accepts_19 rfl rfl ?_
        refine pq_get F ha (by decide) lk_X8_35 epl dX8_accepts_20 ?_
        refine pq_get F hpl (by decide) lk_X8_88 ewh dX8_accepts_23 ?_
        refine pq_get F hE.r (by decide) lk_X8_138 hE.a1 dX8_accepts_26 ?_
        refine pq_iload_n F dX8_accepts_29 rfl rfl ?_
        refine pq_lald F hE.r1 (by decide) (by decide) rfl (fun n1_30 n2_30 => (by focus ((try clear hE); (try clear hz9); (try clear ih); (try clear hx9); simp only [vp_in_iff, Int32.lt_iff_toInt_lt, Int32.le_iff_toInt_le, ← Int32.toInt_inj, Int32.toInt_add, Int32.toInt_sub, Int32.toInt_mul, Int32.toInt_neg, pq_NuO, pq_NuI, pq_NuJ, pq_NuR, pq_shr6, pq_shr7, pq_shr8, lqm1, lq0, lq1, lq7] at *; (try simp (disch := omega) only [pq_bm] at *); all_goals omega))) dX8_accepts_30 (fun x30 e30 => ?_)
        refine pq_land F dX8_accepts_31 ?_
        refine pq_lconst (v := 0) F dX8_accepts_32 (by decide) ?_
        refine pq_lcmp F dX8_accepts_33 ?_
        refine pq_if_eq (tgt := 39) F dX8_accepts_34 (by decide) (fun c34 => ?_) (fun c34 => ?_)
        · skip
          refine pq_iinc (v := 1) F dX8_accepts_39 rfl (by decide) (by decide) ?_
          refine pq_goto (tgt := 2) F dX8_accepts_42 (by decide) ?_
          exact pq_fgm [true, true, true] (ih _ (kn + 1) (by focus ((try clear hE); (try clear hz9); (try clear ih); (try clear hx9); simp only [vp_in_iff, Int32.lt_iff_toInt_lt, Int32.le_iff_toInt_le, ← Int32.toInt_inj, Int32.toInt_add, Int32.toInt_sub, Int32.toInt_mul, Int32.toInt_neg, pq_NuO, pq_NuI, pq_NuJ, pq_NuR, pq_shr6, pq_shr7, pq_shr8, lqm1, lq0, lq1, lq7] at *; (try simp (disch := omega) only [pq_bm] at *); all_goals omega)) (by focus ((try clear hE); (try clear hz9); (try clear ih); (try clear hx9); simp only [vp_in_iff, Int32.lt_iff_toInt_lt, Int32.le_iff_toInt_le, ← Int32.toInt_inj, Int32.toInt_add, Int32.toInt_sub, Int32.toInt_mul, Int32.toInt_neg, pq_NuO, pq_NuI, pq_NuJ, pq_NuR, pq_shr6, pq_shr7, pq_shr8, lqm1, lq0, lq1, lq7] at *; (try simp (disch := omega) only [pq_bm] at *); all_goals omega)) (fun w hv9 => (by by_cases e : w = kn; (have ck := pq_cl (x := k) (by focus ((try clear hE); (try clear hz9); (try clear ih); (try clear hx9); simp only [vp_in_iff, Int32.lt_iff_toInt_lt, Int32.le_iff_toInt_le, ← Int32.toInt_inj, Int32.toInt_add, Int32.toInt_sub, Int32.toInt_mul, Int32.toInt_neg, pq_NuO, pq_NuI, pq_NuJ, pq_NuR, pq_shr6, pq_shr7, pq_shr8, lqm1, lq0, lq1, lq7] at *; (try simp (disch := omega) only [pq_bm] at *); all_goals omega)); have ck2 : k.toNatClampNeg = kn := (by focus ((try clear hE); (try clear hz9); (try clear ih); (try clear hx9); simp only [vp_in_iff, Int32.lt_iff_toInt_lt, Int32.le_iff_toInt_le, ← Int32.toInt_inj, Int32.toInt_add, Int32.toInt_sub, Int32.toInt_mul, Int32.toInt_neg, pq_NuO, pq_NuI, pq_NuJ, pq_NuR, pq_shr6, pq_shr7, pq_shr8, lqm1, lq0, lq1, lq7] at *; (try simp (disch := omega) only [pq_bm] at *); all_goals omega)); have cs := pq_cl (x := sv * 7 + k) (by focus ((try clear hE); (try clear hz9); (try clear ih); (try clear hx9); simp only [vp_in_iff, Int32.lt_iff_toInt_lt, Int32.le_iff_toInt_le, ← Int32.toInt_inj, Int32.toInt_add, Int32.toInt_sub, Int32.toInt_mul, Int32.toInt_neg, pq_NuO, pq_NuI, pq_NuJ, pq_NuR, pq_shr6, pq_shr7, pq_shr8, lqm1, lq0, lq1, lq7] at *; (try simp (disch := omega) only [pq_bm] at *); all_goals omega)); have cs2 : (sv * 7 + k).toNatClampNeg = 7 * sn + kn := (by focus ((try clear hE); (try clear hz9); (try clear ih); (try clear hx9); simp only [vp_in_iff, Int32.lt_iff_toInt_lt, Int32.le_iff_toInt_le, ← Int32.toInt_inj, Int32.toInt_add, Int32.toInt_sub, Int32.toInt_mul, Int32.toInt_neg, pq_NuO, pq_NuI, pq_NuJ, pq_NuR, pq_shr6, pq_shr7, pq_shr8, lqm1, lq0, lq1, lq7] at *; (try simp (disch := omega) only [pq_bm] at *); all_goals omega)); rw [cs2] at e18; rw [ck2] at e30; rw [e, ← e18, ← e30]; exact tk_cmp.mp c34); exact hz9 w (by omega))) (by focus ((try clear hE); (try clear hz9); (try clear ih); (try clear hx9); simp only [vp_in_iff, Int32.lt_iff_toInt_lt, Int32.le_iff_toInt_le, ← Int32.toInt_inj, Int32.toInt_add, Int32.toInt_sub, Int32.toInt_mul, Int32.toInt_neg, pq_NuO, pq_NuI, pq_NuJ, pq_NuR, pq_shr6, pq_shr7, pq_shr8, lqm1, lq0, lq1, lq7] at *; (try simp (disch := omega) only [pq_bm] at *); all_goals omega)))
        · skip
          refine pq_iconst (v := 1) F dX8_accepts_37 (by decide) ?_
          exact pq_zret F hr hlk hA rfl (Nat.le_refl _) (Nat.le_refl _) (⟨rfl, 1, rfl, (by focus ((try clear hE); (try clear hz9); (try clear ih); (try clear hx9); simp only [vp_in_iff, Int32.lt_iff_toInt_lt, Int32.le_iff_toInt_le, ← Int32.toInt_inj, Int32.toInt_add, Int32.toInt_sub, Int32.toInt_mul, Int32.toInt_neg, pq_NuO, pq_NuI, pq_NuJ, pq_NuR, pq_shr6, pq_shr7, pq_shr8, lqm1, lq0, lq1, lq7] at *; (try simp (disch := omega) only [pq_bm] at *); all_goals omega)), (by focus ((try clear hE); (try clear hz9); (try clear ih); (try clear hx9); simp only [vp_in_iff, Int32.lt_iff_toInt_lt, Int32.le_iff_toInt_le, ← Int32.toInt_inj, Int32.toInt_add, Int32.toInt_sub, Int32.toInt_mul, Int32.toInt_neg, pq_NuO, pq_NuI, pq_NuJ, pq_NuR, pq_shr6, pq_shr7, pq_shr8, lqm1, lq0, lq1, lq7] at *; (try simp (disch := omega) only [pq_bm] at *); all_goals omega)), ⟨fun _ => (by have ck := pq_cl (x := k) (by focus ((try clear hE); (try clear hz9); (try clear ih); (try clear hx9); simp only [vp_in_iff, Int32.lt_iff_toInt_lt, Int32.le_iff_toInt_le, ← Int32.toInt_inj, Int32.toInt_add, Int32.toInt_sub, Int32.toInt_mul, Int32.toInt_neg, pq_NuO, pq_NuI, pq_NuJ, pq_NuR, pq_shr6, pq_shr7, pq_shr8, lqm1, lq0, lq1, lq7] at *; (try simp (disch := omega) only [pq_bm] at *); all_goals omega)); have ck2 : k.toNatClampNeg = kn := (by focus ((try clear hE); (try clear hz9); (try clear ih); (try clear hx9); simp only [vp_in_iff, Int32.lt_iff_toInt_lt, Int32.le_iff_toInt_le, ← Int32.toInt_inj, Int32.toInt_add, Int32.toInt_sub, Int32.toInt_mul, Int32.toInt_neg, pq_NuO, pq_NuI, pq_NuJ, pq_NuR, pq_shr6, pq_shr7, pq_shr8, lqm1, lq0, lq1, lq7] at *; (try simp (disch := omega) only [pq_bm] at *); all_goals omega)); have cs := pq_cl (x := sv * 7 + k) (by focus ((try clear hE); (try clear hz9); (try clear ih); (try clear hx9); simp only [vp_in_iff, Int32.lt_iff_toInt_lt, Int32.le_iff_toInt_le, ← Int32.toInt_inj, Int32.toInt_add, Int32.toInt_sub, Int32.toInt_mul, Int32.toInt_neg, pq_NuO, pq_NuI, pq_NuJ, pq_NuR, pq_shr6, pq_shr7, pq_shr8, lqm1, lq0, lq1, lq7] at *; (try simp (disch := omega) only [pq_bm] at *); all_goals omega)); have cs2 : (sv * 7 + k).toNatClampNeg = 7 * sn + kn := (by focus ((try clear hE); (try clear hz9); (try clear ih); (try clear hx9); simp only [vp_in_iff, Int32.lt_iff_toInt_lt, Int32.le_iff_toInt_le, ← Int32.toInt_inj, Int32.toInt_add, Int32.toInt_sub, Int32.toInt_mul, Int32.toInt_neg, pq_NuO, pq_NuI, pq_NuJ, pq_NuR, pq_shr6, pq_shr7, pq_shr8, lqm1, lq0, lq1, lq7] at *; (try simp (disch := omega) only [pq_bm] at *); all_goals omega)); rw [cs2] at e18; rw [ck2] at e30; obtain ⟨p, v1, v2⟩ := (tk_acc (se := hJ S se) (tl := hJ S tl) (t := sn)).mp ⟨kn, by clear hz9; focus ((try clear hE); (try clear hz9); (try clear ih); (try clear hx9); simp only [vp_in_iff, Int32.lt_iff_toInt_lt, Int32.le_iff_toInt_le, ← Int32.toInt_inj, Int32.toInt_add, Int32.toInt_sub, Int32.toInt_mul, Int32.toInt_neg, pq_NuO, pq_NuI, pq_NuJ, pq_NuR, pq_shr6, pq_shr7, pq_shr8, lqm1, lq0, lq1, lq7] at *; (try simp (disch := omega) only [pq_bm] at *); all_goals omega), by rw [← e18, ← e30]; exact fun w => c34 (tk_cmp.mpr w)⟩; exact ⟨p, v1, (hE.2.2.2 p).mpr v2⟩), fun _ => rfl⟩⟩) dX8_accepts_38
  refine pq_iconst (v := 0) F dX8_accepts_0 (by decide) ?_
  refine pq_istore_n F dX8_accepts_1 rfl (by decide) ?_
  exact pq_fgm [true, true, true] (L2 100 0 0 rfl (Nat.zero_le _) (fun w hv9 => absurd hv9 (Nat.not_lt_zero _)) (by focus ((try clear hE); (try clear hz9); (try clear ih); (try clear hx9); simp only [vp_in_iff, Int32.lt_iff_toInt_lt, Int32.le_iff_toInt_le, ← Int32.toInt_inj, Int32.toInt_add, Int32.toInt_sub, Int32.toInt_mul, Int32.toInt_neg, pq_NuO, pq_NuI, pq_NuJ, pq_NuR, pq_shr6, pq_shr7, pq_shr8, lqm1, lq0, lq1, lq7] at *; (try simp (disch := omega) only [pq_bm] at *); all_goals omega)))

