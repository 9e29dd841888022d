/-- the kinds so far: le has the least byte of each, ko a byte's kind -/
def tk_So (le ko : Nat → Int32) (tk : Nat → Int64) (n b : Nat) : Prop := (∀ k, k < n → 0 ≤ (le k).toInt ∧ (le k).toInt < 128) ∧ ∀ c, c < b → 0 ≤ (ko c).toInt ∧ (ko c).toInt < (n : Int) ∧ ∀ w, w < 7 → tk (7 * c + w) = tk (7 * (le (ko c).toInt.toNat).toInt.toNat + w)
theorem tk_So.old {le ko : Nat → Int32} {tk : Nat → Int64} {n b : Nat} {k : Int32} (h : tk_So le ko tk n b) (h0 : 0 ≤ k.toInt) (h1 : k.toInt < (n : Int)) (hr : ∀ w, w < 7 → tk (7 * b + w) = tk (7 * (le k.toInt.toNat).toInt.toNat + w)) : tk_So le (upd ko b k) tk n (b + 1) := by
  refine ⟨h.1, fun c hc => ?_⟩
  by_cases e : c = b
  · rw [e, pk_us]; exact ⟨h0, h1, hr⟩
  · rw [pk_un e]; exact h.2 c (by omega)
theorem tk_So.new {le ko : Nat → Int32} {tk : Nat → Int64} {n b : Nat} {k v : Int32} (h : tk_So le ko tk n b) (h0 : k.toInt = (n : Int)) (hv : v.toInt = (b : Int)) (hb : b < 128) : tk_So (upd le n v) (upd ko b k) tk (n + 1) (b + 1) := by
  refine ⟨fun i hi => ?_, fun c hc => ?_⟩
  · by_cases e : i = n
    · rw [e, pk_us]; omega
    · rw [pk_un e]; exact h.1 i (by omega)
  · by_cases e : c = b
    · rw [e, pk_us]
      refine ⟨by omega, by omega, fun w hw => ?_⟩
      rw [show k.toInt.toNat = n by omega, pk_us, show v.toInt.toNat = b by omega]
    · rw [pk_un e]
      obtain ⟨a1, a2, a3⟩ := h.2 c (by omega)
      exact ⟨a1, by omega, by rw [pk_un (by omega)]; exact a3⟩

/-- the slot at which a goal's search begins -/
def tk_mx (r : Nat → Int64) : Nat → Int64
  | 0 => 0
  | w + 1 => ((tk_mx r w ^^^ r w) * (-7046029254386353131)) ^^^ (((tk_mx r w ^^^ r w) * (-7046029254386353131)).toUInt64 >>> ((32 : Int32).toInt64.toUInt64 &&& Int64.toUInt64 63)).toInt64
def tk_hs (r : Nat → Int64) : Int32 := (tk_mx r 7).toInt32 &&& 1023
theorem tk_mxc {f g : Nat → Int64} : ∀ w, (∀ i, i < w → f i = g i) → tk_mx f w = tk_mx g w
  | 0, _ => rfl
  | w + 1, h => by
    rw [tk_mx, tk_mx, tk_mxc w (fun i hi => h i (by omega)), h w (by omega)]
theorem tk_hsc {f g : Nat → Int64} (h : ∀ i, i < 7 → f i = g i) : tk_hs f = tk_hs g := by unfold tk_hs; rw [tk_mxc 7 h]

set_option maxHeartbeats 4000000 in
set_option maxRecDepth 100000 in
theorem k_X8_slotOfGoalG (l : Launch) (D : va_G) (cy : Nat → ClassId) (S : HS) (a : Nat) (ha : pq_R S a 11) (gl : Nat) (e5 : hO S a 5 = .ref gl) (hgl : pq_R S gl 199) : pq_C l D cy yX8_slotOfGoal cX8_slotOfGoal 4 (some .int) 1 0 0 S [.ref a] (fun v S2 => S2 = S ∧ ∃ x : Int32, v = some (.int x) ∧ 0 ≤ x.toInt ∧ x.toInt ≤ 1023 ∧ (x = tk_hs (hJ S gl))) := by
  refine pq_start (by decide) (Nat.le_of_ble_eq_true rfl) ?_
  intro p e s m args below meth c A F hr hlk hnm hA
  have lqm1 : (-1 : Int32).toInt = -1 := rfl
  have lq0 : (0 : Int32).toInt = 0 := rfl
  have lq1 : (1 : Int32).toInt = 1 := rfl
  have lq7 : (7 : Int32).toInt = 7 := rfl
  have lq32 : (32 : Int32).toInt = 32 := rfl
  have lq1023 : (1023 : Int32).toInt = 1023 := rfl
  have L4 : ∀  (fu : Nat)  (j_mix : Int64) (k : Int32)  (hk0 : 0 ≤ k.toInt) (hk1 : k.toInt ≤ 7) (hmx : j_mix = tk_mx (hJ S gl) k.toInt.toNat), (7 - k.toInt).toNat < fu → pq_At p l e (pq_rm 1 0 0) s m args below meth c (pq_Z below args s D cy S 0 0 (fun v S2 => S2 = S ∧ ∃ x : Int32, v = some (.int x) ∧ 0 ≤ x.toInt ∧ x.toInt ≤ 1023 ∧ (x = tk_hs (hJ S gl)))) D cy A 4 0 0 4 S [some (.ref a), some (.long j_mix), none, some (.int k)] [] := by
    intro  fu
    induction fu with
    | zero => intro j_mix k hk0 hk1 hmx hm; exact absurd hm (Nat.not_lt_zero _)
    | succ fu ih =>
      intro j_mix k hk0 hk1 hmx hm
      refine pq_iload_n F dX8_slotOfGoal_4 rfl rfl ?_
      refine pq_bipush (v := 7) F dX8_slotOfGoal_5 (by decide) ?_
      refine pq_icmp_ge (tgt := 36) F dX8_slotOfGoal_7 (by decide) (fun c7 => ?_) (fun c7 => ?_)
      · skip
        refine pq_lload_n F dX8_slotOfGoal_36 rfl rfl ?_
        refine pq_l2i F dX8_slotOfGoal_37 ?_
        refine pq_sipush (v := 1023) F dX8_slotOfGoal_38 (by decide) ?_
        refine pq_iand F dX8_slotOfGoal_41 ?_
        exact pq_iret F hr hlk hA (Nat.le_refl _) (Nat.le_refl _) (⟨rfl, _, rfl, (pq_and1023 _).1, (pq_and1023 _).2, (by have e9 : k.toInt.toNat = 7 := (by focus ((try clear hmx); simp only [vp_in_iff, Int32.lt_iff_toInt_lt, Int32.le_iff_toInt_le, ← Int32.toInt_inj, Int32.toInt_add, Int32.toInt_sub, Int32.toInt_mul, Int32.toInt_neg, pq_NuO, pq_NuI, pq_NuJ, pq_NuR, pq_shr6, pq_shr7, pq_shr8, lqm1, lq0, lq1, lq7, lq32, lq1023] at *; (try simp (disch := omega) only [pq_bm] at *); all_goals omega)); rw [e9] at hmx; rw [hmx]; rfl)⟩) dX8_slotOfGoal_42
      · skip
        refine pq_lload_n F dX8_slotOfGoal_10 rfl rfl ?_
        refine pq_aload_n F dX8_slotOfGoal_11 rfl rfl ?_
        refine pq_get F ha (by decide) lk_X8_29 e5 dX8_slotOfGoal_12 ?_
        refine pq_iload_n F dX8_slotOfGoal_15 rfl rfl ?_
        refine pq_lald F hgl (by decide) (by decide) rfl (fun n1_16 n2_16 => (by focus ((try clear hmx); simp only [vp_in_iff, Int32.lt_iff_toInt_lt, Int32.le_iff_toInt_le, ← Int32.toInt_inj, Int32.toInt_add, Int32.toInt_sub, Int32.toInt_mul, Int32.toInt_neg, pq_NuO, pq_NuI, pq_NuJ, pq_NuR, pq_shr6, pq_shr7, pq_shr8, lqm1, lq0, lq1, lq7, lq32, lq1023] at *; (try simp (disch := omega) only [pq_bm] at *); all_goals omega))) dX8_slotOfGoal_16 (fun x16 e16 => ?_)
        refine pq_lxor F dX8_slotOfGoal_17 ?_
        refine pq_ldc2 F lc_X8_130 dX8_slotOfGoal_18 ?_
        refine pq_lmul F dX8_slotOfGoal_21 ?_
        refine pq_lstore_n F dX8_slotOfGoal_22 rfl (by decide) ?_
        refine pq_lload_n F dX8_slotOfGoal_23 rfl rfl ?_
        refine pq_lload_n F dX8_slotOfGoal_24 rfl rfl ?_
        refine pq_bipush (v := 32) F dX8_slotOfGoal_25 (by decide) ?_
        refine pq_lushr F dX8_slotOfGoal_27 ?_
        refine pq_lxor F dX8_slotOfGoal_28 ?_
        refine pq_lstore_n F dX8_slotOfGoal_29 rfl (by decide) ?_
        refine pq_iinc (v := 1) F dX8_slotOfGoal_30 rfl (by decide) (by decide) ?_
        refine pq_goto (tgt := 4) F dX8_slotOfGoal_33 (by decide) ?_
        exact pq_fgm [true, true, false, true] (ih _ _ (by focus ((try clear hmx); simp only [vp_in_iff, Int32.lt_iff_toInt_lt, Int32.le_iff_toInt_le, ← Int32.toInt_inj, Int32.toInt_add, Int32.toInt_sub, Int32.toInt_mul, Int32.toInt_neg, pq_NuO, pq_NuI, pq_NuJ, pq_NuR, pq_shr6, pq_shr7, pq_shr8, lqm1, lq0, lq1, lq7, lq32, lq1023] at *; (try simp (disch := omega) only [pq_bm] at *); all_goals omega)) (by focus ((try clear hmx); simp only [vp_in_iff, Int32.lt_iff_toInt_lt, Int32.le_iff_toInt_le, ← Int32.toInt_inj, Int32.toInt_add, Int32.toInt_sub, Int32.toInt_mul, Int32.toInt_neg, pq_NuO, pq_NuI, pq_NuJ, pq_NuR, pq_shr6, pq_shr7, pq_shr8, lqm1, lq0, lq1, lq7, lq32, lq1023] at *; (try simp (disch := omega) only [pq_bm] at *); all_goals omega)) (by have e9 : (k + 1).toInt.toNat = k.toInt.toNat + 1 := (by focus ((try clear hmx); simp only [vp_in_iff, Int32.lt_iff_toInt_lt, Int32.le_iff_toInt_le, ← Int32.toInt_inj, Int32.toInt_add, Int32.toInt_sub, Int32.toInt_mul, Int32.toInt_neg, pq_NuO, pq_NuI, pq_NuJ, pq_NuR, pq_shr6, pq_shr7, pq_shr8, lqm1, lq0, lq1, lq7, lq32, lq1023] at *; (try simp (disch := omega) only [pq_bm] at *); all_goals omega)); have e8 : k.toNatClampNeg = k.toInt.toNat := (by have := pq_cl hk0; omega); rw [e9, tk_mx, ← hmx, e16, e8]) (by focus ((try clear hmx); simp only [vp_in_iff, Int32.lt_iff_toInt_lt, Int32.le_iff_toInt_le, ← Int32.toInt_inj, Int32.toInt_add, Int32.toInt_sub, Int32.toInt_mul, Int32.toInt_neg, pq_NuO, pq_NuI, pq_NuJ, pq_NuR, pq_shr6, pq_shr7, pq_shr8, lqm1, lq0, lq1, lq7, lq32, lq1023] at *; (try simp (disch := omega) only [pq_bm] at *); all_goals omega)))
  refine pq_lconst (v := 0) F dX8_slotOfGoal_0 (by decide) ?_
  refine pq_lstore_n F dX8_slotOfGoal_1 rfl (by decide) ?_
  refine pq_iconst (v := 0) F dX8_slotOfGoal_2 (by decide) ?_
  refine pq_istore_n F dX8_slotOfGoal_3 rfl (by decide) ?_
  exact pq_fgm [true, true, false, true] (L4  100000 _ _  (by focus ((try clear hmx); simp only [vp_in_iff, Int32.lt_iff_toInt_lt, Int32.le_iff_toInt_le, ← Int32.toInt_inj, Int32.toInt_add, Int32.toInt_sub, Int32.toInt_mul, Int32.toInt_neg, pq_NuO, pq_NuI, pq_NuJ, pq_NuR, pq_shr6, pq_shr7, pq_shr8, lqm1, lq0, lq1, lq7, lq32, lq1023] at *; (try simp (disch := omega) only [pq_bm] at *); all_goals omega)) (by focus ((try clear hmx); simp only [vp_in_iff, Int32.lt_iff_toInt_lt, Int32.le_iff_toInt_le, ← Int32.toInt_inj, Int32.toInt_add, Int32.toInt_sub, Int32.toInt_mul, Int32.toInt_neg, pq_NuO, pq_NuI, pq_NuJ, pq_NuR, pq_shr6, pq_shr7, pq_shr8, lqm1, lq0, lq1, lq7, lq32, lq1023] at *; (try simp (disch := omega) only [pq_bm] at *); all_goals omega)) rfl (by focus ((try clear hmx); simp only [vp_in_iff, Int32.lt_iff_toInt_lt, Int32.le_iff_toInt_le, ← Int32.toInt_inj, Int32.toInt_add, Int32.toInt_sub, Int32.toInt_mul, Int32.toInt_neg, pq_NuO, pq_NuI, pq_NuJ, pq_NuR, pq_shr6, pq_shr7, pq_shr8, lqm1, lq0, lq1, lq7, lq32, lq1023] at *; (try simp (disch := omega) only [pq_bm] at *); all_goals omega)))

