def tk_eg (g0 : Nat) (gl : Nat → Int64) : Prop := g0 = (tk_hs gl).toInt.toNat
def tk_hn (se : Nat → Int64) (t : Nat) : Nat := (tk_hs (fun i => se (7 * t + i))).toInt.toNat
/-- the slots: who is in one, no one in two, everyone to be found from his own slot on -/
def tk_Hs (sl : Nat → Int32) (se : Nat → Int64) (ns : Nat) : Prop :=
  (∀ i, i < 1024 → (sl i).toInt = 0 ∨ (2 ≤ (sl i).toInt ∧ (sl i).toInt < (ns : Int))) ∧ (∀ i j, i < 1024 → j < 1024 → sl i = sl j → (sl i).toInt ≠ 0 → i = j) ∧
  ∀ t, 2 ≤ t → t < ns → ∃ d : Nat, (sl ((tk_hn se t + d) % 1024)).toInt = (t : Int) ∧ ∀ d', d' < d → (sl ((tk_hn se t + d') % 1024)).toInt ≠ 0
/-- a search under way -/
def tk_Hp (sl : Nat → Int32) (se gl : Nat → Int64) (h0 pr : Nat) : Prop := ∀ d, d < pr → (sl ((h0 + d) % 1024)).toInt ≠ 0 ∧ ∀ t : Nat, (sl ((h0 + d) % 1024)).toInt = (t : Int) → tk_X se t ≠ tk_B0 gl
theorem tk_Hs.none {sl : Nat → Int32} {se gl : Nat → Int64} {ns pr g0 : Nat} (h : tk_Hs sl se ns) (eg : tk_eg g0 gl) (hp : tk_Hp sl se gl g0 pr) (h0 : (sl ((g0 + pr) % 1024)).toInt = 0) : ∀ t, 2 ≤ t → t < ns → tk_X se t ≠ tk_B0 gl := fun t t1 t2 e => by
  obtain ⟨d, d1, d2⟩ := h.2.2 t t1 t2
  have eh : tk_hn se t = g0 := by
    unfold tk_hn
    rw [show g0 = _ from eg, tk_hsc (f := fun i => se (7 * t + i)) (g := gl) (tk_XB.mp e)]
  rw [eh] at d1 d2
  by_cases c : d < pr
  · exact (hp d c).2 t d1 e
  · by_cases c2 : d = pr
    · rw [c2, h0] at d1; omega
    · exact d2 pr (by omega) h0
theorem tk_Hs.full {sl : Nat → Int32} {se gl : Nat → Int64} {ns h0 : Nat} (h : tk_Hs sl se ns) (hn : ns ≤ 402) (hp : tk_Hp sl se gl h0 1024) : False := by
  have key : (List.range 1024).length ≤ 402 := by
    have := tp_ub (n := 402) (L := (List.range 1024).map (fun d => (sl ((h0 + d) % 1024)).toInt.toNat)) (List.pairwise_map.mpr (List.Pairwise.imp_of_mem (fun {a b} ha hb hne e => by
      have ha := List.mem_range.mp ha
      have hb := List.mem_range.mp hb
      have e1 := h.1 ((h0 + a) % 1024) (Nat.mod_lt _ (by decide))
      have e2 := h.1 ((h0 + b) % 1024) (Nat.mod_lt _ (by decide))
      have n1 := (hp a ha).1
      have n2 := (hp b hb).1
      have es : sl ((h0 + a) % 1024) = sl ((h0 + b) % 1024) := Int32.toInt_inj.mp (by omega)
      have := h.2.1 _ _ (Nat.mod_lt _ (by decide)) (Nat.mod_lt _ (by decide)) es n1
      omega) List.nodup_range)) (fun x hx => by
      obtain ⟨d, hd, rfl⟩ := List.mem_map.mp hx
      have e1 := h.1 ((h0 + d) % 1024) (Nat.mod_lt _ (by decide))
      omega)
    rwa [List.length_map] at this
  rw [List.length_range] at key
  omega
theorem tk_Hs.ins {sl : Nat → Int32} {se se2 gl : Nat → Int64} {ns pr g0 : Nat} {v : Int32} (h : tk_Hs sl se ns) (hn : 2 ≤ ns) (eg : tk_eg g0 gl) (hp : tk_Hp sl se gl g0 pr) (h0 : (sl ((g0 + pr) % 1024)).toInt = 0) (hv : v.toInt = (ns : Int)) (h1 : ∀ i, i < 7 * ns → se2 i = se i) (h2 : ∀ w, w < 7 → se2 (7 * ns + w) = gl w) : tk_Hs (upd sl ((g0 + pr) % 1024) v) se2 (ns + 1) := by
  generalize eq9 : (g0 + pr) % 1024 = so at *
  have nz : ∀ i, (sl i).toInt ≠ 0 → i ≠ so := fun i w e => w (by rw [e]; exact h0)
  refine ⟨fun i hi => ?_, fun i j hi hj e hne => ?_, fun t t1 t2 => ?_⟩
  · by_cases c : i = so
    · rw [c, pk_us]; omega
    · rw [pk_un c]; have := h.1 i hi; omega
  · have bi := h.1 i hi
    have bj := h.1 j hj
    by_cases c : i = so
    · by_cases c2 : j = so
      · omega
      · rw [c, pk_us, pk_un c2] at e
        rw [← e] at bj
        omega
    · by_cases c2 : j = so
      · rw [c2, pk_us, pk_un c] at e
        rw [e] at bi
        omega
      · rw [pk_un c, pk_un c2] at e
        rw [pk_un c] at hne
        exact h.2.1 i j hi hj e hne
  · by_cases c : t = ns
    · have eh : tk_hn se2 t = g0 := by
        unfold tk_hn
        rw [c, show g0 = _ from eg, tk_hsc (f := fun i => se2 (7 * ns + i)) (g := gl) h2]
      refine ⟨pr, by rw [eh, eq9, pk_us, c]; exact hv, fun d hd => ?_⟩
      rw [eh, pk_un (nz _ (hp d hd).1)]
      exact (hp d hd).1
    · have eh : tk_hn se2 t = tk_hn se t := by
        unfold tk_hn
        rw [tk_hsc (f := fun i => se2 (7 * t + i)) (g := fun i => se (7 * t + i)) (fun i hi => h1 _ (by omega))]
      obtain ⟨d, d1, d2⟩ := h.2.2 t t1 (by omega)
      refine ⟨d, by rw [eh, pk_un (nz _ (by rw [d1]; omega))]; exact d1, fun d' hd => ?_⟩
      rw [eh, pk_un (nz _ (d2 d' hd))]
      exact d2 d' hd
theorem tk_a10 {x : Int32} {n : Nat} (h : x.toInt = (n : Int)) : (x &&& 1023).toInt = ((n % 1024 : Nat) : Int) := by
  have hn : x.toBitVec.toNat < 2 ^ 32 := x.toBitVec.isLt
  have e : x.toInt = if 2 * x.toBitVec.toNat < 2 ^ 32 then (x.toBitVec.toNat : Int) else (x.toBitVec.toNat : Int) - (2 ^ 32 : Nat) := BitVec.toInt_eq_toNat_cond x.toBitVec
  have c : 2 * x.toBitVec.toNat < 2 ^ 32 := Classical.byContradiction (fun c => by rw [if_neg c] at e; omega)
  rw [if_pos c] at e
  rw [pk_and x 10 rfl, nI_toInt (by omega)]
  have : x.toBitVec.toNat = n := by omega
  rw [this]
theorem tk_nxsl {so : Int32} {h0 pr : Nat} (h : so.toInt = (((h0 + pr) % 1024 : Nat) : Int)) : (so + 1 &&& 1023).toInt = (((h0 + (pr + 1)) % 1024 : Nat) : Int) := by
  have e : (so + 1).toInt = (((h0 + pr) % 1024 + 1 : Nat) : Int) := by
    rw [Int32.toInt_add, show (1 : Int32).toInt = 1 from rfl, h]
    have : (h0 + pr) % 1024 < 1024 := Nat.mod_lt _ (by decide)
    rw [pq_bm (by omega) (by omega)]
    omega
  rw [tk_a10 e]
  congr 1
  omega
theorem tk_cp7 {f g : Nat → Int64} {d i : Nat} : va_cpy f g 0 d 7 i = if d ≤ i ∧ i < d + 7 then f (i - d) else g i := by
  unfold va_cpy
  simp only [Nat.zero_add]

set_option maxHeartbeats 4000000 in
set_option maxRecDepth 100000 in
theorem k_X8_newStateG (l : Launch) (D : va_G) (cy : Nat → ClassId) (S : HS) (a : Nat) (ha : pq_R S a 11) (so : Int32) (hso0 : 0 ≤ so.toInt) (hso1 : so.toInt ≤ 1023) (sl se gl : Nat) (ss cr0 : Int32) (e3 : hO S a 3 = .ref sl) (hsl : pq_R S sl 166) (e2 : hO S a 2 = .ref se) (hse : pq_R S se 197) (e5 : hO S a 5 = .ref gl) (hgl : pq_R S gl 199) (e7 : hO S a 7 = .int ss) (e9 : hO S a 9 = .int cr0) (nn : Nat) (hnn : ss.toInt = (nn : Int)) (hs0 : 2 ≤ nn) (hs1 : nn ≤ 402) : pq_C l D cy yX8_newState cX8_newState 3 (some .int) 1 0 0 S [.ref a, .int so] (fun v S2 => pq_Fr [(11, 7), (11, 9), (166, 0), (197, 0)] S S2 ∧ ∃ x : Int32, v = some (.int x) ∧ 0 ≤ x.toInt ∧ x.toInt ≤ 401 ∧ ((x = 0 ∧ nn = 402 ∧ hO S2 a 9 = .int 1 ∧ hO S2 a 7 = .int ss ∧ hJ S2 se = hJ S se ∧ hI S2 sl = hI S sl) ∨ (x = ss ∧ nn < 402 ∧ hO S2 a 9 = .int cr0 ∧ hO S2 a 7 = .int (ss + 1) ∧ (∀ i, i < 7 * nn → hJ S2 se i = hJ S se i) ∧ (∀ w, w < 7 → hJ S2 se (7 * nn + w) = hJ S gl w) ∧ hI S2 sl = upd (hI S sl) so.toInt.toNat ss))) := by
  refine pq_start (by decide) (Nat.le_of_ble_eq_true rfl) ?_
  intro p e s m args below meth c A F hr hlk hnm hA
  have lqm1 : (-1 : Int32).toInt = -1 := rfl
  have lq0 : (0 : Int32).toInt = 0 := rfl
  have lq1 : (1 : Int32).toInt = 1 := rfl
  have lq7 : (7 : Int32).toInt = 7 := rfl
  have lq402 : (402 : Int32).toInt = 402 := rfl
  refine pq_aload_n F dX8_newState_0 rfl rfl ?_
  refine pq_get F ha (by decide) lk_X8_42 e7 dX8_newState_1 ?_
  refine pq_sipush (v := 402) F dX8_newState_4 (by decide) ?_
  refine pq_icmp_lt (tgt := 17) F dX8_newState_7 (by decide) (fun c7 => ?_) (fun c7 => ?_)
  · skip
    refine pq_aload_n F dX8_newState_17 rfl rfl ?_
    refine pq_get F ha (by decide) lk_X8_42 e7 dX8_newState_18 ?_
    refine pq_istore_n F dX8_newState_21 rfl (by decide) ?_
    refine pq_aload_n F dX8_newState_22 rfl rfl ?_
    refine pq_dup F dX8_newState_23 rfl ?_
    refine pq_get F ha (by decide) lk_X8_42 e7 dX8_newState_24 ?_
    refine pq_iconst (v := 1) F dX8_newState_27 (by decide) ?_
    refine pq_iadd F dX8_newState_28 ?_
    refine pq_putI F ha (by decide) lp_X8_42 rfl (by focus (simp only [vp_in_iff, Int32.lt_iff_toInt_lt, Int32.le_iff_toInt_le, ← Int32.toInt_inj, Int32.toInt_add, Int32.toInt_sub, Int32.toInt_mul, Int32.toInt_neg, pq_NuO, pq_NuI, pq_NuJ, pq_NuR, pq_shr6, pq_shr7, pq_shr8, lqm1, lq0, lq1, lq7, lq402] at *; (try simp (disch := omega) only [pq_bm] at *); all_goals omega)) (by focus (simp only [vp_in_iff, Int32.lt_iff_toInt_lt, Int32.le_iff_toInt_le, ← Int32.toInt_inj, Int32.toInt_add, Int32.toInt_sub, Int32.toInt_mul, Int32.toInt_neg, pq_NuO, pq_NuI, pq_NuJ, pq_NuR, pq_shr6, pq_shr7, pq_shr8, lqm1, lq0, lq1, lq7, lq402] at *; (try simp (disch := omega) only [pq_bm] at *); all_goals omega)) dX8_newState_29 ?_
    refine pq_aload_n F dX8_newState_32 rfl rfl ?_
    refine pq_get F ha (by decide) lk_X8_22 (pq_kp e3 (by decide)) dX8_newState_33 ?_
    refine pq_iload_n F dX8_newState_36 rfl rfl ?_
    refine pq_iload_n F dX8_newState_37 rfl rfl ?_
    refine pq_iast F hsl (by decide) (by decide) rfl (fun n1_38 n2_38 => (by focus (simp only [vp_in_iff, Int32.lt_iff_toInt_lt, Int32.le_iff_toInt_le, ← Int32.toInt_inj, Int32.toInt_add, Int32.toInt_sub, Int32.toInt_mul, Int32.toInt_neg, pq_NuO, pq_NuI, pq_NuJ, pq_NuR, pq_shr6, pq_shr7, pq_shr8, lqm1, lq0, lq1, lq7, lq402] at *; (try simp (disch := omega) only [pq_bm] at *); all_goals omega))) (⟨(by focus (simp only [vp_in_iff, Int32.lt_iff_toInt_lt, Int32.le_iff_toInt_le, ← Int32.toInt_inj, Int32.toInt_add, Int32.toInt_sub, Int32.toInt_mul, Int32.toInt_neg, pq_NuO, pq_NuI, pq_NuJ, pq_NuR, pq_shr6, pq_shr7, pq_shr8, lqm1, lq0, lq1, lq7, lq402] at *; (try simp (disch := omega) only [pq_bm] at *); all_goals omega)), (by focus (simp only [vp_in_iff, Int32.lt_iff_toInt_lt, Int32.le_iff_toInt_le, ← Int32.toInt_inj, Int32.toInt_add, Int32.toInt_sub, Int32.toInt_mul, Int32.toInt_neg, pq_NuO, pq_NuI, pq_NuJ, pq_NuR, pq_shr6, pq_shr7, pq_shr8, lqm1, lq0, lq1, lq7, lq402] at *; (try simp (disch := omega) only [pq_bm] at *); all_goals omega))⟩) dX8_newState_38 ?_
    refine pq_aload_n F dX8_newState_39 rfl rfl ?_
    refine pq_get F ha (by decide) lk_X8_29 (pq_kp e5 (by decide)) dX8_newState_40 ?_
    refine pq_iconst (v := 0) F dX8_newState_43 (by decide) ?_
    refine pq_aload_n F dX8_newState_44 rfl rfl ?_
    refine pq_get F ha (by decide) lk_X8_18 (pq_kp e2 (by decide)) dX8_newState_45 ?_
    refine pq_iload_n F dX8_newState_48 rfl rfl ?_
    refine pq_bipush (v := 7) F dX8_newState_49 (by decide) ?_
    refine pq_imul F dX8_newState_51 ?_
    refine pq_bipush (v := 7) F dX8_newState_52 (by decide) ?_
    refine pq_lenF hgl (by decide) rfl (fun l1 l2 => ?_)
    refine pq_lenF hse (by decide) rfl (fun l3 l4 => ?_)
    have c7 := pq_cl (x := ss * 7) (by focus (simp only [vp_in_iff, Int32.lt_iff_toInt_lt, Int32.le_iff_toInt_le, ← Int32.toInt_inj, Int32.toInt_add, Int32.toInt_sub, Int32.toInt_mul, Int32.toInt_neg, pq_NuO, pq_NuI, pq_NuJ, pq_NuR, pq_shr6, pq_shr7, pq_shr8, lqm1, lq0, lq1, lq7, lq402] at *; (try simp (disch := omega) only [pq_bm] at *); all_goals omega))
    refine pq_copyJ F cw_X8_132 hgl hse (by decide) (by decide) (by decide) (by decide) (by focus (simp only [vp_in_iff, Int32.lt_iff_toInt_lt, Int32.le_iff_toInt_le, ← Int32.toInt_inj, Int32.toInt_add, Int32.toInt_sub, Int32.toInt_mul, Int32.toInt_neg, pq_NuO, pq_NuI, pq_NuJ, pq_NuR, pq_shr6, pq_shr7, pq_shr8, lqm1, lq0, lq1, lq7, lq402] at *; (try simp (disch := omega) only [pq_bm] at *); all_goals omega)) (by focus (simp only [vp_in_iff, Int32.lt_iff_toInt_lt, Int32.le_iff_toInt_le, ← Int32.toInt_inj, Int32.toInt_add, Int32.toInt_sub, Int32.toInt_mul, Int32.toInt_neg, pq_NuO, pq_NuI, pq_NuJ, pq_NuR, pq_shr6, pq_shr7, pq_shr8, lqm1, lq0, lq1, lq7, lq402] at *; (try simp (disch := omega) only [pq_bm] at *); all_goals omega)) (by focus (simp only [vp_in_iff, Int32.lt_iff_toInt_lt, Int32.le_iff_toInt_le, ← Int32.toInt_inj, Int32.toInt_add, Int32.toInt_sub, Int32.toInt_mul, Int32.toInt_neg, pq_NuO, pq_NuI, pq_NuJ, pq_NuR, pq_shr6, pq_shr7, pq_shr8, lqm1, lq0, lq1, lq7, lq402] at *; (try simp (disch := omega) only [pq_bm] at *); all_goals omega)) (by show 0 + 7 ≤ _; focus (simp only [vp_in_iff, Int32.lt_iff_toInt_lt, Int32.le_iff_toInt_le, ← Int32.toInt_inj, Int32.toInt_add, Int32.toInt_sub, Int32.toInt_mul, Int32.toInt_neg, pq_NuO, pq_NuI, pq_NuJ, pq_NuR, pq_shr6, pq_shr7, pq_shr8, lqm1, lq0, lq1, lq7, lq402] at *; (try simp (disch := omega) only [pq_bm] at *); all_goals omega)) (by show _ + 7 ≤ _; focus (simp only [vp_in_iff, Int32.lt_iff_toInt_lt, Int32.le_iff_toInt_le, ← Int32.toInt_inj, Int32.toInt_add, Int32.toInt_sub, Int32.toInt_mul, Int32.toInt_neg, pq_NuO, pq_NuI, pq_NuJ, pq_NuR, pq_shr6, pq_shr7, pq_shr8, lqm1, lq0, lq1, lq7, lq402] at *; (try simp (disch := omega) only [pq_bm] at *); all_goals omega)) ⟨Nat.le_of_ble_eq_true rfl, Nat.le_of_ble_eq_true rfl⟩ dX8_newState_54 ?_
    refine pq_iload_n F dX8_newState_57 rfl rfl ?_
    exact pq_iret F hr hlk hA (Nat.le_refl _) (Nat.le_refl _) ((by have c7 := pq_cl (x := ss * 7) (by focus (simp only [vp_in_iff, Int32.lt_iff_toInt_lt, Int32.le_iff_toInt_le, ← Int32.toInt_inj, Int32.toInt_add, Int32.toInt_sub, Int32.toInt_mul, Int32.toInt_neg, pq_NuO, pq_NuI, pq_NuJ, pq_NuR, pq_shr6, pq_shr7, pq_shr8, lqm1, lq0, lq1, lq7, lq402] at *; (try simp (disch := omega) only [pq_bm] at *); all_goals omega)); have c8 : (ss * 7).toNatClampNeg = 7 * nn := (by focus (simp only [vp_in_iff, Int32.lt_iff_toInt_lt, Int32.le_iff_toInt_le, ← Int32.toInt_inj, Int32.toInt_add, Int32.toInt_sub, Int32.toInt_mul, Int32.toInt_neg, pq_NuO, pq_NuI, pq_NuJ, pq_NuR, pq_shr6, pq_shr7, pq_shr8, lqm1, lq0, lq1, lq7, lq402] at *; (try simp (disch := omega) only [pq_bm] at *); all_goals omega)); have c9 : so.toNatClampNeg = so.toInt.toNat := (by have := pq_cl hso0; omega); have ng := pq_nrole hgl hse (by decide); refine ⟨(((pq_Fr.rf.uO ha (by decide)).uI hsl (by first | decide | exact List.mem_cons_self)).uJ hse (by decide)), ss, rfl, (by focus (simp only [vp_in_iff, Int32.lt_iff_toInt_lt, Int32.le_iff_toInt_le, ← Int32.toInt_inj, Int32.toInt_add, Int32.toInt_sub, Int32.toInt_mul, Int32.toInt_neg, pq_NuO, pq_NuI, pq_NuJ, pq_NuR, pq_shr6, pq_shr7, pq_shr8, lqm1, lq0, lq1, lq7, lq402] at *; (try simp (disch := omega) only [pq_bm] at *); all_goals omega)), (by focus (simp only [vp_in_iff, Int32.lt_iff_toInt_lt, Int32.le_iff_toInt_le, ← Int32.toInt_inj, Int32.toInt_add, Int32.toInt_sub, Int32.toInt_mul, Int32.toInt_neg, pq_NuO, pq_NuI, pq_NuJ, pq_NuR, pq_shr6, pq_shr7, pq_shr8, lqm1, lq0, lq1, lq7, lq402] at *; (try simp (disch := omega) only [pq_bm] at *); all_goals omega)), Or.inr ⟨rfl, (by focus (simp only [vp_in_iff, Int32.lt_iff_toInt_lt, Int32.le_iff_toInt_le, ← Int32.toInt_inj, Int32.toInt_add, Int32.toInt_sub, Int32.toInt_mul, Int32.toInt_neg, pq_NuO, pq_NuI, pq_NuJ, pq_NuR, pq_shr6, pq_shr7, pq_shr8, lqm1, lq0, lq1, lq7, lq402] at *; (try simp (disch := omega) only [pq_bm] at *); all_goals omega)), (pq_kp e9 (by decide)), pq_ks, (fun i hi => ?_), (fun w hv9 => ?_), ?_⟩⟩; (simp only [pq_IuO, pq_IuJ, pq_Iu, pq_JuO, pq_JuI, pq_Ju, pq_RuO, pq_RuJ, pq_RuI, if_true, if_false]; rw [c8]; show va_cpy _ _ 0 (7 * nn) 7 i = _; rw [tk_cp7, if_neg (by omega)]); (simp only [pq_IuO, pq_IuJ, pq_Iu, pq_JuO, pq_JuI, pq_Ju, pq_RuO, pq_RuJ, pq_RuI, if_true, if_false]; rw [c8]; show va_cpy _ _ 0 (7 * nn) 7 (7 * nn + w) = _; rw [tk_cp7, if_pos (by omega), show 7 * nn + w - 7 * nn = w by omega]); (simp only [pq_IuO, pq_IuJ, pq_Iu, pq_JuO, pq_JuI, pq_Ju, pq_RuO, pq_RuJ, pq_RuI, if_true, if_false]; rw [c9]))) dX8_newState_58
  · skip
    refine pq_aload_n F dX8_newState_10 rfl rfl ?_
    refine pq_iconst (v := 1) F dX8_newState_11 (by decide) ?_
    refine pq_putZ F ha (by decide) lp_X8_46 rfl (by focus (simp only [vp_in_iff, Int32.lt_iff_toInt_lt, Int32.le_iff_toInt_le, ← Int32.toInt_inj, Int32.toInt_add, Int32.toInt_sub, Int32.toInt_mul, Int32.toInt_neg, pq_NuO, pq_NuI, pq_NuJ, pq_NuR, pq_shr6, pq_shr7, pq_shr8, lqm1, lq0, lq1, lq7, lq402] at *; (try simp (disch := omega) only [pq_bm] at *); all_goals omega)) (by focus (simp only [vp_in_iff, Int32.lt_iff_toInt_lt, Int32.le_iff_toInt_le, ← Int32.toInt_inj, Int32.toInt_add, Int32.toInt_sub, Int32.toInt_mul, Int32.toInt_neg, pq_NuO, pq_NuI, pq_NuJ, pq_NuR, pq_shr6, pq_shr7, pq_shr8, lqm1, lq0, lq1, lq7, lq402] at *; (try simp (disch := omega) only [pq_bm] at *); all_goals omega)) dX8_newState_12 ?_
    refine pq_iconst (v := 0) F dX8_newState_15 (by decide) ?_
    exact pq_iret F hr hlk hA (Nat.le_refl _) (Nat.le_refl _) (⟨(pq_Fr.rf.uO ha (by decide)), 0, rfl, (by focus (simp only [vp_in_iff, Int32.lt_iff_toInt_lt, Int32.le_iff_toInt_le, ← Int32.toInt_inj, Int32.toInt_add, Int32.toInt_sub, Int32.toInt_mul, Int32.toInt_neg, pq_NuO, pq_NuI, pq_NuJ, pq_NuR, pq_shr6, pq_shr7, pq_shr8, lqm1, lq0, lq1, lq7, lq402] at *; (try simp (disch := omega) only [pq_bm] at *); all_goals omega)), (by focus (simp only [vp_in_iff, Int32.lt_iff_toInt_lt, Int32.le_iff_toInt_le, ← Int32.toInt_inj, Int32.toInt_add, Int32.toInt_sub, Int32.toInt_mul, Int32.toInt_neg, pq_NuO, pq_NuI, pq_NuJ, pq_NuR, pq_shr6, pq_shr7, pq_shr8, lqm1, lq0, lq1, lq7, lq402] at *; (try simp (disch := omega) only [pq_bm] at *); all_goals omega)), Or.inl ⟨rfl, (by focus (simp only [vp_in_iff, Int32.lt_iff_toInt_lt, Int32.le_iff_toInt_le, ← Int32.toInt_inj, Int32.toInt_add, Int32.toInt_sub, Int32.toInt_mul, Int32.toInt_neg, pq_NuO, pq_NuI, pq_NuJ, pq_NuR, pq_shr6, pq_shr7, pq_shr8, lqm1, lq0, lq1, lq7, lq402] at *; (try simp (disch := omega) only [pq_bm] at *); all_goals omega)), pq_ks, pq_kp e7 (by decide), rfl, rfl⟩⟩) dX8_newState_16

set_option maxHeartbeats 4000000 in
set_option maxRecDepth 100000 in
theorem k_X8_stateOfGoalG (l : Launch) (D : va_G) (cy : Nat → ClassId) (S : HS) (a : Nat) (ha : pq_R S a 11) (sl se gl : Nat) (ss cr0 : Int32) (e3 : hO S a 3 = .ref sl) (hsl : pq_R S sl 166) (e2 : hO S a 2 = .ref se) (hse : pq_R S se 197) (e5 : hO S a 5 = .ref gl) (hgl : pq_R S gl 199) (e7 : hO S a 7 = .int ss) (e9 : hO S a 9 = .int cr0) (nn : Nat) (hnn : ss.toInt = (nn : Int)) (hs0 : 2 ≤ nn) (hs1 : nn ≤ 402) (hH : tk_Hs (hI S sl) (hJ S se) nn) : pq_C l D cy yX8_stateOfGoal cX8_stateOfGoal 4 (some .int) 2 0 0 S [.ref a] (fun v S2 => pq_Fr [(11, 7), (11, 9), (166, 0), (197, 0)] S S2 ∧ ∃ x : Int32, v = some (.int x) ∧ 0 ≤ x.toInt ∧ x.toInt ≤ 401 ∧ (∃ (s2 cr2 : Int32) (m2 : Nat), (hO S2 a 7 = .int s2 ∧ s2.toInt = (m2 : Int) ∧ nn ≤ m2 ∧ m2 ≤ 402 ∧ hO S2 a 9 = .int cr2) ∧ tk_Hs (hI S2 sl) (hJ S2 se) m2 ∧ ((cr2 = 1 ∧ nn = 402 ∧ m2 = nn ∧ hJ S2 se = hJ S se ∧ ∀ t, 2 ≤ t → t < nn → tk_X (hJ S se) t ≠ tk_B0 (hJ S gl)) ∨ (cr2 = cr0 ∧ m2 = nn ∧ hJ S2 se = hJ S se ∧ ∃ u : Nat, x.toInt = (u : Int) ∧ 2 ≤ u ∧ u < nn ∧ tk_X (hJ S se) u = tk_B0 (hJ S gl)) ∨ (cr2 = cr0 ∧ m2 = nn + 1 ∧ x.toInt = (nn : Int) ∧ (∀ i, i < 7 * nn → hJ S2 se i = hJ S se i) ∧ tk_X (hJ S2 se) nn = tk_B0 (hJ S gl) ∧ ∀ t, 2 ≤ t → t < nn → tk_X (hJ S se) t ≠ tk_B0 (hJ S gl))))) := by
  refine pq_start (by decide) (Nat.le_of_ble_eq_true rfl) ?_
  intro p e s m args below meth c A F hr hlk hnm hA
  have lqm1 : (-1 : Int32).toInt = -1 := rfl
  have lq0 : (0 : Int32).toInt = 0 := rfl
  have lq1 : (1 : Int32).toInt = 1 := rfl
  have lq7 : (7 : Int32).toInt = 7 := rfl
  have lq1023 : (1023 : Int32).toInt = 1023 := rfl
  have lq1024 : (1024 : Int32).toInt = 1024 := rfl
  refine pq_lenF hgl (by decide) rfl (fun l1 l2 => ?_)
  refine pq_lenF hse (by decide) rfl (fun l3 l4 => ?_)
  have L7 : ∀ (g0 : Nat) (eg : tk_eg g0 (hJ S gl)) (fu : Nat)  (so : Int32) (pr : Int32) (pn : Nat) (hs4 : so.toInt = ((g0 + pn) % 1024 : Nat)) (hpn : pr.toInt = (pn : Int)) (hp1 : pn ≤ 1024) (hp9 : tk_Hp (hI S sl) (hJ S se) (hJ S gl) g0 pn), (1024 - pr.toInt).toNat < fu → pq_At p l e (pq_rm 2 0 0) s m args below meth c (pq_Z below args s D cy S 0 0 (fun v S2 => pq_Fr [(11, 7), (11, 9), (166, 0), (197, 0)] S S2 ∧ ∃ x : Int32, v = some (.int x) ∧ 0 ≤ x.toInt ∧ x.toInt ≤ 401 ∧ (∃ (s2 cr2 : Int32) (m2 : Nat), (hO S2 a 7 = .int s2 ∧ s2.toInt = (m2 : Int) ∧ nn ≤ m2 ∧ m2 ≤ 402 ∧ hO S2 a 9 = .int cr2) ∧ tk_Hs (hI S2 sl) (hJ S2 se) m2 ∧ ((cr2 = 1 ∧ nn = 402 ∧ m2 = nn ∧ hJ S2 se = hJ S se ∧ ∀ t, 2 ≤ t → t < nn → tk_X (hJ S se) t ≠ tk_B0 (hJ S gl)) ∨ (cr2 = cr0 ∧ m2 = nn ∧ hJ S2 se = hJ S se ∧ ∃ u : Nat, x.toInt = (u : Int) ∧ 2 ≤ u ∧ u < nn ∧ tk_X (hJ S se) u = tk_B0 (hJ S gl)) ∨ (cr2 = cr0 ∧ m2 = nn + 1 ∧ x.toInt = (nn : Int) ∧ (∀ i, i < 7 * nn → hJ S2 se i = hJ S se i) ∧ tk_X (hJ S2 se) nn = tk_B0 (hJ S gl) ∧ ∀ t, 2 ≤ t → t < nn → tk_X (hJ S se) t ≠ tk_B0 (hJ S gl)))))) D cy A 4 0 0 7 S [some (.ref a), some (.int so), some (.int pr), none] [] := by
    intro g0 eg fu
    induction fu with
    | zero => intro so pr pn hs4 hpn hp1 hp9 hm; exact absurd hm (Nat.not_lt_zero _)
    | succ fu ih =>
      intro so pr pn hs4 hpn hp1 hp9 hm
      have hm9 : (g0 + pn) % 1024 < 1024 := Nat.mod_lt _ (by decide)
      have eso2 : so.toInt.toNat = so.toNatClampNeg := (by have := pq_cl (x := so) (by omega); omega)
      have eso : so.toNatClampNeg = (g0 + pn) % 1024 := (by omega)
      refine pq_iload_n F dX8_stateOfGoal_7 rfl rfl ?_
      refine pq_sipush (v := 1024) F dX8_stateOfGoal_8 (by decide) ?_
      refine pq_icmp_ge (tgt := 66) F dX8_stateOfGoal_11 (by decide) (fun c11 => ?_) (fun c11 => ?_)
      · skip
        refine pq_iconst (v := 0) F dX8_stateOfGoal_66 (by decide) ?_
        exact pq_iret F hr hlk hA (Nat.le_refl _) (Nat.le_refl _) (⟨pq_Fr.rf, 0, rfl, (by focus ((try clear hH); (try clear eg); (try clear hp9); (try clear p1); (try clear p27); (try clear p44); (try clear ih); (try clear hnone); simp only [vp_in_iff, Int32.lt_iff_toInt_lt, Int32.le_iff_toInt_le, ← Int32.toInt_inj, Int32.toInt_add, Int32.toInt_sub, Int32.toInt_mul, Int32.toInt_neg, pq_NuO, pq_NuI, pq_NuJ, pq_NuR, pq_shr6, pq_shr7, pq_shr8, lqm1, lq0, lq1, lq7, lq1023, lq1024] at *; (try simp (disch := omega) only [pq_bm] at *); all_goals omega)), (by focus ((try clear hH); (try clear eg); (try clear hp9); (try clear p1); (try clear p27); (try clear p44); (try clear ih); (try clear hnone); simp only [vp_in_iff, Int32.lt_iff_toInt_lt, Int32.le_iff_toInt_le, ← Int32.toInt_inj, Int32.toInt_add, Int32.toInt_sub, Int32.toInt_mul, Int32.toInt_neg, pq_NuO, pq_NuI, pq_NuJ, pq_NuR, pq_shr6, pq_shr7, pq_shr8, lqm1, lq0, lq1, lq7, lq1023, lq1024] at *; (try simp (disch := omega) only [pq_bm] at *); all_goals omega)), (by exact (hH.full hs1 (by have e9 : pn = 1024 := (by focus ((try clear hH); (try clear eg); (try clear hp9); (try clear p1); (try clear p27); (try clear p44); (try clear ih); (try clear hnone); simp only [vp_in_iff, Int32.lt_iff_toInt_lt, Int32.le_iff_toInt_le, ← Int32.toInt_inj, Int32.toInt_add, Int32.toInt_sub, Int32.toInt_mul, Int32.toInt_neg, pq_NuO, pq_NuI, pq_NuJ, pq_NuR, pq_shr6, pq_shr7, pq_shr8, lqm1, lq0, lq1, lq7, lq1023, lq1024] at *; (try simp (disch := omega) only [pq_bm] at *); all_goals omega)); rw [e9] at hp9; exact hp9)).elim)⟩) dX8_stateOfGoal_67
      · skip
        refine pq_aload_n F dX8_stateOfGoal_14 rfl rfl ?_
        refine pq_get F ha (by decide) lk_X8_22 e3 dX8_stateOfGoal_15 ?_
        refine pq_iload_n F dX8_stateOfGoal_18 rfl rfl ?_
        refine pq_iald F hsl (by decide) (by decide) rfl (fun n1_19 n2_19 => (by focus ((try clear hH); (try clear eg); (try clear hp9); (try clear p1); (try clear p27); (try clear p44); (try clear ih); (try clear hnone); simp only [vp_in_iff, Int32.lt_iff_toInt_lt, Int32.le_iff_toInt_le, ← Int32.toInt_inj, Int32.toInt_add, Int32.toInt_sub, Int32.toInt_mul, Int32.toInt_neg, pq_NuO, pq_NuI, pq_NuJ, pq_NuR, pq_shr6, pq_shr7, pq_shr8, lqm1, lq0, lq1, lq7, lq1023, lq1024] at *; (try simp (disch := omega) only [pq_bm] at *); all_goals omega))) dX8_stateOfGoal_19 (fun x19 e19 l19 u19 => ?_)
        refine pq_istore_n F dX8_stateOfGoal_20 rfl (by decide) ?_
        refine pq_iload_n F dX8_stateOfGoal_21 rfl rfl ?_
        refine pq_if_ne (tgt := 31) F dX8_stateOfGoal_22 (by decide) (fun c22 => ?_) (fun c22 => ?_)
        · skip
          have hx9 : 2 ≤ x19.toInt ∧ x19.toInt < (nn : Int) := (by have w := hH.1 so.toInt.toNat (by omega); rw [eso2, ← e19] at w; rcases w with w | w; (exact absurd (Int32.toInt_inj.mp w) c22); exact w)
          refine pq_aload_n F dX8_stateOfGoal_31 rfl rfl ?_
          refine pq_get F ha (by decide) lk_X8_18 e2 dX8_stateOfGoal_32 ?_
          refine pq_iload_n F dX8_stateOfGoal_35 rfl rfl ?_
          refine pq_bipush (v := 7) F dX8_stateOfGoal_36 (by decide) ?_
          refine pq_imul F dX8_stateOfGoal_38 ?_
          refine pq_aload_n F dX8_stateOfGoal_39 rfl rfl ?_
          refine pq_get F ha (by decide) lk_X8_29 e5 dX8_stateOfGoal_40 ?_
          refine pq_iconst (v := 0) F dX8_stateOfGoal_43 (by decide) ?_
          refine pq_lenF hse (by decide) rfl (fun lna44_0 lnb44_0 => ?_)
          refine pq_lenF hgl (by decide) rfl (fun lna44_2 lnb44_2 => ?_)
          refine pq_callS (As := [_, _, _, _]) F (k_X10_sameRowG l D cy _ _ 197 ?_ ?_ ?_ _ ?_ _ 199 ?_ ?_ ?_ _ ?_ ?_ ?_ ?_ ?_ (7 * x19.toInt.toNat) 0 ?_ ?_) ml_X8_126 (Nat.le_of_ble_eq_true rfl) ⟨Nat.le_of_ble_eq_true rfl, Nat.le_of_ble_eq_true rfl⟩ ⟨by decide, by decide⟩ dX8_stateOfGoal_44 (fun v44 S44 w44 => ?_)
          · exact hse
          · first | decide | omega
          · first | decide | omega
          · focus ((try clear hH); (try clear eg); (try clear hp9); (try clear p1); (try clear p27); (try clear p44); (try clear ih); (try clear hnone); simp only [vp_in_iff, Int32.lt_iff_toInt_lt, Int32.le_iff_toInt_le, ← Int32.toInt_inj, Int32.toInt_add, Int32.toInt_sub, Int32.toInt_mul, Int32.toInt_neg, pq_NuO, pq_NuI, pq_NuJ, pq_NuR, pq_shr6, pq_shr7, pq_shr8, lqm1, lq0, lq1, lq7, lq1023, lq1024] at *; (try simp (disch := omega) only [pq_bm] at *); all_goals omega)
          · exact hgl
          · first | decide | omega
          · first | decide | omega
          · focus ((try clear hH); (try clear eg); (try clear hp9); (try clear p1); (try clear p27); (try clear p44); (try clear ih); (try clear hnone); simp only [vp_in_iff, Int32.lt_iff_toInt_lt, Int32.le_iff_toInt_le, ← Int32.toInt_inj, Int32.toInt_add, Int32.toInt_sub, Int32.toInt_mul, Int32.toInt_neg, pq_NuO, pq_NuI, pq_NuJ, pq_NuR, pq_shr6, pq_shr7, pq_shr8, lqm1, lq0, lq1, lq7, lq1023, lq1024] at *; (try simp (disch := omega) only [pq_bm] at *); all_goals omega)
          · focus ((try clear hH); (try clear eg); (try clear hp9); (try clear p1); (try clear p27); (try clear p44); (try clear ih); (try clear hnone); simp only [vp_in_iff, Int32.lt_iff_toInt_lt, Int32.le_iff_toInt_le, ← Int32.toInt_inj, Int32.toInt_add, Int32.toInt_sub, Int32.toInt_mul, Int32.toInt_neg, pq_NuO, pq_NuI, pq_NuJ, pq_NuR, pq_shr6, pq_shr7, pq_shr8, lqm1, lq0, lq1, lq7, lq1023, lq1024] at *; (try simp (disch := omega) only [pq_bm] at *); all_goals omega)
          · focus ((try clear hH); (try clear eg); (try clear hp9); (try clear p1); (try clear p27); (try clear p44); (try clear ih); (try clear hnone); simp only [vp_in_iff, Int32.lt_iff_toInt_lt, Int32.le_iff_toInt_le, ← Int32.toInt_inj, Int32.toInt_add, Int32.toInt_sub, Int32.toInt_mul, Int32.toInt_neg, pq_NuO, pq_NuI, pq_NuJ, pq_NuR, pq_shr6, pq_shr7, pq_shr8, lqm1, lq0, lq1, lq7, lq1023, lq1024] at *; (try simp (disch := omega) only [pq_bm] at *); all_goals omega)
          · focus ((try clear hH); (try clear eg); (try clear hp9); (try clear p1); (try clear p27); (try clear p44); (try clear ih); (try clear hnone); simp only [vp_in_iff, Int32.lt_iff_toInt_lt, Int32.le_iff_toInt_le, ← Int32.toInt_inj, Int32.toInt_add, Int32.toInt_sub, Int32.toInt_mul, Int32.toInt_neg, pq_NuO, pq_NuI, pq_NuJ, pq_NuR, pq_shr6, pq_shr7, pq_shr8, lqm1, lq0, lq1, lq7, lq1023, lq1024] at *; (try simp (disch := omega) only [pq_bm] at *); all_goals omega)
          · focus ((try clear hH); (try clear eg); (try clear hp9); (try clear p1); (try clear p27); (try clear p44); (try clear ih); (try clear hnone); simp only [vp_in_iff, Int32.lt_iff_toInt_lt, Int32.le_iff_toInt_le, ← Int32.toInt_inj, Int32.toInt_add, Int32.toInt_sub, Int32.toInt_mul, Int32.toInt_neg, pq_NuO, pq_NuI, pq_NuJ, pq_NuR, pq_shr6, pq_shr7, pq_shr8, lqm1, lq0, lq1, lq7, lq1023, lq1024] at *; (try simp (disch := omega) only [pq_bm] at *); all_goals omega)
          · focus ((try clear hH); (try clear eg); (try clear hp9); (try clear p1); (try clear p27); (try clear p44); (try clear ih); (try clear hnone); simp only [vp_in_iff, Int32.lt_iff_toInt_lt, Int32.le_iff_toInt_le, ← Int32.toInt_inj, Int32.toInt_add, Int32.toInt_sub, Int32.toInt_mul, Int32.toInt_neg, pq_NuO, pq_NuI, pq_NuJ, pq_NuR, pq_shr6, pq_shr7, pq_shr8, lqm1, lq0, lq1, lq7, lq1023, lq1024] at *; (try simp (disch := omega) only [pq_bm] at *); all_goals omega)
          · focus ((try clear hH); (try clear eg); (try clear hp9); (try clear p1); (try clear p27); (try clear p44); (try clear ih); (try clear hnone); simp only [vp_in_iff, Int32.lt_iff_toInt_lt, Int32.le_iff_toInt_le, ← Int32.toInt_inj, Int32.toInt_add, Int32.toInt_sub, Int32.toInt_mul, Int32.toInt_neg, pq_NuO, pq_NuI, pq_NuJ, pq_NuR, pq_shr6, pq_shr7, pq_shr8, lqm1, lq0, lq1, lq7, lq1023, lq1024] at *; (try simp (disch := omega) only [pq_bm] at *); all_goals omega)
          obtain ⟨u44, y44, rfl, yl44_0, yl44_1, p44⟩ := w44
          rw [u44]
          try rw [u44] at p44
          refine pq_if_eq (tgt := 52) F dX8_stateOfGoal_47 (by decide) (fun c47 => ?_) (fun c47 => ?_)
          · skip
            refine pq_iload_n F dX8_stateOfGoal_52 rfl rfl ?_
            refine pq_iconst (v := 1) F dX8_stateOfGoal_53 (by decide) ?_
            refine pq_iadd F dX8_stateOfGoal_54 ?_
            refine pq_sipush (v := 1023) F dX8_stateOfGoal_55 (by decide) ?_
            refine pq_iand F dX8_stateOfGoal_58 ?_
            refine pq_istore_n F dX8_stateOfGoal_59 rfl (by decide) ?_
            refine pq_iinc (v := 1) F dX8_stateOfGoal_60 rfl (by decide) (by decide) ?_
            refine pq_goto (tgt := 7) F dX8_stateOfGoal_63 (by decide) ?_
            exact pq_fgm [true, true, true, false] (ih _ _ (pn + 1) (tk_nxsl hs4) (by focus ((try clear hH); (try clear eg); (try clear hp9); (try clear p1); (try clear p27); (try clear p44); (try clear ih); (try clear hnone); simp only [vp_in_iff, Int32.lt_iff_toInt_lt, Int32.le_iff_toInt_le, ← Int32.toInt_inj, Int32.toInt_add, Int32.toInt_sub, Int32.toInt_mul, Int32.toInt_neg, pq_NuO, pq_NuI, pq_NuJ, pq_NuR, pq_shr6, pq_shr7, pq_shr8, lqm1, lq0, lq1, lq7, lq1023, lq1024] at *; (try simp (disch := omega) only [pq_bm] at *); all_goals omega)) (by focus ((try clear hH); (try clear eg); (try clear hp9); (try clear p1); (try clear p27); (try clear p44); (try clear ih); (try clear hnone); simp only [vp_in_iff, Int32.lt_iff_toInt_lt, Int32.le_iff_toInt_le, ← Int32.toInt_inj, Int32.toInt_add, Int32.toInt_sub, Int32.toInt_mul, Int32.toInt_neg, pq_NuO, pq_NuI, pq_NuJ, pq_NuR, pq_shr6, pq_shr7, pq_shr8, lqm1, lq0, lq1, lq7, lq1023, lq1024] at *; (try simp (disch := omega) only [pq_bm] at *); all_goals omega)) (fun d hd => (by by_cases e : d = pn; (rw [e, ← eso, ← e19]; exact ⟨by omega, fun t et ex => (by have w := p44.mpr (fun w hv9 => (by rw [show x19.toInt.toNat = t by omega, Nat.zero_add]; exact tk_XB.mp ex w hv9)); rw [w] at c47; exact absurd c47 (by decide))⟩); exact hp9 d (by omega))) (by focus ((try clear hH); (try clear eg); (try clear hp9); (try clear p1); (try clear p27); (try clear p44); (try clear ih); (try clear hnone); simp only [vp_in_iff, Int32.lt_iff_toInt_lt, Int32.le_iff_toInt_le, ← Int32.toInt_inj, Int32.toInt_add, Int32.toInt_sub, Int32.toInt_mul, Int32.toInt_neg, pq_NuO, pq_NuI, pq_NuJ, pq_NuR, pq_shr6, pq_shr7, pq_shr8, lqm1, lq0, lq1, lq7, lq1023, lq1024] at *; (try simp (disch := omega) only [pq_bm] at *); all_goals omega)))
          · skip
            refine pq_iload_n F dX8_stateOfGoal_50 rfl rfl ?_
            exact pq_iret F hr hlk hA (Nat.le_refl _) (Nat.le_refl _) (⟨pq_Fr.rf, _, rfl, (by focus ((try clear hH); (try clear eg); (try clear hp9); (try clear p1); (try clear p27); (try clear p44); (try clear ih); (try clear hnone); simp only [vp_in_iff, Int32.lt_iff_toInt_lt, Int32.le_iff_toInt_le, ← Int32.toInt_inj, Int32.toInt_add, Int32.toInt_sub, Int32.toInt_mul, Int32.toInt_neg, pq_NuO, pq_NuI, pq_NuJ, pq_NuR, pq_shr6, pq_shr7, pq_shr8, lqm1, lq0, lq1, lq7, lq1023, lq1024] at *; (try simp (disch := omega) only [pq_bm] at *); all_goals omega)), (by focus ((try clear hH); (try clear eg); (try clear hp9); (try clear p1); (try clear p27); (try clear p44); (try clear ih); (try clear hnone); simp only [vp_in_iff, Int32.lt_iff_toInt_lt, Int32.le_iff_toInt_le, ← Int32.toInt_inj, Int32.toInt_add, Int32.toInt_sub, Int32.toInt_mul, Int32.toInt_neg, pq_NuO, pq_NuI, pq_NuJ, pq_NuR, pq_shr6, pq_shr7, pq_shr8, lqm1, lq0, lq1, lq7, lq1023, lq1024] at *; (try simp (disch := omega) only [pq_bm] at *); all_goals omega)), ss, cr0, nn, ⟨e7, hnn, Nat.le_refl _, hs1, e9⟩, hH, Or.inr (Or.inl ⟨rfl, rfl, rfl, x19.toInt.toNat, (by omega), (by omega), (by omega), tk_XB.mpr (fun w hv9 => (by have u := (p44.mp (Int32.toInt_inj.mp (by focus ((try clear hH); (try clear eg); (try clear hp9); (try clear p1); (try clear p27); (try clear p44); (try clear ih); (try clear hnone); simp only [vp_in_iff, Int32.lt_iff_toInt_lt, Int32.le_iff_toInt_le, ← Int32.toInt_inj, Int32.toInt_add, Int32.toInt_sub, Int32.toInt_mul, Int32.toInt_neg, pq_NuO, pq_NuI, pq_NuJ, pq_NuR, pq_shr6, pq_shr7, pq_shr8, lqm1, lq0, lq1, lq7, lq1023, lq1024] at *; (try simp (disch := omega) only [pq_bm] at *); all_goals omega)))) w hv9; rw [Nat.zero_add] at u; exact u))⟩)⟩) dX8_stateOfGoal_51
        · skip
          have hz9 : (hI S sl ((g0 + pn) % 1024)).toInt = 0 := (by rw [← eso, ← e19]; exact congrArg Int32.toInt c22)
          have hnone := hH.none eg hp9 hz9
          refine pq_aload_n F dX8_stateOfGoal_25 rfl rfl ?_
          refine pq_iload_n F dX8_stateOfGoal_26 rfl rfl ?_
          refine pq_callV (As := [_]) F (k_X8_newStateG l D cy _ _ ?_ _ ?_ ?_ sl se gl ss cr0 e3 hsl e2 hse e5 hgl e7 e9 nn hnn hs0 hs1) ml_X8_122 ha (by decide) rfl (Nat.le_of_ble_eq_true rfl) ⟨Nat.le_of_ble_eq_true rfl, Nat.le_of_ble_eq_true rfl⟩ ⟨by decide, by decide⟩ dX8_stateOfGoal_27 (fun v27 S27 w27 => ?_)
          · exact ha
          · focus ((try clear hH); (try clear eg); (try clear hp9); (try clear p1); (try clear p27); (try clear p44); (try clear ih); (try clear hnone); simp only [vp_in_iff, Int32.lt_iff_toInt_lt, Int32.le_iff_toInt_le, ← Int32.toInt_inj, Int32.toInt_add, Int32.toInt_sub, Int32.toInt_mul, Int32.toInt_neg, pq_NuO, pq_NuI, pq_NuJ, pq_NuR, pq_shr6, pq_shr7, pq_shr8, lqm1, lq0, lq1, lq7, lq1023, lq1024] at *; (try simp (disch := omega) only [pq_bm] at *); all_goals omega)
          · focus ((try clear hH); (try clear eg); (try clear hp9); (try clear p1); (try clear p27); (try clear p44); (try clear ih); (try clear hnone); simp only [vp_in_iff, Int32.lt_iff_toInt_lt, Int32.le_iff_toInt_le, ← Int32.toInt_inj, Int32.toInt_add, Int32.toInt_sub, Int32.toInt_mul, Int32.toInt_neg, pq_NuO, pq_NuI, pq_NuJ, pq_NuR, pq_shr6, pq_shr7, pq_shr8, lqm1, lq0, lq1, lq7, lq1023, lq1024] at *; (try simp (disch := omega) only [pq_bm] at *); all_goals omega)
          obtain ⟨hF27, y27, rfl, yl27_0, yl27_1, p27⟩ := w27
          have ha_27 := (hF27.1 _ _ ha (by decide)).1
          have hsl_27 := (hF27.1 _ _ hsl (by decide)).1
          have ec27_3_ha_27 := hF27.O ha (by decide) (by decide) e3
          have hse_27 := (hF27.1 _ _ hse (by decide)).1
          have ec27_2_ha_27 := hF27.O ha (by decide) (by decide) e2
          have hgl_27 := (hF27.1 _ _ hgl (by decide)).1
          have ec27_5_ha_27 := hF27.O ha (by decide) (by decide) e5
          exact pq_iret F hr hlk hA (Nat.le_refl _) (Nat.le_refl _) ((by rcases p27 with ⟨w1, w2, w3, w4, w5, w6⟩ | ⟨w1, w2, w3, w4, w5, w6, w7⟩; (exact ⟨(pq_Fr.rf.cm hF27 (by decide)), _, rfl, (by focus ((try clear hH); (try clear eg); (try clear hp9); (try clear p1); (try clear p27); (try clear p44); (try clear ih); (try clear hnone); simp only [vp_in_iff, Int32.lt_iff_toInt_lt, Int32.le_iff_toInt_le, ← Int32.toInt_inj, Int32.toInt_add, Int32.toInt_sub, Int32.toInt_mul, Int32.toInt_neg, pq_NuO, pq_NuI, pq_NuJ, pq_NuR, pq_shr6, pq_shr7, pq_shr8, lqm1, lq0, lq1, lq7, lq1023, lq1024] at *; (try simp (disch := omega) only [pq_bm] at *); all_goals omega)), (by focus ((try clear hH); (try clear eg); (try clear hp9); (try clear p1); (try clear p27); (try clear p44); (try clear ih); (try clear hnone); simp only [vp_in_iff, Int32.lt_iff_toInt_lt, Int32.le_iff_toInt_le, ← Int32.toInt_inj, Int32.toInt_add, Int32.toInt_sub, Int32.toInt_mul, Int32.toInt_neg, pq_NuO, pq_NuI, pq_NuJ, pq_NuR, pq_shr6, pq_shr7, pq_shr8, lqm1, lq0, lq1, lq7, lq1023, lq1024] at *; (try simp (disch := omega) only [pq_bm] at *); all_goals omega)), ss, 1, nn, ⟨w4, hnn, Nat.le_refl _, hs1, w3⟩, (by rw [w5, w6]; exact hH), Or.inl ⟨rfl, w2, rfl, w5, hnone⟩⟩); (exact ⟨(pq_Fr.rf.cm hF27 (by decide)), _, rfl, (by focus ((try clear hH); (try clear eg); (try clear hp9); (try clear p1); (try clear p27); (try clear p44); (try clear ih); (try clear hnone); simp only [vp_in_iff, Int32.lt_iff_toInt_lt, Int32.le_iff_toInt_le, ← Int32.toInt_inj, Int32.toInt_add, Int32.toInt_sub, Int32.toInt_mul, Int32.toInt_neg, pq_NuO, pq_NuI, pq_NuJ, pq_NuR, pq_shr6, pq_shr7, pq_shr8, lqm1, lq0, lq1, lq7, lq1023, lq1024] at *; (try simp (disch := omega) only [pq_bm] at *); all_goals omega)), (by focus ((try clear hH); (try clear eg); (try clear hp9); (try clear p1); (try clear p27); (try clear p44); (try clear ih); (try clear hnone); simp only [vp_in_iff, Int32.lt_iff_toInt_lt, Int32.le_iff_toInt_le, ← Int32.toInt_inj, Int32.toInt_add, Int32.toInt_sub, Int32.toInt_mul, Int32.toInt_neg, pq_NuO, pq_NuI, pq_NuJ, pq_NuR, pq_shr6, pq_shr7, pq_shr8, lqm1, lq0, lq1, lq7, lq1023, lq1024] at *; (try simp (disch := omega) only [pq_bm] at *); all_goals omega)), ss + 1, cr0, nn + 1, ⟨w4, (by clear w5 w6 w7; focus ((try clear hH); (try clear eg); (try clear hp9); (try clear p1); (try clear p27); (try clear p44); (try clear ih); (try clear hnone); simp only [vp_in_iff, Int32.lt_iff_toInt_lt, Int32.le_iff_toInt_le, ← Int32.toInt_inj, Int32.toInt_add, Int32.toInt_sub, Int32.toInt_mul, Int32.toInt_neg, pq_NuO, pq_NuI, pq_NuJ, pq_NuR, pq_shr6, pq_shr7, pq_shr8, lqm1, lq0, lq1, lq7, lq1023, lq1024] at *; (try simp (disch := omega) only [pq_bm] at *); all_goals omega)), Nat.le_succ _, w2, w3⟩, (by rw [w7, eso2, eso]; exact hH.ins hs0 eg hp9 hz9 hnn w5 w6), Or.inr (Or.inr ⟨rfl, rfl, (by rw [w1]; exact hnn), w5, tk_XB.mpr w6, hnone⟩)⟩))) dX8_stateOfGoal_30
  refine pq_aload_n F dX8_stateOfGoal_0 rfl rfl ?_
  refine pq_callV (As := []) F (k_X8_slotOfGoalG l D cy _ _ ?_ gl e5 hgl) ml_X8_119 ha (by decide) rfl (Nat.le_of_ble_eq_true rfl) ⟨Nat.le_of_ble_eq_true rfl, Nat.le_of_ble_eq_true rfl⟩ ⟨by decide, by decide⟩ dX8_stateOfGoal_1 (fun v1 S1 w1 => ?_)
  · exact ha
  obtain ⟨u1, y1, rfl, yl1_0, yl1_1, p1⟩ := w1
  rw [u1]
  try rw [u1] at p1
  refine pq_istore_n F dX8_stateOfGoal_4 rfl (by decide) ?_
  refine pq_iconst (v := 0) F dX8_stateOfGoal_5 (by decide) ?_
  refine pq_istore_n F dX8_stateOfGoal_6 rfl (by decide) ?_
  exact pq_fgm [true, true, true, false] (L7 y1.toInt.toNat (by unfold tk_eg; rw [p1]) 2000 _ 0 0 (by clear p1; omega) rfl (Nat.zero_le _) (fun d hd => absurd hd (Nat.not_lt_zero _)) (by focus ((try clear hH); (try clear eg); (try clear hp9); (try clear p1); (try clear p27); (try clear p44); (try clear ih); (try clear hnone); simp only [vp_in_iff, Int32.lt_iff_toInt_lt, Int32.le_iff_toInt_le, ← Int32.toInt_inj, Int32.toInt_add, Int32.toInt_sub, Int32.toInt_mul, Int32.toInt_neg, pq_NuO, pq_NuI, pq_NuJ, pq_NuR, pq_shr6, pq_shr7, pq_shr8, lqm1, lq0, lq1, lq7, lq1023, lq1024] at *; (try simp (disch := omega) only [pq_bm] at *); all_goals omega)))

