/-- heads f and chain g of a table whose entries are lo .. n - 1: every chain goes down -/
def pq_ch (f g : Nat → Int32) (lo n : Int) : Prop := (∀ i : Nat, i < 1024 → (f i).toInt = -1 ∨ (lo ≤ (f i).toInt ∧ (f i).toInt < n)) ∧ ∀ s : Nat, lo ≤ (s : Int) → (s : Int) < n → (g s).toInt = -1 ∨ (lo ≤ (g s).toInt ∧ (g s).toInt < (s : Int))
theorem pq_ch.ins {f g : Nat → Int32} {lo n : Int} {h k : Nat} {x y : Int32} (H : pq_ch f g lo n) (hn : lo ≤ n) (hh : h < 1024) (hx : x = f h) (hy : y.toInt = n) (hk : (k : Int) = n) : pq_ch (upd f h y) (upd g k x) lo (n + 1) := by
  refine ⟨fun i hi => ?_, fun s h1 h2 => ?_⟩
  · by_cases e : i = h
    · subst e; rw [pk_us]; right; omega
    · rw [pk_un e]
      rcases H.1 i hi with h3 | h3
      · exact Or.inl h3
      · right; omega
  · by_cases e : s = k
    · subst e; rw [pk_us, hx]
      rcases H.1 h hh with h3 | h3
      · exact Or.inl h3
      · right; omega
    · rw [pk_un e]
      exact H.2 s h1 (by omega)

set_option maxHeartbeats 4000000 in
set_option maxRecDepth 100000 in
theorem k_X11_stateOf (l : Launch) (D : va_G) (cy : Nat → ClassId) (S : HS) (a : Nat) (ha : pq_R S a 14) (ah ac : Nat) (ns : Int32) (e29 : hO S a 29 = .ref ah) (hah : pq_R S ah 131) (e30 : hO S a 30 = .ref ac) (hac : pq_R S ac 132) (hns : hO S a 20 = .int ns) (hn0 : 1 ≤ ns.toInt) (hn1 : ns.toInt ≤ 401) (hc : pq_ch (hI S ah) (hI S ac) 1 ns.toInt) : pq_C l D cy yX11_stateOf cX11_stateOf 3 (some .int) 2 0 0 S [.ref a] (fun v S2 => pq_Fr [(182, 0), (132, 0), (131, 0), (14, 20)] S S2 ∧ ∃ x n2 : Int32, v = some (.int x) ∧ hO S2 a 20 = .int n2 ∧ ns.toInt ≤ n2.toInt ∧ n2.toInt ≤ 401 ∧ -1 ≤ x.toInt ∧ x.toInt < n2.toInt ∧ pq_ch (hI S2 ah) (hI S2 ac) 1 n2.toInt) := by
  refine pq_start (by decide) (Nat.le_of_ble_eq_true rfl) ?_
  intro p e s m args below meth c A F hr hlk hnm hA
  have qm1 : (-1 : Int32).toInt = -1 := rfl
  have q0 : (0 : Int32).toInt = 0 := rfl
  have q1 : (1 : Int32).toInt = 1 := rfl
  have q7 : (7 : Int32).toInt = 7 := rfl
  have q400 : (400 : Int32).toInt = 400 := rfl
  have L51 : ∀ (hh : Int32) (hh0 : 0 ≤ hh.toInt) (hh1 : hh.toInt ≤ 1023) (hn2 : ns.toInt ≤ 400) (fu : Nat) (S1 : HS) (k : Int32) (hF : pq_Fr [(182, 0), (132, 0), (131, 0), (14, 20)] S S1) (hG : pq_Fr [(182, 0)] S S1) (hk0 : 0 ≤ k.toInt) (hk1 : k.toInt ≤ 7), (7 - k.toInt).toNat < fu → pq_At p l e (pq_rm 2 0 0) s m args below meth c (pq_Z below args s D cy S 0 0 (fun v S2 => pq_Fr [(182, 0), (132, 0), (131, 0), (14, 20)] S S2 ∧ ∃ x n2 : Int32, v = some (.int x) ∧ hO S2 a 20 = .int n2 ∧ ns.toInt ≤ n2.toInt ∧ n2.toInt ≤ 401 ∧ -1 ≤ x.toInt ∧ x.toInt < n2.toInt ∧ pq_ch (hI S2 ah) (hI S2 ac) 1 n2.toInt)) D cy A 3 0 0 51 S1 [some (.ref a), some (.int hh), some (.int k)] [] := by
    intro hh hh0 hh1 hn2 fu
    induction fu with
    | zero => intro S1 k hF hG hk0 hk1 hm; exact absurd hm (Nat.not_lt_zero _)
    | succ fu ih =>
      intro S1 k hF hG hk0 hk1 hm
      have ha1 := hF.R ha (by decide)
      have hah1 := hF.R hah (by decide)
      have hac1 := hF.R hac (by decide)
      have e29a := hG.O ha (by decide) (by decide) e29
      have e30a := hG.O ha (by decide) (by decide) e30
      have hnsa := hG.O ha (by decide) (by decide) hns
      have i1 := hG.I hah (by decide) (by decide)
      have i2 := hG.I hac (by decide) (by decide)
      have cn := pq_cl (x := ns) (by omega)
      have chh := pq_cl (x := hh) (by omega)
      refine pq_iload_n F dX11_stateOf_51 rfl rfl ?_
      refine pq_bipush (v := 7) F dX11_stateOf_52 (by decide) ?_
      refine pq_icmp_ge (tgt := 83) F dX11_stateOf_54 (by decide) (fun c54 => ?_) (fun c54 => ?_)
      · skip
        refine pq_aload_n F dX11_stateOf_83 rfl rfl ?_
        refine pq_get F ha1 (by decide) lk_X11_156 e30a dX11_stateOf_84 ?_
        refine pq_aload_n F dX11_stateOf_87 rfl rfl ?_
        refine pq_get F ha1 (by decide) lk_X11_159 hnsa dX11_stateOf_88 ?_
        refine pq_aload_n F dX11_stateOf_91 rfl rfl ?_
        refine pq_get F ha1 (by decide) lk_X11_150 e29a dX11_stateOf_92 ?_
        refine pq_iload_n F dX11_stateOf_95 rfl rfl ?_
        refine pq_iald F hah1 (by decide) (by decide) rfl (fun n1_96 n2_96 => (by simp only [vp_in_iff, Int32.lt_iff_toInt_lt, Int32.le_iff_toInt_le, ← Int32.toInt_inj, Int32.toInt_add, Int32.toInt_sub, Int32.toInt_mul, Int32.toInt_neg, pq_NuO, pq_NuI, pq_NuJ, qm1, q0, q1, q7, q400] at *; (try simp (disch := omega) only [pq_bm] at *); all_goals omega)) dX11_stateOf_96 (fun x96 e96 l96 u96 => ?_)
        refine pq_iast F hac1 (by decide) (by decide) rfl (fun n1_97 n2_97 => (by simp only [vp_in_iff, Int32.lt_iff_toInt_lt, Int32.le_iff_toInt_le, ← Int32.toInt_inj, Int32.toInt_add, Int32.toInt_sub, Int32.toInt_mul, Int32.toInt_neg, pq_NuO, pq_NuI, pq_NuJ, qm1, q0, q1, q7, q400] at *; (try simp (disch := omega) only [pq_bm] at *); all_goals omega)) (⟨(by simp only [vp_in_iff, Int32.lt_iff_toInt_lt, Int32.le_iff_toInt_le, ← Int32.toInt_inj, Int32.toInt_add, Int32.toInt_sub, Int32.toInt_mul, Int32.toInt_neg, pq_NuO, pq_NuI, pq_NuJ, qm1, q0, q1, q7, q400] at *; (try simp (disch := omega) only [pq_bm] at *); all_goals omega), (by simp only [vp_in_iff, Int32.lt_iff_toInt_lt, Int32.le_iff_toInt_le, ← Int32.toInt_inj, Int32.toInt_add, Int32.toInt_sub, Int32.toInt_mul, Int32.toInt_neg, pq_NuO, pq_NuI, pq_NuJ, qm1, q0, q1, q7, q400] at *; (try simp (disch := omega) only [pq_bm] at *); all_goals omega)⟩) dX11_stateOf_97 ?_
        refine pq_aload_n F dX11_stateOf_98 rfl rfl ?_
        refine pq_get F ha1 (by decide) lk_X11_150 e29a dX11_stateOf_99 ?_
        refine pq_iload_n F dX11_stateOf_102 rfl rfl ?_
        refine pq_aload_n F dX11_stateOf_103 rfl rfl ?_
        refine pq_get F ha1 (by decide) lk_X11_159 hnsa dX11_stateOf_104 ?_
        refine pq_iast F hah1 (by decide) (by decide) rfl (fun n1_107 n2_107 => (by simp only [vp_in_iff, Int32.lt_iff_toInt_lt, Int32.le_iff_toInt_le, ← Int32.toInt_inj, Int32.toInt_add, Int32.toInt_sub, Int32.toInt_mul, Int32.toInt_neg, pq_NuO, pq_NuI, pq_NuJ, qm1, q0, q1, q7, q400] at *; (try simp (disch := omega) only [pq_bm] at *); all_goals omega)) (⟨(by simp only [vp_in_iff, Int32.lt_iff_toInt_lt, Int32.le_iff_toInt_le, ← Int32.toInt_inj, Int32.toInt_add, Int32.toInt_sub, Int32.toInt_mul, Int32.toInt_neg, pq_NuO, pq_NuI, pq_NuJ, qm1, q0, q1, q7, q400] at *; (try simp (disch := omega) only [pq_bm] at *); all_goals omega), (by simp only [vp_in_iff, Int32.lt_iff_toInt_lt, Int32.le_iff_toInt_le, ← Int32.toInt_inj, Int32.toInt_add, Int32.toInt_sub, Int32.toInt_mul, Int32.toInt_neg, pq_NuO, pq_NuI, pq_NuJ, qm1, q0, q1, q7, q400] at *; (try simp (disch := omega) only [pq_bm] at *); all_goals omega)⟩) dX11_stateOf_107 ?_
        refine pq_aload_n F dX11_stateOf_108 rfl rfl ?_
        refine pq_dup F dX11_stateOf_109 rfl ?_
        refine pq_get F ha1 (by decide) lk_X11_159 hnsa dX11_stateOf_110 ?_
        refine pq_iconst (v := 1) F dX11_stateOf_113 (by decide) ?_
        refine pq_iadd F dX11_stateOf_114 ?_
        refine pq_putI F ha1 (by decide) lp_X11_159 rfl (by simp only [vp_in_iff, Int32.lt_iff_toInt_lt, Int32.le_iff_toInt_le, ← Int32.toInt_inj, Int32.toInt_add, Int32.toInt_sub, Int32.toInt_mul, Int32.toInt_neg, pq_NuO, pq_NuI, pq_NuJ, qm1, q0, q1, q7, q400] at *; (try simp (disch := omega) only [pq_bm] at *); all_goals omega) (by simp only [vp_in_iff, Int32.lt_iff_toInt_lt, Int32.le_iff_toInt_le, ← Int32.toInt_inj, Int32.toInt_add, Int32.toInt_sub, Int32.toInt_mul, Int32.toInt_neg, pq_NuO, pq_NuI, pq_NuJ, qm1, q0, q1, q7, q400] at *; (try simp (disch := omega) only [pq_bm] at *); all_goals omega) dX11_stateOf_115 ?_
        refine pq_aload_n F dX11_stateOf_118 rfl rfl ?_
        refine pq_get F ha1 (by decide) lk_X11_159 pq_ks dX11_stateOf_119 ?_
        refine pq_iconst (v := 1) F dX11_stateOf_122 (by decide) ?_
        refine pq_isub F dX11_stateOf_123 ?_
        exact pq_iret F hr hlk hA (Nat.le_refl _) (Nat.le_refl _) (⟨(((hF.uI hac1 (by decide)).uI hah1 (by decide)).uO ha1 (by decide)), _, _, rfl, pq_ks, by simp only [vp_in_iff, Int32.lt_iff_toInt_lt, Int32.le_iff_toInt_le, ← Int32.toInt_inj, Int32.toInt_add, Int32.toInt_sub, Int32.toInt_mul, Int32.toInt_neg, pq_NuO, pq_NuI, pq_NuJ, qm1, q0, q1, q7, q400] at *; (try simp (disch := omega) only [pq_bm] at *); all_goals omega, by simp only [vp_in_iff, Int32.lt_iff_toInt_lt, Int32.le_iff_toInt_le, ← Int32.toInt_inj, Int32.toInt_add, Int32.toInt_sub, Int32.toInt_mul, Int32.toInt_neg, pq_NuO, pq_NuI, pq_NuJ, qm1, q0, q1, q7, q400] at *; (try simp (disch := omega) only [pq_bm] at *); all_goals omega, by simp only [vp_in_iff, Int32.lt_iff_toInt_lt, Int32.le_iff_toInt_le, ← Int32.toInt_inj, Int32.toInt_add, Int32.toInt_sub, Int32.toInt_mul, Int32.toInt_neg, pq_NuO, pq_NuI, pq_NuJ, qm1, q0, q1, q7, q400] at *; (try simp (disch := omega) only [pq_bm] at *); all_goals omega, by simp only [vp_in_iff, Int32.lt_iff_toInt_lt, Int32.le_iff_toInt_le, ← Int32.toInt_inj, Int32.toInt_add, Int32.toInt_sub, Int32.toInt_mul, Int32.toInt_neg, pq_NuO, pq_NuI, pq_NuJ, qm1, q0, q1, q7, q400] at *; (try simp (disch := omega) only [pq_bm] at *); all_goals omega, by show pq_ch (hI (pq_uI (pq_uI S1 ac _) ah _) ah) (hI (pq_uI (pq_uI S1 ac _) ah _) ac) 1 _; rw [pq_Ia, pq_Ib (S := pq_uI S1 ac _) (rb := 132) (ra := 131) hac1 hah1 (by decide), pq_Ia, pq_Ib (S := S1) (rb := 131) (ra := 132) hah1 hac1 (by decide), i1, i2]; have e9 : (ns + 1).toInt = ns.toInt + 1 := (by simp only [vp_in_iff, Int32.lt_iff_toInt_lt, Int32.le_iff_toInt_le, ← Int32.toInt_inj, Int32.toInt_add, Int32.toInt_sub, Int32.toInt_mul, Int32.toInt_neg, pq_NuO, pq_NuI, pq_NuJ, qm1, q0, q1, q7, q400] at *; (try simp (disch := omega) only [pq_bm] at *); all_goals omega); rw [e9]; exact hc.ins (by omega) (by omega) (by rw [← i1]; exact e96) rfl cn⟩) dX11_stateOf_124
      · skip
        refine pq_aload_n F dX11_stateOf_57 rfl rfl ?_
        refine pq_getR F ha1 (by decide) lk_X11_136 rfl dX11_stateOf_58 (fun r58 e58 h58 => ?_)
        refine pq_bipush (v := 7) F dX11_stateOf_61 (by decide) ?_
        refine pq_aload_n F dX11_stateOf_63 rfl rfl ?_
        refine pq_get F ha1 (by decide) lk_X11_159 hnsa dX11_stateOf_64 ?_
        refine pq_imul F dX11_stateOf_67 ?_
        refine pq_iload_n F dX11_stateOf_68 rfl rfl ?_
        refine pq_iadd F dX11_stateOf_69 ?_
        refine pq_aload_n F dX11_stateOf_70 rfl rfl ?_
        refine pq_getR F ha1 (by decide) lk_X11_139 rfl dX11_stateOf_71 (fun r71 e71 h71 => ?_)
        refine pq_iload_n F dX11_stateOf_74 rfl rfl ?_
        refine pq_lald F h71 (by decide) (by decide) rfl (fun n1_75 n2_75 => (by simp only [vp_in_iff, Int32.lt_iff_toInt_lt, Int32.le_iff_toInt_le, ← Int32.toInt_inj, Int32.toInt_add, Int32.toInt_sub, Int32.toInt_mul, Int32.toInt_neg, pq_NuO, pq_NuI, pq_NuJ, qm1, q0, q1, q7, q400] at *; (try simp (disch := omega) only [pq_bm] at *); all_goals omega)) dX11_stateOf_75 (fun x75 e75 => ?_)
        refine pq_last F h58 (by decide) (by decide) rfl (fun n1_76 n2_76 => (by simp only [vp_in_iff, Int32.lt_iff_toInt_lt, Int32.le_iff_toInt_le, ← Int32.toInt_inj, Int32.toInt_add, Int32.toInt_sub, Int32.toInt_mul, Int32.toInt_neg, pq_NuO, pq_NuI, pq_NuJ, qm1, q0, q1, q7, q400] at *; (try simp (disch := omega) only [pq_bm] at *); all_goals omega)) dX11_stateOf_76 ?_
        refine pq_iinc (v := 1) F dX11_stateOf_77 rfl (by decide) (by decide) ?_
        refine pq_goto (tgt := 51) F dX11_stateOf_80 (by decide) ?_
        exact ih _ _ (hF.uJ h58 (by decide)) (hG.uJ h58 (by decide)) (by simp only [vp_in_iff, Int32.lt_iff_toInt_lt, Int32.le_iff_toInt_le, ← Int32.toInt_inj, Int32.toInt_add, Int32.toInt_sub, Int32.toInt_mul, Int32.toInt_neg, pq_NuO, pq_NuI, pq_NuJ, qm1, q0, q1, q7, q400] at *; (try simp (disch := omega) only [pq_bm] at *); all_goals omega) (by simp only [vp_in_iff, Int32.lt_iff_toInt_lt, Int32.le_iff_toInt_le, ← Int32.toInt_inj, Int32.toInt_add, Int32.toInt_sub, Int32.toInt_mul, Int32.toInt_neg, pq_NuO, pq_NuI, pq_NuJ, qm1, q0, q1, q7, q400] at *; (try simp (disch := omega) only [pq_bm] at *); all_goals omega) (by simp only [vp_in_iff, Int32.lt_iff_toInt_lt, Int32.le_iff_toInt_le, ← Int32.toInt_inj, Int32.toInt_add, Int32.toInt_sub, Int32.toInt_mul, Int32.toInt_neg, pq_NuO, pq_NuI, pq_NuJ, qm1, q0, q1, q7, q400] at *; (try simp (disch := omega) only [pq_bm] at *); all_goals omega)
  have L12 : ∀ (hh : Int32) (hh0 : 0 ≤ hh.toInt) (hh1 : hh.toInt ≤ 1023) (fu : Nat) (q : Int32) (hq : q.toInt = -1 ∨ (1 ≤ q.toInt ∧ q.toInt < ns.toInt)), (q.toInt + 1).toNat < fu → pq_At p l e (pq_rm 2 0 0) s m args below meth c (pq_Z below args s D cy S 0 0 (fun v S2 => pq_Fr [(182, 0), (132, 0), (131, 0), (14, 20)] S S2 ∧ ∃ x n2 : Int32, v = some (.int x) ∧ hO S2 a 20 = .int n2 ∧ ns.toInt ≤ n2.toInt ∧ n2.toInt ≤ 401 ∧ -1 ≤ x.toInt ∧ x.toInt < n2.toInt ∧ pq_ch (hI S2 ah) (hI S2 ac) 1 n2.toInt)) D cy A 3 0 0 12 S [some (.ref a), some (.int hh), some (.int q)] [] := by
    intro hh hh0 hh1 fu
    induction fu with
    | zero => intro q hq hm; exact absurd hm (Nat.not_lt_zero _)
    | succ fu ih =>
      intro q hq hm
      refine pq_iload_n F dX11_stateOf_12 rfl rfl ?_
      refine pq_iconst (v := -1) F dX11_stateOf_13 (by decide) ?_
      refine pq_icmp_eq (tgt := 37) F dX11_stateOf_14 (by decide) (fun c14 => ?_) (fun c14 => ?_)
      · skip
        refine pq_aload_n F dX11_stateOf_37 rfl rfl ?_
        refine pq_get F ha (by decide) lk_X11_159 hns dX11_stateOf_38 ?_
        refine pq_sipush (v := 400) F dX11_stateOf_41 (by decide) ?_
        refine pq_icmp_le (tgt := 49) F dX11_stateOf_44 (by decide) (fun c44 => ?_) (fun c44 => ?_)
        · skip
          refine pq_iconst (v := 0) F dX11_stateOf_49 (by decide) ?_
          refine pq_istore_n F dX11_stateOf_50 rfl (by decide) ?_
          exact L51 hh hh0 hh1 (by simp only [vp_in_iff, Int32.lt_iff_toInt_lt, Int32.le_iff_toInt_le, ← Int32.toInt_inj, Int32.toInt_add, Int32.toInt_sub, Int32.toInt_mul, Int32.toInt_neg, pq_NuO, pq_NuI, pq_NuJ, qm1, q0, q1, q7, q400] at *; (try simp (disch := omega) only [pq_bm] at *); all_goals omega) 100 _ _ pq_Fr.rf pq_Fr.rf (by simp only [vp_in_iff, Int32.lt_iff_toInt_lt, Int32.le_iff_toInt_le, ← Int32.toInt_inj, Int32.toInt_add, Int32.toInt_sub, Int32.toInt_mul, Int32.toInt_neg, pq_NuO, pq_NuI, pq_NuJ, qm1, q0, q1, q7, q400] at *; (try simp (disch := omega) only [pq_bm] at *); all_goals omega) (by simp only [vp_in_iff, Int32.lt_iff_toInt_lt, Int32.le_iff_toInt_le, ← Int32.toInt_inj, Int32.toInt_add, Int32.toInt_sub, Int32.toInt_mul, Int32.toInt_neg, pq_NuO, pq_NuI, pq_NuJ, qm1, q0, q1, q7, q400] at *; (try simp (disch := omega) only [pq_bm] at *); all_goals omega) (by simp only [vp_in_iff, Int32.lt_iff_toInt_lt, Int32.le_iff_toInt_le, ← Int32.toInt_inj, Int32.toInt_add, Int32.toInt_sub, Int32.toInt_mul, Int32.toInt_neg, pq_NuO, pq_NuI, pq_NuJ, qm1, q0, q1, q7, q400] at *; (try simp (disch := omega) only [pq_bm] at *); all_goals omega)
        · skip
          refine pq_iconst (v := -1) F dX11_stateOf_47 (by decide) ?_
          exact pq_iret F hr hlk hA (Nat.le_refl _) (Nat.le_refl _) (⟨pq_Fr.rf, -1, ns, rfl, hns, by omega, hn1, by decide, by simp only [vp_in_iff, Int32.lt_iff_toInt_lt, Int32.le_iff_toInt_le, ← Int32.toInt_inj, Int32.toInt_add, Int32.toInt_sub, Int32.toInt_mul, Int32.toInt_neg, pq_NuO, pq_NuI, pq_NuJ, qm1, q0, q1, q7, q400] at *; (try simp (disch := omega) only [pq_bm] at *); all_goals omega, hc⟩) dX11_stateOf_48
      · skip
        refine pq_aload_n F dX11_stateOf_17 rfl rfl ?_
        refine pq_iload_n F dX11_stateOf_18 rfl rfl ?_
        refine pq_callV (As := [_]) F (k_X11_isSet l D cy _ _ ?_ _ ?_ ?_) ml_X11_153 ha (by decide) rfl (Nat.le_of_ble_eq_true rfl) ⟨Nat.le_of_ble_eq_true rfl, Nat.le_of_ble_eq_true rfl⟩ ⟨by decide, by decide⟩ dX11_stateOf_19 (fun v19 S19 w19 => ?_)
        · exact ha
        · simp only [vp_in_iff, Int32.lt_iff_toInt_lt, Int32.le_iff_toInt_le, ← Int32.toInt_inj, Int32.toInt_add, Int32.toInt_sub, Int32.toInt_mul, Int32.toInt_neg, pq_NuO, pq_NuI, pq_NuJ, qm1, q0, q1, q7, q400] at *; (try simp (disch := omega) only [pq_bm] at *); all_goals omega
        · simp only [vp_in_iff, Int32.lt_iff_toInt_lt, Int32.le_iff_toInt_le, ← Int32.toInt_inj, Int32.toInt_add, Int32.toInt_sub, Int32.toInt_mul, Int32.toInt_neg, pq_NuO, pq_NuI, pq_NuJ, qm1, q0, q1, q7, q400] at *; (try simp (disch := omega) only [pq_bm] at *); all_goals omega
        obtain ⟨rfl, z19, rfl, z19a, z19b⟩ := w19
        refine pq_if_eq (tgt := 27) F dX11_stateOf_22 (by decide) (fun c22 => ?_) (fun c22 => ?_)
        · skip
          refine pq_aload_n F dX11_stateOf_27 rfl rfl ?_
          refine pq_get F ha (by decide) lk_X11_156 e30 dX11_stateOf_28 ?_
          refine pq_iload_n F dX11_stateOf_31 rfl rfl ?_
          refine pq_iald F hac (by decide) (by decide) rfl (fun n1_32 n2_32 => (by simp only [vp_in_iff, Int32.lt_iff_toInt_lt, Int32.le_iff_toInt_le, ← Int32.toInt_inj, Int32.toInt_add, Int32.toInt_sub, Int32.toInt_mul, Int32.toInt_neg, pq_NuO, pq_NuI, pq_NuJ, qm1, q0, q1, q7, q400] at *; (try simp (disch := omega) only [pq_bm] at *); all_goals omega)) dX11_stateOf_32 (fun x32 e32 l32 u32 => ?_)
          refine pq_istore_n F dX11_stateOf_33 rfl (by decide) ?_
          refine pq_goto (tgt := 12) F dX11_stateOf_34 (by decide) ?_
          exact ih _ (by rcases hc.2 q.toNatClampNeg (by have := pq_cl (x := q) (by simp only [vp_in_iff, Int32.lt_iff_toInt_lt, Int32.le_iff_toInt_le, ← Int32.toInt_inj, Int32.toInt_add, Int32.toInt_sub, Int32.toInt_mul, Int32.toInt_neg, pq_NuO, pq_NuI, pq_NuJ, qm1, q0, q1, q7, q400] at *; (try simp (disch := omega) only [pq_bm] at *); all_goals omega); simp only [vp_in_iff, Int32.lt_iff_toInt_lt, Int32.le_iff_toInt_le, ← Int32.toInt_inj, Int32.toInt_add, Int32.toInt_sub, Int32.toInt_mul, Int32.toInt_neg, pq_NuO, pq_NuI, pq_NuJ, qm1, q0, q1, q7, q400] at *; (try simp (disch := omega) only [pq_bm] at *); all_goals omega) (by have := pq_cl (x := q) (by simp only [vp_in_iff, Int32.lt_iff_toInt_lt, Int32.le_iff_toInt_le, ← Int32.toInt_inj, Int32.toInt_add, Int32.toInt_sub, Int32.toInt_mul, Int32.toInt_neg, pq_NuO, pq_NuI, pq_NuJ, qm1, q0, q1, q7, q400] at *; (try simp (disch := omega) only [pq_bm] at *); all_goals omega); simp only [vp_in_iff, Int32.lt_iff_toInt_lt, Int32.le_iff_toInt_le, ← Int32.toInt_inj, Int32.toInt_add, Int32.toInt_sub, Int32.toInt_mul, Int32.toInt_neg, pq_NuO, pq_NuI, pq_NuJ, qm1, q0, q1, q7, q400] at *; (try simp (disch := omega) only [pq_bm] at *); all_goals omega) with h5 | h5 <;> rw [← e32] at h5 <;> (have := pq_cl (x := q) (by simp only [vp_in_iff, Int32.lt_iff_toInt_lt, Int32.le_iff_toInt_le, ← Int32.toInt_inj, Int32.toInt_add, Int32.toInt_sub, Int32.toInt_mul, Int32.toInt_neg, pq_NuO, pq_NuI, pq_NuJ, qm1, q0, q1, q7, q400] at *; (try simp (disch := omega) only [pq_bm] at *); all_goals omega); simp only [vp_in_iff, Int32.lt_iff_toInt_lt, Int32.le_iff_toInt_le, ← Int32.toInt_inj, Int32.toInt_add, Int32.toInt_sub, Int32.toInt_mul, Int32.toInt_neg, pq_NuO, pq_NuI, pq_NuJ, qm1, q0, q1, q7, q400] at *; (try simp (disch := omega) only [pq_bm] at *); all_goals omega)) (by rcases hc.2 q.toNatClampNeg (by have := pq_cl (x := q) (by simp only [vp_in_iff, Int32.lt_iff_toInt_lt, Int32.le_iff_toInt_le, ← Int32.toInt_inj, Int32.toInt_add, Int32.toInt_sub, Int32.toInt_mul, Int32.toInt_neg, pq_NuO, pq_NuI, pq_NuJ, qm1, q0, q1, q7, q400] at *; (try simp (disch := omega) only [pq_bm] at *); all_goals omega); simp only [vp_in_iff, Int32.lt_iff_toInt_lt, Int32.le_iff_toInt_le, ← Int32.toInt_inj, Int32.toInt_add, Int32.toInt_sub, Int32.toInt_mul, Int32.toInt_neg, pq_NuO, pq_NuI, pq_NuJ, qm1, q0, q1, q7, q400] at *; (try simp (disch := omega) only [pq_bm] at *); all_goals omega) (by have := pq_cl (x := q) (by simp only [vp_in_iff, Int32.lt_iff_toInt_lt, Int32.le_iff_toInt_le, ← Int32.toInt_inj, Int32.toInt_add, Int32.toInt_sub, Int32.toInt_mul, Int32.toInt_neg, pq_NuO, pq_NuI, pq_NuJ, qm1, q0, q1, q7, q400] at *; (try simp (disch := omega) only [pq_bm] at *); all_goals omega); simp only [vp_in_iff, Int32.lt_iff_toInt_lt, Int32.le_iff_toInt_le, ← Int32.toInt_inj, Int32.toInt_add, Int32.toInt_sub, Int32.toInt_mul, Int32.toInt_neg, pq_NuO, pq_NuI, pq_NuJ, qm1, q0, q1, q7, q400] at *; (try simp (disch := omega) only [pq_bm] at *); all_goals omega) with h5 | h5 <;> rw [← e32] at h5 <;> (have := pq_cl (x := q) (by simp only [vp_in_iff, Int32.lt_iff_toInt_lt, Int32.le_iff_toInt_le, ← Int32.toInt_inj, Int32.toInt_add, Int32.toInt_sub, Int32.toInt_mul, Int32.toInt_neg, pq_NuO, pq_NuI, pq_NuJ, qm1, q0, q1, q7, q400] at *; (try simp (disch := omega) only [pq_bm] at *); all_goals omega); simp only [vp_in_iff, Int32.lt_iff_toInt_lt, Int32.le_iff_toInt_le, ← Int32.toInt_inj, Int32.toInt_add, Int32.toInt_sub, Int32.toInt_mul, Int32.toInt_neg, pq_NuO, pq_NuI, pq_NuJ, qm1, q0, q1, q7, q400] at *; (try simp (disch := omega) only [pq_bm] at *); all_goals omega))
        · skip
          refine pq_iload_n F dX11_stateOf_25 rfl rfl ?_
          exact pq_iret F hr hlk hA (Nat.le_refl _) (Nat.le_refl _) (⟨pq_Fr.rf, q, ns, rfl, hns, by omega, hn1, by omega, by simp only [vp_in_iff, Int32.lt_iff_toInt_lt, Int32.le_iff_toInt_le, ← Int32.toInt_inj, Int32.toInt_add, Int32.toInt_sub, Int32.toInt_mul, Int32.toInt_neg, pq_NuO, pq_NuI, pq_NuJ, qm1, q0, q1, q7, q400] at *; (try simp (disch := omega) only [pq_bm] at *); all_goals omega, hc⟩) dX11_stateOf_26
  refine pq_aload_n F dX11_stateOf_0 rfl rfl ?_
  refine pq_callV (As := []) F (k_X11_mixture l D cy _ _ ?_) ml_X11_146 ha (by decide) rfl (Nat.le_of_ble_eq_true rfl) ⟨Nat.le_of_ble_eq_true rfl, Nat.le_of_ble_eq_true rfl⟩ ⟨by decide, by decide⟩ dX11_stateOf_1 (fun v1 S1 w1 => ?_)
  · exact ha
  obtain ⟨rfl, hh, rfl, hh0, hh1⟩ := w1
  refine pq_istore_n F dX11_stateOf_4 rfl (by decide) ?_
  refine pq_aload_n F dX11_stateOf_5 rfl rfl ?_
  refine pq_get F ha (by decide) lk_X11_150 e29 dX11_stateOf_6 ?_
  refine pq_iload_n F dX11_stateOf_9 rfl rfl ?_
  refine pq_iald F hah (by decide) (by decide) rfl (fun n1_10 n2_10 => (by simp only [vp_in_iff, Int32.lt_iff_toInt_lt, Int32.le_iff_toInt_le, ← Int32.toInt_inj, Int32.toInt_add, Int32.toInt_sub, Int32.toInt_mul, Int32.toInt_neg, pq_NuO, pq_NuI, pq_NuJ, qm1, q0, q1, q7, q400] at *; (try simp (disch := omega) only [pq_bm] at *); all_goals omega)) dX11_stateOf_10 (fun x10 e10 l10 u10 => ?_)
  refine pq_istore_n F dX11_stateOf_11 rfl (by decide) ?_
  exact L12 hh hh0 hh1 1000 _ (by have := hc.1 hh.toNatClampNeg (by have := pq_cl (x := hh) hh0; omega); rw [← e10] at this; exact this) (by have := u10; simp only [vp_in_iff, Int32.lt_iff_toInt_lt, Int32.le_iff_toInt_le, ← Int32.toInt_inj, Int32.toInt_add, Int32.toInt_sub, Int32.toInt_mul, Int32.toInt_neg, pq_NuO, pq_NuI, pq_NuJ, qm1, q0, q1, q7, q400] at *; (try simp (disch := omega) only [pq_bm] at *); all_goals omega)

