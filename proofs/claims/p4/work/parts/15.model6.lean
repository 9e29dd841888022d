/-- how many of the first n are 0 -/
def pq_z (f : Nat → Int32) : Nat → Nat
  | 0 => 0
  | n + 1 => pq_z f n + (if f n = 0 then 1 else 0)
theorem pq_z_upd {f : Nat → Int32} {s : Nat} {v : Int32} (hs : f s = 0) : ∀ n, pq_z (upd f s v) n ≤ pq_z f n ∧ (s < n → ¬ v = 0 → pq_z (upd f s v) n < pq_z f n)
  | 0 => ⟨Nat.le_refl _, fun h => absurd h (Nat.not_lt_zero _)⟩
  | n + 1 => by
    obtain ⟨h1, h2⟩ := pq_z_upd (f := f) (s := s) (v := v) hs n
    by_cases e : n = s
    · subst e
      have e2 : pq_z (upd f n v) n ≤ pq_z f n := h1
      simp only [pq_z, pk_us, hs, if_true]
      by_cases hv : v = 0
      · simp only [hv, if_true]; exact ⟨by rw [hv] at e2; omega, fun _ h => absurd trivial h⟩
      · simp only [hv, if_false]; exact ⟨by omega, fun _ _ => by omega⟩
    · simp only [pq_z, pk_un e]
      exact ⟨by omega, fun h3 h4 => by have := h2 (by omega) h4; omega⟩
theorem pq_nzz {x : Int32} (h0 : 0 ≤ x.toInt) (h1 : x.toInt ≤ 1) : vp_nar .boolean x = x := by
  have h : x = 0 ∨ x = 1 := by
    have h2 : x.toInt = 0 ∨ x.toInt = 1 := by omega
    rcases h2 with h2 | h2
    · left; exact Int32.toInt_inj.mp (by rw [h2]; rfl)
    · right; exact Int32.toInt_inj.mp (by rw [h2]; rfl)
  rcases h with rfl | rfl <;> rfl

set_option maxHeartbeats 4000000 in
set_option maxRecDepth 100000 in
theorem k_X11_findLiving (l : Launch) (D : va_G) (cy : Nat → ClassId) (S : HS) (a : Nat) (ha : pq_R S a 14) (lv : Nat) (ns : Int32) (e32 : hO S a 32 = .ref lv) (hlv : pq_R S lv 201) (hns : hO S a 20 = .int ns) (hn0 : 0 ≤ ns.toInt) (hn1 : ns.toInt ≤ 401) : pq_C l D cy yX11_findLiving cX11_findLiving 4 (none) 1 0 0 S [.ref a] (fun v S2 => v = none ∧ pq_Fr [(201, 0)] S S2) := by
  refine pq_start (by decide) (Nat.le_of_ble_eq_true rfl) ?_
  intro p e s m args below meth c A F hr hlk hnm hA
  have qm1 : (-1 : Int32).toInt = -1 := rfl
  have q0 : (0 : Int32).toInt = 0 := rfl
  have q1 : (1 : Int32).toInt = 1 := rfl
  have q128 : (128 : Int32).toInt = 128 := rfl
  have L58 : ∀ (q : Int32) (hq0 : 0 ≤ q.toInt) (hq1 : q.toInt ≤ 400) (z0 : Nat) (K : ∀ (S2 : HS) (mo2 : Int32) (hF2 : pq_Fr [(201, 0)] S S2) (hz3 : pq_z (hI S2 lv) 401 ≤ z0) (hz4 : mo2 = 0 ∨ pq_z (hI S2 lv) 401 < z0), pq_At p l e (pq_rm 1 0 0) s m args below meth c (pq_Z below args s D cy S 0 0 (fun v S2 => v = none ∧ pq_Fr [(201, 0)] S S2)) D cy A 4 0 0 122 S2 [some (.ref a), some (.int mo2), some (.int q), none] []) (fu : Nat) (S1 : HS) (mo b : Int32) (hF : pq_Fr [(201, 0)] S S1) (hb0 : 0 ≤ b.toInt) (hb1 : b.toInt ≤ 128) (hz1 : pq_z (hI S1 lv) 401 ≤ z0) (hz2 : mo = 0 ∨ pq_z (hI S1 lv) 401 < z0), (128 - b.toInt).toNat < fu → pq_At p l e (pq_rm 1 0 0) s m args below meth c (pq_Z below args s D cy S 0 0 (fun v S2 => v = none ∧ pq_Fr [(201, 0)] S S2)) D cy A 4 0 0 58 S1 [some (.ref a), some (.int mo), some (.int q), some (.int b)] [] := by
    intro q hq0 hq1 z0 K fu
    induction fu with
    | zero => intro S1 mo b hF hb0 hb1 hz1 hz2 hm; exact absurd hm (Nat.not_lt_zero _)
    | succ fu ih =>
      intro S1 mo b hF hb0 hb1 hz1 hz2 hm
      have ha1 := hF.R ha (by decide)
      have hlv1 := hF.R hlv (by decide)
      have e32a := hF.O ha (by decide) (by decide) e32
      have hnsa := hF.O ha (by decide) (by decide) hns
      refine pq_iload_n F dX11_findLiving_58 rfl rfl ?_
      refine pq_sipush (v := 128) F dX11_findLiving_59 (by decide) ?_
      refine pq_icmp_ge (tgt := 122) F dX11_findLiving_62 (by decide) (fun c62 => ?_) (fun c62 => ?_)
      · skip
        exact pq_fg (K _ mo hF hz1 hz2) (by repeat' (first | exact rfl | exact trivial | constructor))
      · skip
        refine pq_aload_n F dX11_findLiving_65 rfl rfl ?_
        refine pq_get F ha1 (by decide) lk_X11_184 e32a dX11_findLiving_66 ?_
        refine pq_iload_n F dX11_findLiving_69 rfl rfl ?_
        refine pq_zald F hlv1 (by decide) (by decide) rfl (fun n1_70 n2_70 => (by simp only [vp_in_iff, Int32.lt_iff_toInt_lt, Int32.le_iff_toInt_le, ← Int32.toInt_inj, Int32.toInt_add, Int32.toInt_sub, Int32.toInt_mul, Int32.toInt_neg, pq_NuO, pq_NuI, pq_NuJ, qm1, q0, q1, q128] at *; (try simp (disch := omega) only [pq_bm] at *); all_goals omega)) dX11_findLiving_70 (fun x70 e70 l70 u70 => ?_)
        refine pq_if_ne (tgt := 122) F dX11_findLiving_71 (by decide) (fun c71 => ?_) (fun c71 => ?_)
        · skip
          exact pq_fg (K _ mo hF hz1 hz2) (by repeat' (first | exact rfl | exact trivial | constructor))
        · skip
          refine pq_aload_n F dX11_findLiving_74 rfl rfl ?_
          refine pq_get F ha1 (by decide) lk_X11_184 e32a dX11_findLiving_75 ?_
          refine pq_iload_n F dX11_findLiving_78 rfl rfl ?_
          refine pq_aload_n F dX11_findLiving_79 rfl rfl ?_
          refine pq_get F ha1 (by decide) lk_X11_184 e32a dX11_findLiving_80 ?_
          refine pq_aload_n F dX11_findLiving_83 rfl rfl ?_
          refine pq_getR F ha1 (by decide) lk_X11_181 rfl dX11_findLiving_84 (fun r84 e84 h84 => ?_)
          refine pq_sipush (v := 128) F dX11_findLiving_87 (by decide) ?_
          refine pq_iload_n F dX11_findLiving_90 rfl rfl ?_
          refine pq_imul F dX11_findLiving_91 ?_
          refine pq_iload_n F dX11_findLiving_92 rfl rfl ?_
          refine pq_iadd F dX11_findLiving_93 ?_
          refine pq_iald F h84 (by decide) (by decide) rfl (fun n1_94 n2_94 => (by simp only [vp_in_iff, Int32.lt_iff_toInt_lt, Int32.le_iff_toInt_le, ← Int32.toInt_inj, Int32.toInt_add, Int32.toInt_sub, Int32.toInt_mul, Int32.toInt_neg, pq_NuO, pq_NuI, pq_NuJ, qm1, q0, q1, q128] at *; (try simp (disch := omega) only [pq_bm] at *); all_goals omega)) dX11_findLiving_94 (fun x94 e94 l94 u94 => ?_)
          refine pq_zald F hlv1 (by decide) (by decide) rfl (fun n1_95 n2_95 => (by simp only [vp_in_iff, Int32.lt_iff_toInt_lt, Int32.le_iff_toInt_le, ← Int32.toInt_inj, Int32.toInt_add, Int32.toInt_sub, Int32.toInt_mul, Int32.toInt_neg, pq_NuO, pq_NuI, pq_NuJ, qm1, q0, q1, q128] at *; (try simp (disch := omega) only [pq_bm] at *); all_goals omega)) dX11_findLiving_95 (fun x95 e95 l95 u95 => ?_)
          refine pq_zast F hlv1 (by decide) (by decide) rfl (fun n1_96 n2_96 => (by simp only [vp_in_iff, Int32.lt_iff_toInt_lt, Int32.le_iff_toInt_le, ← Int32.toInt_inj, Int32.toInt_add, Int32.toInt_sub, Int32.toInt_mul, Int32.toInt_neg, pq_NuO, pq_NuI, pq_NuJ, qm1, q0, q1, q128] at *; (try simp (disch := omega) only [pq_bm] at *); all_goals omega)) (pq_nz _) dX11_findLiving_96 ?_
          refine pq_iload_n F dX11_findLiving_97 rfl rfl ?_
          refine pq_if_ne (tgt := 110) F dX11_findLiving_98 (by decide) (fun c98 => ?_) (fun c98 => ?_)
          · skip
            refine pq_iconst (v := 1) F dX11_findLiving_110 (by decide) ?_
            refine pq_goto (tgt := 115) F dX11_findLiving_111 (by decide) ?_
            refine pq_istore_n F dX11_findLiving_115 rfl (by decide) ?_
            refine pq_iinc (v := 1) F dX11_findLiving_116 rfl (by decide) (by decide) ?_
            refine pq_goto (tgt := 58) F dX11_findLiving_119 (by decide) ?_
            have cq := pq_cl (x := q) hq0; have f0 : hI S1 lv q.toNatClampNeg = 0 := e70.symm.trans (by simpa using c71); have zz := pq_z_upd (v := vp_nar .boolean x95) f0 401; have ie : hI (pq_uI S1 lv (upd (hI S1 lv) q.toNatClampNeg (vp_nar .boolean x95))) lv = _ := pq_Ia; exact ih _ _ _ (hF.uI hlv1 (by decide)) (by simp only [vp_in_iff, Int32.lt_iff_toInt_lt, Int32.le_iff_toInt_le, ← Int32.toInt_inj, Int32.toInt_add, Int32.toInt_sub, Int32.toInt_mul, Int32.toInt_neg, pq_NuO, pq_NuI, pq_NuJ, qm1, q0, q1, q128] at *; (try simp (disch := omega) only [pq_bm] at *); all_goals omega) (by simp only [vp_in_iff, Int32.lt_iff_toInt_lt, Int32.le_iff_toInt_le, ← Int32.toInt_inj, Int32.toInt_add, Int32.toInt_sub, Int32.toInt_mul, Int32.toInt_neg, pq_NuO, pq_NuI, pq_NuJ, qm1, q0, q1, q128] at *; (try simp (disch := omega) only [pq_bm] at *); all_goals omega) (by rw [ie]; omega) (by right; rw [ie]; rcases hz2 with h | h <;> first | exact absurd h c98 | omega) (by simp only [vp_in_iff, Int32.lt_iff_toInt_lt, Int32.le_iff_toInt_le, ← Int32.toInt_inj, Int32.toInt_add, Int32.toInt_sub, Int32.toInt_mul, Int32.toInt_neg, pq_NuO, pq_NuI, pq_NuJ, qm1, q0, q1, q128] at *; (try simp (disch := omega) only [pq_bm] at *); all_goals omega)
          · skip
            refine pq_aload_n F dX11_findLiving_101 rfl rfl ?_
            refine pq_get F ha1 (by decide) lk_X11_184 e32a dX11_findLiving_102 ?_
            refine pq_iload_n F dX11_findLiving_105 rfl rfl ?_
            refine pq_zald F hlv1 (by decide) (by decide) rfl (fun n1_106 n2_106 => (by simp only [vp_in_iff, Int32.lt_iff_toInt_lt, Int32.le_iff_toInt_le, ← Int32.toInt_inj, Int32.toInt_add, Int32.toInt_sub, Int32.toInt_mul, Int32.toInt_neg, pq_NuO, pq_NuI, pq_NuJ, qm1, q0, q1, q128] at *; (try simp (disch := omega) only [pq_bm] at *); all_goals omega)) dX11_findLiving_106 (fun x106 e106 l106 u106 => ?_)
            refine pq_if_eq (tgt := 114) F dX11_findLiving_107 (by decide) (fun c107 => ?_) (fun c107 => ?_)
            · skip
              refine pq_iconst (v := 0) F dX11_findLiving_114 (by decide) ?_
              refine pq_istore_n F dX11_findLiving_115 rfl (by decide) ?_
              refine pq_iinc (v := 1) F dX11_findLiving_116 rfl (by decide) (by decide) ?_
              refine pq_goto (tgt := 58) F dX11_findLiving_119 (by decide) ?_
              have cq := pq_cl (x := q) hq0; have f0 : hI S1 lv q.toNatClampNeg = 0 := e70.symm.trans (by simpa using c71); have zz := pq_z_upd (v := vp_nar .boolean x95) f0 401; have ie : hI (pq_uI S1 lv (upd (hI S1 lv) q.toNatClampNeg (vp_nar .boolean x95))) lv = _ := pq_Ia; exact ih _ _ _ (hF.uI hlv1 (by decide)) (by simp only [vp_in_iff, Int32.lt_iff_toInt_lt, Int32.le_iff_toInt_le, ← Int32.toInt_inj, Int32.toInt_add, Int32.toInt_sub, Int32.toInt_mul, Int32.toInt_neg, pq_NuO, pq_NuI, pq_NuJ, qm1, q0, q1, q128] at *; (try simp (disch := omega) only [pq_bm] at *); all_goals omega) (by simp only [vp_in_iff, Int32.lt_iff_toInt_lt, Int32.le_iff_toInt_le, ← Int32.toInt_inj, Int32.toInt_add, Int32.toInt_sub, Int32.toInt_mul, Int32.toInt_neg, pq_NuO, pq_NuI, pq_NuJ, qm1, q0, q1, q128] at *; (try simp (disch := omega) only [pq_bm] at *); all_goals omega) (by rw [ie]; omega) (Or.inl rfl) (by simp only [vp_in_iff, Int32.lt_iff_toInt_lt, Int32.le_iff_toInt_le, ← Int32.toInt_inj, Int32.toInt_add, Int32.toInt_sub, Int32.toInt_mul, Int32.toInt_neg, pq_NuO, pq_NuI, pq_NuJ, qm1, q0, q1, q128] at *; (try simp (disch := omega) only [pq_bm] at *); all_goals omega)
            · skip
              refine pq_iconst (v := 1) F dX11_findLiving_110 (by decide) ?_
              refine pq_goto (tgt := 115) F dX11_findLiving_111 (by decide) ?_
              refine pq_istore_n F dX11_findLiving_115 rfl (by decide) ?_
              refine pq_iinc (v := 1) F dX11_findLiving_116 rfl (by decide) (by decide) ?_
              refine pq_goto (tgt := 58) F dX11_findLiving_119 (by decide) ?_
              have cq := pq_cl (x := q) hq0; have f0 : hI S1 lv q.toNatClampNeg = 0 := e70.symm.trans (by simpa using c71); have zz := pq_z_upd (v := vp_nar .boolean x95) f0 401; have ie : hI (pq_uI S1 lv (upd (hI S1 lv) q.toNatClampNeg (vp_nar .boolean x95))) lv = _ := pq_Ia; exact ih _ _ _ (hF.uI hlv1 (by decide)) (by simp only [vp_in_iff, Int32.lt_iff_toInt_lt, Int32.le_iff_toInt_le, ← Int32.toInt_inj, Int32.toInt_add, Int32.toInt_sub, Int32.toInt_mul, Int32.toInt_neg, pq_NuO, pq_NuI, pq_NuJ, qm1, q0, q1, q128] at *; (try simp (disch := omega) only [pq_bm] at *); all_goals omega) (by simp only [vp_in_iff, Int32.lt_iff_toInt_lt, Int32.le_iff_toInt_le, ← Int32.toInt_inj, Int32.toInt_add, Int32.toInt_sub, Int32.toInt_mul, Int32.toInt_neg, pq_NuO, pq_NuI, pq_NuJ, qm1, q0, q1, q128] at *; (try simp (disch := omega) only [pq_bm] at *); all_goals omega) (by rw [ie]; omega) (by right; rw [ie]; have := zz.2 (by omega) (fun h => c107 (by rw [e106]; show hI (pq_uI S1 lv _) lv _ = 0; rw [ie, pk_us]; exact h)); omega) (by simp only [vp_in_iff, Int32.lt_iff_toInt_lt, Int32.le_iff_toInt_le, ← Int32.toInt_inj, Int32.toInt_add, Int32.toInt_sub, Int32.toInt_mul, Int32.toInt_neg, pq_NuO, pq_NuI, pq_NuJ, qm1, q0, q1, q128] at *; (try simp (disch := omega) only [pq_bm] at *); all_goals omega)
  have L52 : ∀ (z0 : Nat) (K : ∀ (S2 : HS) (mo2 : Int32) (hF2 : pq_Fr [(201, 0)] S S2) (hz3 : pq_z (hI S2 lv) 401 ≤ z0) (hz4 : mo2 = 0 ∨ pq_z (hI S2 lv) 401 < z0), pq_At p l e (pq_rm 1 0 0) s m args below meth c (pq_Z below args s D cy S 0 0 (fun v S2 => v = none ∧ pq_Fr [(201, 0)] S S2)) D cy A 4 0 0 128 S2 [some (.ref a), some (.int mo2), none, none] []) (fu : Nat) (S1 : HS) (mo q : Int32) (hF : pq_Fr [(201, 0)] S S1) (hq0 : -1 ≤ q.toInt) (hq1 : q.toInt ≤ 400) (hz1 : pq_z (hI S1 lv) 401 ≤ z0) (hz2 : mo = 0 ∨ pq_z (hI S1 lv) 401 < z0), (q.toInt + 1).toNat < fu → pq_At p l e (pq_rm 1 0 0) s m args below meth c (pq_Z below args s D cy S 0 0 (fun v S2 => v = none ∧ pq_Fr [(201, 0)] S S2)) D cy A 4 0 0 52 S1 [some (.ref a), some (.int mo), some (.int q), none] [] := by
    intro z0 K fu
    induction fu with
    | zero => intro S1 mo q hF hq0 hq1 hz1 hz2 hm; exact absurd hm (Nat.not_lt_zero _)
    | succ fu ih =>
      intro S1 mo q hF hq0 hq1 hz1 hz2 hm
      have ha1 := hF.R ha (by decide)
      have hlv1 := hF.R hlv (by decide)
      have e32a := hF.O ha (by decide) (by decide) e32
      have hnsa := hF.O ha (by decide) (by decide) hns
      refine pq_iload_n F dX11_findLiving_52 rfl rfl ?_
      refine pq_if_lt (tgt := 128) F dX11_findLiving_53 (by decide) (fun c53 => ?_) (fun c53 => ?_)
      · skip
        exact pq_fg (K _ mo hF hz1 hz2) (by repeat' (first | exact rfl | exact trivial | constructor))
      · skip
        refine pq_iconst (v := 0) F dX11_findLiving_56 (by decide) ?_
        refine pq_istore_n F dX11_findLiving_57 rfl (by decide) ?_
        have hq0z : 0 ≤ q.toInt := (by simp only [vp_in_iff, Int32.lt_iff_toInt_lt, Int32.le_iff_toInt_le, ← Int32.toInt_inj, Int32.toInt_add, Int32.toInt_sub, Int32.toInt_mul, Int32.toInt_neg, pq_NuO, pq_NuI, pq_NuJ, qm1, q0, q1, q128] at *; (try simp (disch := omega) only [pq_bm] at *); all_goals omega)
        refine pq_fg (L58 q hq0z hq1 z0 (fun S5 mo5 hF5 hz5 hy5 => ?_) 1000 S1 mo 0 hF (by simp only [vp_in_iff, Int32.lt_iff_toInt_lt, Int32.le_iff_toInt_le, ← Int32.toInt_inj, Int32.toInt_add, Int32.toInt_sub, Int32.toInt_mul, Int32.toInt_neg, pq_NuO, pq_NuI, pq_NuJ, qm1, q0, q1, q128] at *; (try simp (disch := omega) only [pq_bm] at *); all_goals omega) (by simp only [vp_in_iff, Int32.lt_iff_toInt_lt, Int32.le_iff_toInt_le, ← Int32.toInt_inj, Int32.toInt_add, Int32.toInt_sub, Int32.toInt_mul, Int32.toInt_neg, pq_NuO, pq_NuI, pq_NuJ, qm1, q0, q1, q128] at *; (try simp (disch := omega) only [pq_bm] at *); all_goals omega) hz1 hz2 (by simp only [vp_in_iff, Int32.lt_iff_toInt_lt, Int32.le_iff_toInt_le, ← Int32.toInt_inj, Int32.toInt_add, Int32.toInt_sub, Int32.toInt_mul, Int32.toInt_neg, pq_NuO, pq_NuI, pq_NuJ, qm1, q0, q1, q128] at *; (try simp (disch := omega) only [pq_bm] at *); all_goals omega)) (by repeat' (first | exact rfl | exact trivial | constructor))
        have ha5 := hF5.R ha (by decide)
        have hlv5 := hF5.R hlv (by decide)
        have e325 := hF5.O ha (by decide) (by decide) e32
        have hns5 := hF5.O ha (by decide) (by decide) hns
        refine pq_iinc (v := -1) F dX11_findLiving_122 rfl (by decide) (by decide) ?_
        refine pq_goto (tgt := 52) F dX11_findLiving_125 (by decide) ?_
        exact pq_fg (ih _ mo5 (q + -1) hF5 (by simp only [vp_in_iff, Int32.lt_iff_toInt_lt, Int32.le_iff_toInt_le, ← Int32.toInt_inj, Int32.toInt_add, Int32.toInt_sub, Int32.toInt_mul, Int32.toInt_neg, pq_NuO, pq_NuI, pq_NuJ, qm1, q0, q1, q128] at *; (try simp (disch := omega) only [pq_bm] at *); all_goals omega) (by simp only [vp_in_iff, Int32.lt_iff_toInt_lt, Int32.le_iff_toInt_le, ← Int32.toInt_inj, Int32.toInt_add, Int32.toInt_sub, Int32.toInt_mul, Int32.toInt_neg, pq_NuO, pq_NuI, pq_NuJ, qm1, q0, q1, q128] at *; (try simp (disch := omega) only [pq_bm] at *); all_goals omega) hz5 hy5 (by simp only [vp_in_iff, Int32.lt_iff_toInt_lt, Int32.le_iff_toInt_le, ← Int32.toInt_inj, Int32.toInt_add, Int32.toInt_sub, Int32.toInt_mul, Int32.toInt_neg, pq_NuO, pq_NuI, pq_NuJ, qm1, q0, q1, q128] at *; (try simp (disch := omega) only [pq_bm] at *); all_goals omega)) (by repeat' (first | exact rfl | exact trivial | constructor))
  have L39 : ∀  (fu : Nat) (S1 : HS) (mo : Int32) (hF : pq_Fr [(201, 0)] S S1), 2 * pq_z (hI S1 lv) 401 + (if mo = 0 then 0 else 1) < fu → pq_At p l e (pq_rm 1 0 0) s m args below meth c (pq_Z below args s D cy S 0 0 (fun v S2 => v = none ∧ pq_Fr [(201, 0)] S S2)) D cy A 4 0 0 39 S1 [some (.ref a), some (.int mo), none, none] [] := by
    intro  fu
    induction fu with
    | zero => intro S1 mo hF hm; exact absurd hm (Nat.not_lt_zero _)
    | succ fu ih =>
      intro S1 mo hF hm
      have ha1 := hF.R ha (by decide)
      have hlv1 := hF.R hlv (by decide)
      have e32a := hF.O ha (by decide) (by decide) e32
      have hnsa := hF.O ha (by decide) (by decide) hns
      refine pq_iload_n F dX11_findLiving_39 rfl rfl ?_
      refine pq_if_eq (tgt := 131) F dX11_findLiving_40 (by decide) (fun c40 => ?_) (fun c40 => ?_)
      · skip
        exact pq_vret F hr hlk hA (Nat.le_refl _) (Nat.le_refl _) (⟨rfl, hF⟩) dX11_findLiving_131
      · skip
        refine pq_iconst (v := 0) F dX11_findLiving_43 (by decide) ?_
        refine pq_istore_n F dX11_findLiving_44 rfl (by decide) ?_
        refine pq_aload_n F dX11_findLiving_45 rfl rfl ?_
        refine pq_get F ha1 (by decide) lk_X11_159 hnsa dX11_findLiving_46 ?_
        refine pq_iconst (v := 1) F dX11_findLiving_49 (by decide) ?_
        refine pq_isub F dX11_findLiving_50 ?_
        refine pq_istore_n F dX11_findLiving_51 rfl (by decide) ?_
        refine pq_fg (L52 (pq_z (hI S1 lv) 401) (fun S6 mo6 hF6 hz6 hy6 => ?_) 1000 S1 0 (ns - 1) hF (by simp only [vp_in_iff, Int32.lt_iff_toInt_lt, Int32.le_iff_toInt_le, ← Int32.toInt_inj, Int32.toInt_add, Int32.toInt_sub, Int32.toInt_mul, Int32.toInt_neg, pq_NuO, pq_NuI, pq_NuJ, qm1, q0, q1, q128] at *; (try simp (disch := omega) only [pq_bm] at *); all_goals omega) (by simp only [vp_in_iff, Int32.lt_iff_toInt_lt, Int32.le_iff_toInt_le, ← Int32.toInt_inj, Int32.toInt_add, Int32.toInt_sub, Int32.toInt_mul, Int32.toInt_neg, pq_NuO, pq_NuI, pq_NuJ, qm1, q0, q1, q128] at *; (try simp (disch := omega) only [pq_bm] at *); all_goals omega) (Nat.le_refl _) (Or.inl rfl) (by simp only [vp_in_iff, Int32.lt_iff_toInt_lt, Int32.le_iff_toInt_le, ← Int32.toInt_inj, Int32.toInt_add, Int32.toInt_sub, Int32.toInt_mul, Int32.toInt_neg, pq_NuO, pq_NuI, pq_NuJ, qm1, q0, q1, q128] at *; (try simp (disch := omega) only [pq_bm] at *); all_goals omega)) (by repeat' (first | exact rfl | exact trivial | constructor))
        have ha6 := hF6.R ha (by decide)
        have hlv6 := hF6.R hlv (by decide)
        have e326 := hF6.O ha (by decide) (by decide) e32
        have hns6 := hF6.O ha (by decide) (by decide) hns
        refine pq_goto (tgt := 39) F dX11_findLiving_128 (by decide) ?_
        have hc0 : ¬ mo = 0 := c40; rw [if_neg hc0] at hm; exact ih _ mo6 hF6 (by by_cases h9 : mo6 = 0 <;> rcases hy6 with h | h <;> first | (rw [if_pos h9]; omega) | exact absurd h h9 | (rw [if_neg h9]; omega))
  have L2 : ∀  (fu : Nat) (S1 : HS) (k : Int32) (hF : pq_Fr [(201, 0)] S S1) (hk0 : 0 ≤ k.toInt) (hk1 : k.toInt ≤ ns.toInt), (ns.toInt - k.toInt).toNat < fu → pq_At p l e (pq_rm 1 0 0) s m args below meth c (pq_Z below args s D cy S 0 0 (fun v S2 => v = none ∧ pq_Fr [(201, 0)] S S2)) D cy A 4 0 0 2 S1 [some (.ref a), some (.int k), none, none] [] := by
    intro  fu
    induction fu with
    | zero => intro S1 k hF hk0 hk1 hm; exact absurd hm (Nat.not_lt_zero _)
    | succ fu ih =>
      intro S1 k hF hk0 hk1 hm
      have ha1 := hF.R ha (by decide)
      have hlv1 := hF.R hlv (by decide)
      have e32a := hF.O ha (by decide) (by decide) e32
      have hnsa := hF.O ha (by decide) (by decide) hns
      refine pq_iload_n F dX11_findLiving_2 rfl rfl ?_
      refine pq_aload_n F dX11_findLiving_3 rfl rfl ?_
      refine pq_get F ha1 (by decide) lk_X11_159 hnsa dX11_findLiving_4 ?_
      refine pq_icmp_ge (tgt := 37) F dX11_findLiving_7 (by decide) (fun c7 => ?_) (fun c7 => ?_)
      · skip
        refine pq_iconst (v := 1) F dX11_findLiving_37 (by decide) ?_
        refine pq_istore_n F dX11_findLiving_38 rfl (by decide) ?_
        exact pq_fg (L39 _ _ 1 hF (Nat.lt_succ_self _)) (by repeat' (first | exact rfl | exact trivial | constructor))
      · skip
        refine pq_aload_n F dX11_findLiving_10 rfl rfl ?_
        refine pq_get F ha1 (by decide) lk_X11_184 e32a dX11_findLiving_11 ?_
        refine pq_iload_n F dX11_findLiving_14 rfl rfl ?_
        refine pq_aload_n F dX11_findLiving_15 rfl rfl ?_
        refine pq_getR F ha1 (by decide) lk_X11_175 rfl dX11_findLiving_16 (fun r16 e16 h16 => ?_)
        refine pq_iload_n F dX11_findLiving_19 rfl rfl ?_
        refine pq_iald F h16 (by decide) (by decide) rfl (fun n1_20 n2_20 => (by simp only [vp_in_iff, Int32.lt_iff_toInt_lt, Int32.le_iff_toInt_le, ← Int32.toInt_inj, Int32.toInt_add, Int32.toInt_sub, Int32.toInt_mul, Int32.toInt_neg, pq_NuO, pq_NuI, pq_NuJ, qm1, q0, q1, q128] at *; (try simp (disch := omega) only [pq_bm] at *); all_goals omega)) dX11_findLiving_20 (fun x20 e20 l20 u20 => ?_)
        refine pq_iconst (v := -1) F dX11_findLiving_21 (by decide) ?_
        refine pq_icmp_eq (tgt := 29) F dX11_findLiving_22 (by decide) (fun c22 => ?_) (fun c22 => ?_)
        · skip
          refine pq_iconst (v := 0) F dX11_findLiving_29 (by decide) ?_
          refine pq_zast F hlv1 (by decide) (by decide) rfl (fun n1_30 n2_30 => (by simp only [vp_in_iff, Int32.lt_iff_toInt_lt, Int32.le_iff_toInt_le, ← Int32.toInt_inj, Int32.toInt_add, Int32.toInt_sub, Int32.toInt_mul, Int32.toInt_neg, pq_NuO, pq_NuI, pq_NuJ, qm1, q0, q1, q128] at *; (try simp (disch := omega) only [pq_bm] at *); all_goals omega)) (pq_nz _) dX11_findLiving_30 ?_
          refine pq_iinc (v := 1) F dX11_findLiving_31 rfl (by decide) (by decide) ?_
          refine pq_goto (tgt := 2) F dX11_findLiving_34 (by decide) ?_
          exact pq_fg (ih _ (k + 1) (hF.uI hlv1 (by decide)) (by simp only [vp_in_iff, Int32.lt_iff_toInt_lt, Int32.le_iff_toInt_le, ← Int32.toInt_inj, Int32.toInt_add, Int32.toInt_sub, Int32.toInt_mul, Int32.toInt_neg, pq_NuO, pq_NuI, pq_NuJ, qm1, q0, q1, q128] at *; (try simp (disch := omega) only [pq_bm] at *); all_goals omega) (by simp only [vp_in_iff, Int32.lt_iff_toInt_lt, Int32.le_iff_toInt_le, ← Int32.toInt_inj, Int32.toInt_add, Int32.toInt_sub, Int32.toInt_mul, Int32.toInt_neg, pq_NuO, pq_NuI, pq_NuJ, qm1, q0, q1, q128] at *; (try simp (disch := omega) only [pq_bm] at *); all_goals omega) (by simp only [vp_in_iff, Int32.lt_iff_toInt_lt, Int32.le_iff_toInt_le, ← Int32.toInt_inj, Int32.toInt_add, Int32.toInt_sub, Int32.toInt_mul, Int32.toInt_neg, pq_NuO, pq_NuI, pq_NuJ, qm1, q0, q1, q128] at *; (try simp (disch := omega) only [pq_bm] at *); all_goals omega)) (by repeat' (first | exact rfl | exact trivial | constructor))
        · skip
          refine pq_iconst (v := 1) F dX11_findLiving_25 (by decide) ?_
          refine pq_goto (tgt := 30) F dX11_findLiving_26 (by decide) ?_
          refine pq_zast F hlv1 (by decide) (by decide) rfl (fun n1_30 n2_30 => (by simp only [vp_in_iff, Int32.lt_iff_toInt_lt, Int32.le_iff_toInt_le, ← Int32.toInt_inj, Int32.toInt_add, Int32.toInt_sub, Int32.toInt_mul, Int32.toInt_neg, pq_NuO, pq_NuI, pq_NuJ, qm1, q0, q1, q128] at *; (try simp (disch := omega) only [pq_bm] at *); all_goals omega)) (pq_nz _) dX11_findLiving_30 ?_
          refine pq_iinc (v := 1) F dX11_findLiving_31 rfl (by decide) (by decide) ?_
          refine pq_goto (tgt := 2) F dX11_findLiving_34 (by decide) ?_
          exact pq_fg (ih _ (k + 1) (hF.uI hlv1 (by decide)) (by simp only [vp_in_iff, Int32.lt_iff_toInt_lt, Int32.le_iff_toInt_le, ← Int32.toInt_inj, Int32.toInt_add, Int32.toInt_sub, Int32.toInt_mul, Int32.toInt_neg, pq_NuO, pq_NuI, pq_NuJ, qm1, q0, q1, q128] at *; (try simp (disch := omega) only [pq_bm] at *); all_goals omega) (by simp only [vp_in_iff, Int32.lt_iff_toInt_lt, Int32.le_iff_toInt_le, ← Int32.toInt_inj, Int32.toInt_add, Int32.toInt_sub, Int32.toInt_mul, Int32.toInt_neg, pq_NuO, pq_NuI, pq_NuJ, qm1, q0, q1, q128] at *; (try simp (disch := omega) only [pq_bm] at *); all_goals omega) (by simp only [vp_in_iff, Int32.lt_iff_toInt_lt, Int32.le_iff_toInt_le, ← Int32.toInt_inj, Int32.toInt_add, Int32.toInt_sub, Int32.toInt_mul, Int32.toInt_neg, pq_NuO, pq_NuI, pq_NuJ, qm1, q0, q1, q128] at *; (try simp (disch := omega) only [pq_bm] at *); all_goals omega)) (by repeat' (first | exact rfl | exact trivial | constructor))
  refine pq_iconst (v := 0) F dX11_findLiving_0 (by decide) ?_
  refine pq_istore_n F dX11_findLiving_1 rfl (by decide) ?_
  exact pq_fg (L2 1000 _ 0 pq_Fr.rf (by simp only [vp_in_iff, Int32.lt_iff_toInt_lt, Int32.le_iff_toInt_le, ← Int32.toInt_inj, Int32.toInt_add, Int32.toInt_sub, Int32.toInt_mul, Int32.toInt_neg, pq_NuO, pq_NuI, pq_NuJ, qm1, q0, q1, q128] at *; (try simp (disch := omega) only [pq_bm] at *); all_goals omega) (by simp only [vp_in_iff, Int32.lt_iff_toInt_lt, Int32.le_iff_toInt_le, ← Int32.toInt_inj, Int32.toInt_add, Int32.toInt_sub, Int32.toInt_mul, Int32.toInt_neg, pq_NuO, pq_NuI, pq_NuJ, qm1, q0, q1, q128] at *; (try simp (disch := omega) only [pq_bm] at *); all_goals omega) (by simp only [vp_in_iff, Int32.lt_iff_toInt_lt, Int32.le_iff_toInt_le, ← Int32.toInt_inj, Int32.toInt_add, Int32.toInt_sub, Int32.toInt_mul, Int32.toInt_neg, pq_NuO, pq_NuI, pq_NuJ, qm1, q0, q1, q128] at *; (try simp (disch := omega) only [pq_bm] at *); all_goals omega)) (by repeat' (first | exact rfl | exact trivial | constructor))

