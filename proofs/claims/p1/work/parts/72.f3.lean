theorem pf_clr {i k : Nat} {f : Nat → Int64} (h : ∀ j, j < k → f j = 0) (e : ¬ i = k) (hi : i < k + 1) : f i = 0 := h i (by omega)
set_option maxHeartbeats 4000000 in
set_option maxRecDepth 100000 in
theorem k_X11_findLivingF (l : Launch) (D : va_G) (cy : Nat → ClassId) (S : HS) (a : Nat) (ha : pq_R S a 14) (lb nx lv : Nat) (f18 : hO S a 18 = .ref lb) (hlb : pq_R S lb 125) (f19 : hO S a 19 = .ref nx) (hnx : pq_R S nx 126) (f32 : hO S a 32 = .ref lv) (hlv : pq_R S lv 201) (f20 : hO S a 20 = .int 2) (hlb0 : hI S lb 0 = -1) (hlb1 : hI S lb 1 = -1) (hnx1 : ∀ i : Nat, i < 256 → hI S nx i = 1) : pq_C l D cy yX11_findLiving cX11_findLiving 4 (none) 1 0 0 S [.ref a] (fun v S2 => v = none ∧ pq_Fr [(201, 0)] S S2 ∧ (hI S2 lv 0 = 0 ∧ hI S2 lv 1 = 0)) := by
  refine pq_start (by decide) (Nat.le_of_ble_eq_true rfl) ?_
  intro p e s m args below meth c A F hr hlk hnm hA
  have lqm1 : (-1 : Int32).toInt = -1 := rfl
  have lq0 : (0 : Int32).toInt = 0 := rfl
  have lq1 : (1 : Int32).toInt = 1 := rfl
  have lq2 : (2 : Int32).toInt = 2 := rfl
  have lq128 : (128 : Int32).toInt = 128 := rfl
  have nbl := pq_nrole hlb hlv (by decide)
  have L58 : ∀ (sv : Int32) (hsv : sv = 0 ∨ sv = 1) (K : ∀ (S2 : HS) (hF2 : pq_Fr [(201, 0)] S S2) (hz2 : hI S2 lv 0 = 0 ∧ hI S2 lv 1 = 0), pq_At p l e (pq_rm 1 0 0) s m args below meth c (pq_Z below args s D cy S 0 0 (fun v S2 => v = none ∧ pq_Fr [(201, 0)] S S2 ∧ (hI S2 lv 0 = 0 ∧ hI S2 lv 1 = 0))) D cy A 4 0 0 122 S2 [some (.ref a), some (.int 0), some (.int sv), none] []) (fu : Nat) (S1 : HS) (b : Int32)  (hF : pq_Fr [(201, 0)] S S1) (hz : hI S1 lv 0 = 0 ∧ hI S1 lv 1 = 0) (hb0 : 0 ≤ b.toInt) (hb1 : b.toInt ≤ 128), (128 - b.toInt).toNat < fu → pq_At p l e (pq_rm 1 0 0) s m args below meth c (pq_Z below args s D cy S 0 0 (fun v S2 => v = none ∧ pq_Fr [(201, 0)] S S2 ∧ (hI S2 lv 0 = 0 ∧ hI S2 lv 1 = 0))) D cy A 4 0 0 58 S1 [some (.ref a), some (.int 0), some (.int sv), some (.int b)] [] := by
    intro sv hsv K fu
    induction fu with
    | zero => intro S1 b hF hz hb0 hb1 hm; exact absurd hm (Nat.not_lt_zero _)
    | succ fu ih =>
      intro S1 b hF hz hb0 hb1 hm
      have haL := hF.R ha (by first | decide | omega)
      have f18L := hF.O ha (by decide) (by decide) f18
      have hlbL := hF.R hlb (by decide)
      have f19L := hF.O ha (by decide) (by decide) f19
      have hnxL := hF.R hnx (by decide)
      have f32L := hF.O ha (by decide) (by decide) f32
      have hlvL := hF.R hlv (by decide)
      have f20L := hF.O ha (by decide) (by decide) f20
      have nI := hF.I hnx (by decide) (by decide)
      have hl : hI S1 lv sv.toNatClampNeg = 0 := (by rcases hsv with e | e <;> rw [e]; exact hz.1; exact hz.2)
      have sb : 0 ≤ sv.toInt ∧ sv.toInt ≤ 1 := (by rcases hsv with e | e <;> rw [e] <;> decide)
      refine pq_iload_n F dX11_findLiving_58 rfl rfl ?_
      refine pq_sipush (v := 128) F dX11_findLiving_59 (by decide) ?_
      refine pq_icmp_ge (tgt := 122) F dX11_findLiving_62 (by decide) (fun c62 => ?_) (fun c62 => ?_)
      · skip
        exact pq_fgm [true, true, true, false] (K _ hF hz)
      · skip
        refine pq_aload_n F dX11_findLiving_65 rfl rfl ?_
        refine pq_get F haL (by decide) lk_X11_184 f32L dX11_findLiving_66 ?_
        refine pq_iload_n F dX11_findLiving_69 rfl rfl ?_
        refine pq_zald F hlvL (by decide) (by decide) rfl (fun n1_70 n2_70 => (by focus ((try clear hlb0); (try clear hlb1); (try clear hnx1); (try clear hz); (try clear K); (try clear ih); (try clear hl); (try clear hsv); (try clear L58); simp only [vp_in_iff, Int32.lt_iff_toInt_lt, Int32.le_iff_toInt_le, ← Int32.toInt_inj, Int32.toInt_add, Int32.toInt_sub, Int32.toInt_mul, Int32.toInt_neg, pq_NuO, pq_NuI, pq_NuJ, pq_NuR, pq_shr6, pq_shr7, pq_shr8, lqm1, lq0, lq1, lq2, lq128] at *; (try simp (disch := omega) only [pq_bm] at *); all_goals omega))) dX11_findLiving_70 (fun x70 e70 l70 u70 => ?_)
        refine pq_if_ne (tgt := 122) F dX11_findLiving_71 (by decide) (fun c71 => ?_) (fun c71 => ?_)
        · exact absurd (e70.trans hl) c71
        · skip
          refine pq_aload_n F dX11_findLiving_74 rfl rfl ?_
          refine pq_get F haL (by decide) lk_X11_184 f32L dX11_findLiving_75 ?_
          refine pq_iload_n F dX11_findLiving_78 rfl rfl ?_
          refine pq_aload_n F dX11_findLiving_79 rfl rfl ?_
          refine pq_get F haL (by decide) lk_X11_184 f32L dX11_findLiving_80 ?_
          refine pq_aload_n F dX11_findLiving_83 rfl rfl ?_
          refine pq_get F haL (by decide) lk_X11_181 f19L dX11_findLiving_84 ?_
          refine pq_sipush (v := 128) F dX11_findLiving_87 (by decide) ?_
          refine pq_iload_n F dX11_findLiving_90 rfl rfl ?_
          refine pq_imul F dX11_findLiving_91 ?_
          refine pq_iload_n F dX11_findLiving_92 rfl rfl ?_
          refine pq_iadd F dX11_findLiving_93 ?_
          refine pq_iald F hnxL (by decide) (by decide) rfl (fun n1_94 n2_94 => (by focus ((try clear hlb0); (try clear hlb1); (try clear hnx1); (try clear hz); (try clear K); (try clear ih); (try clear hl); (try clear hsv); (try clear L58); simp only [vp_in_iff, Int32.lt_iff_toInt_lt, Int32.le_iff_toInt_le, ← Int32.toInt_inj, Int32.toInt_add, Int32.toInt_sub, Int32.toInt_mul, Int32.toInt_neg, pq_NuO, pq_NuI, pq_NuJ, pq_NuR, pq_shr6, pq_shr7, pq_shr8, lqm1, lq0, lq1, lq2, lq128] at *; (try simp (disch := omega) only [pq_bm] at *); all_goals omega))) dX11_findLiving_94 (fun x94 e94 l94 u94 => ?_)
          refine pq_zald F hlvL (by decide) (by decide) rfl (fun n1_95 n2_95 => (by focus ((try clear hlb0); (try clear hlb1); (try clear hnx1); (try clear hz); (try clear K); (try clear ih); (try clear hl); (try clear hsv); (try clear L58); simp only [vp_in_iff, Int32.lt_iff_toInt_lt, Int32.le_iff_toInt_le, ← Int32.toInt_inj, Int32.toInt_add, Int32.toInt_sub, Int32.toInt_mul, Int32.toInt_neg, pq_NuO, pq_NuI, pq_NuJ, pq_NuR, pq_shr6, pq_shr7, pq_shr8, lqm1, lq0, lq1, lq2, lq128] at *; (try simp (disch := omega) only [pq_bm] at *); all_goals omega))) dX11_findLiving_95 (fun x95 e95 l95 u95 => ?_)
          have zz : x95 = 0 := e95.trans (by rw [e94, nI, hnx1 _ (by have z := pq_cl (x := 128 * sv + b) (by focus ((try clear hlb0); (try clear hlb1); (try clear hnx1); (try clear hz); (try clear K); (try clear ih); (try clear hl); (try clear hsv); (try clear L58); simp only [vp_in_iff, Int32.lt_iff_toInt_lt, Int32.le_iff_toInt_le, ← Int32.toInt_inj, Int32.toInt_add, Int32.toInt_sub, Int32.toInt_mul, Int32.toInt_neg, pq_NuO, pq_NuI, pq_NuJ, pq_NuR, pq_shr6, pq_shr7, pq_shr8, lqm1, lq0, lq1, lq2, lq128] at *; (try simp (disch := omega) only [pq_bm] at *); all_goals omega)); focus ((try clear hlb0); (try clear hlb1); (try clear hnx1); (try clear hz); (try clear K); (try clear ih); (try clear hl); (try clear hsv); (try clear L58); simp only [vp_in_iff, Int32.lt_iff_toInt_lt, Int32.le_iff_toInt_le, ← Int32.toInt_inj, Int32.toInt_add, Int32.toInt_sub, Int32.toInt_mul, Int32.toInt_neg, pq_NuO, pq_NuI, pq_NuJ, pq_NuR, pq_shr6, pq_shr7, pq_shr8, lqm1, lq0, lq1, lq2, lq128] at *; (try simp (disch := omega) only [pq_bm] at *); all_goals omega))]; exact hz.2)
          subst zz
          refine pq_zast F hlvL (by decide) (by decide) rfl (fun n1_96 n2_96 => (by focus ((try clear hlb0); (try clear hlb1); (try clear hnx1); (try clear hz); (try clear K); (try clear ih); (try clear hl); (try clear hsv); (try clear L58); simp only [vp_in_iff, Int32.lt_iff_toInt_lt, Int32.le_iff_toInt_le, ← Int32.toInt_inj, Int32.toInt_add, Int32.toInt_sub, Int32.toInt_mul, Int32.toInt_neg, pq_NuO, pq_NuI, pq_NuJ, pq_NuR, pq_shr6, pq_shr7, pq_shr8, lqm1, lq0, lq1, lq2, lq128] at *; (try simp (disch := omega) only [pq_bm] at *); all_goals omega))) (pq_nz _) dX11_findLiving_96 ?_
          refine pq_iload_n F dX11_findLiving_97 rfl rfl ?_
          refine pq_if_ne (tgt := 110) F dX11_findLiving_98 (by decide) (fun c98 => ?_) (fun c98 => ?_)
          · exact absurd rfl c98
          · skip
            refine pq_aload_n F dX11_findLiving_101 rfl rfl ?_
            refine pq_get F haL (by decide) lk_X11_184 f32L dX11_findLiving_102 ?_
            refine pq_iload_n F dX11_findLiving_105 rfl rfl ?_
            refine pq_zald F hlvL (by decide) (by decide) rfl (fun n1_106 n2_106 => (by focus ((try clear hlb0); (try clear hlb1); (try clear hnx1); (try clear hz); (try clear K); (try clear ih); (try clear hl); (try clear hsv); (try clear L58); simp only [vp_in_iff, Int32.lt_iff_toInt_lt, Int32.le_iff_toInt_le, ← Int32.toInt_inj, Int32.toInt_add, Int32.toInt_sub, Int32.toInt_mul, Int32.toInt_neg, pq_NuO, pq_NuI, pq_NuJ, pq_NuR, pq_shr6, pq_shr7, pq_shr8, lqm1, lq0, lq1, lq2, lq128] at *; (try simp (disch := omega) only [pq_bm] at *); all_goals omega))) dX11_findLiving_106 (fun x106 e106 l106 u106 => ?_)
            refine pq_if_eq (tgt := 114) F dX11_findLiving_107 (by decide) (fun c107 => ?_) (fun c107 => ?_)
            · skip
              refine pq_iconst (v := 0) F dX11_findLiving_114 (by decide) ?_
              refine pq_istore_n F dX11_findLiving_115 rfl (by decide) ?_
              refine pq_iinc (v := 1) F dX11_findLiving_116 rfl (by decide) (by decide) ?_
              refine pq_goto (tgt := 58) F dX11_findLiving_119 (by decide) ?_
              exact pq_fgm [true, true, true, true] (ih _ _ (hF.uI hlvL (by first | decide | exact List.mem_cons_self)) (by simp only [pq_IuO, pq_IuJ, pq_Iu, pq_JuO, pq_JuI, pq_Ju, pq_RuO, pq_RuJ, pq_RuI, if_true, if_false]; rcases hsv with e | e <;> subst e; exact ⟨pk_us, (pk_un (by decide)).trans hz.2⟩; exact ⟨(pk_un (by decide)).trans hz.1, pk_us⟩) (by focus ((try clear hlb0); (try clear hlb1); (try clear hnx1); (try clear hz); (try clear K); (try clear ih); (try clear hl); (try clear hsv); (try clear L58); simp only [vp_in_iff, Int32.lt_iff_toInt_lt, Int32.le_iff_toInt_le, ← Int32.toInt_inj, Int32.toInt_add, Int32.toInt_sub, Int32.toInt_mul, Int32.toInt_neg, pq_NuO, pq_NuI, pq_NuJ, pq_NuR, pq_shr6, pq_shr7, pq_shr8, lqm1, lq0, lq1, lq2, lq128] at *; (try simp (disch := omega) only [pq_bm] at *); all_goals omega)) (by focus ((try clear hlb0); (try clear hlb1); (try clear hnx1); (try clear hz); (try clear K); (try clear ih); (try clear hl); (try clear hsv); (try clear L58); simp only [vp_in_iff, Int32.lt_iff_toInt_lt, Int32.le_iff_toInt_le, ← Int32.toInt_inj, Int32.toInt_add, Int32.toInt_sub, Int32.toInt_mul, Int32.toInt_neg, pq_NuO, pq_NuI, pq_NuJ, pq_NuR, pq_shr6, pq_shr7, pq_shr8, lqm1, lq0, lq1, lq2, lq128] at *; (try simp (disch := omega) only [pq_bm] at *); all_goals omega)) (by focus ((try clear hlb0); (try clear hlb1); (try clear hnx1); (try clear hz); (try clear K); (try clear ih); (try clear hl); (try clear hsv); (try clear L58); simp only [vp_in_iff, Int32.lt_iff_toInt_lt, Int32.le_iff_toInt_le, ← Int32.toInt_inj, Int32.toInt_add, Int32.toInt_sub, Int32.toInt_mul, Int32.toInt_neg, pq_NuO, pq_NuI, pq_NuJ, pq_NuR, pq_shr6, pq_shr7, pq_shr8, lqm1, lq0, lq1, lq2, lq128] at *; (try simp (disch := omega) only [pq_bm] at *); all_goals omega)))
            · exact absurd (e106.trans (by simp only [pq_IuO, pq_IuJ, pq_Iu, pq_JuO, pq_JuI, pq_Ju, pq_RuO, pq_RuJ, pq_RuI, if_true, if_false]; exact pk_us)) c107
  refine pq_iconst (v := 0) F dX11_findLiving_0 (by decide) ?_
  refine pq_istore_n F dX11_findLiving_1 rfl (by decide) ?_
  refine pq_iload_n F dX11_findLiving_2 rfl rfl ?_
  refine pq_aload_n F dX11_findLiving_3 rfl rfl ?_
  refine pq_get F ha (by decide) lk_X11_159 f20 dX11_findLiving_4 ?_
  refine pq_icmp_ge (tgt := 37) F dX11_findLiving_7 (by decide) (fun c7 => ?_) (fun c7 => ?_)
  · exact False.elim (by focus ((try clear hlb0); (try clear hlb1); (try clear hnx1); (try clear hz); (try clear K); (try clear ih); (try clear hl); (try clear hsv); (try clear L58); simp only [vp_in_iff, Int32.lt_iff_toInt_lt, Int32.le_iff_toInt_le, ← Int32.toInt_inj, Int32.toInt_add, Int32.toInt_sub, Int32.toInt_mul, Int32.toInt_neg, pq_NuO, pq_NuI, pq_NuJ, pq_NuR, pq_shr6, pq_shr7, pq_shr8, lqm1, lq0, lq1, lq2, lq128] at *; (try simp (disch := omega) only [pq_bm] at *); all_goals omega))
  · skip
    refine pq_aload_n F dX11_findLiving_10 rfl rfl ?_
    refine pq_get F ha (by decide) lk_X11_184 f32 dX11_findLiving_11 ?_
    refine pq_iload_n F dX11_findLiving_14 rfl rfl ?_
    refine pq_aload_n F dX11_findLiving_15 rfl rfl ?_
    refine pq_get F ha (by decide) lk_X11_175 f18 dX11_findLiving_16 ?_
    refine pq_iload_n F dX11_findLiving_19 rfl rfl ?_
    refine pq_iald F hlb (by decide) (by decide) rfl (fun n1_20 n2_20 => (by focus ((try clear hlb0); (try clear hlb1); (try clear hnx1); (try clear hz); (try clear K); (try clear ih); (try clear hl); (try clear hsv); (try clear L58); simp only [vp_in_iff, Int32.lt_iff_toInt_lt, Int32.le_iff_toInt_le, ← Int32.toInt_inj, Int32.toInt_add, Int32.toInt_sub, Int32.toInt_mul, Int32.toInt_neg, pq_NuO, pq_NuI, pq_NuJ, pq_NuR, pq_shr6, pq_shr7, pq_shr8, lqm1, lq0, lq1, lq2, lq128] at *; (try simp (disch := omega) only [pq_bm] at *); all_goals omega))) dX11_findLiving_20 (fun x20 e20 l20 u20 => ?_)
    refine pq_iconst (v := -1) F dX11_findLiving_21 (by decide) ?_
    refine pq_icmp_eq (tgt := 29) F dX11_findLiving_22 (by decide) (fun c22 => ?_) (fun c22 => ?_)
    · skip
      refine pq_iconst (v := 0) F dX11_findLiving_29 (by decide) ?_
      refine pq_zast F hlv (by decide) (by decide) rfl (fun n1_30 n2_30 => (by focus ((try clear hlb0); (try clear hlb1); (try clear hnx1); (try clear hz); (try clear K); (try clear ih); (try clear hl); (try clear hsv); (try clear L58); simp only [vp_in_iff, Int32.lt_iff_toInt_lt, Int32.le_iff_toInt_le, ← Int32.toInt_inj, Int32.toInt_add, Int32.toInt_sub, Int32.toInt_mul, Int32.toInt_neg, pq_NuO, pq_NuI, pq_NuJ, pq_NuR, pq_shr6, pq_shr7, pq_shr8, lqm1, lq0, lq1, lq2, lq128] at *; (try simp (disch := omega) only [pq_bm] at *); all_goals omega))) (pq_nz _) dX11_findLiving_30 ?_
      refine pq_iinc (v := 1) F dX11_findLiving_31 rfl (by decide) (by decide) ?_
      refine pq_goto (tgt := 2) F dX11_findLiving_34 (by decide) ?_
      refine pq_iload_n F dX11_findLiving_2 rfl rfl ?_
      refine pq_aload_n F dX11_findLiving_3 rfl rfl ?_
      refine pq_get F ha (by decide) lk_X11_159 f20 dX11_findLiving_4 ?_
      refine pq_icmp_ge (tgt := 37) F dX11_findLiving_7 (by decide) (fun c7 => ?_) (fun c7 => ?_)
      · exact False.elim (by focus ((try clear hlb0); (try clear hlb1); (try clear hnx1); (try clear hz); (try clear K); (try clear ih); (try clear hl); (try clear hsv); (try clear L58); simp only [vp_in_iff, Int32.lt_iff_toInt_lt, Int32.le_iff_toInt_le, ← Int32.toInt_inj, Int32.toInt_add, Int32.toInt_sub, Int32.toInt_mul, Int32.toInt_neg, pq_NuO, pq_NuI, pq_NuJ, pq_NuR, pq_shr6, pq_shr7, pq_shr8, lqm1, lq0, lq1, lq2, lq128] at *; (try simp (disch := omega) only [pq_bm] at *); all_goals omega))
      · skip
        refine pq_aload_n F dX11_findLiving_10 rfl rfl ?_
        refine pq_get F ha (by decide) lk_X11_184 f32 dX11_findLiving_11 ?_
        refine pq_iload_n F dX11_findLiving_14 rfl rfl ?_
        refine pq_aload_n F dX11_findLiving_15 rfl rfl ?_
        refine pq_get F ha (by decide) lk_X11_175 f18 dX11_findLiving_16 ?_
        refine pq_iload_n F dX11_findLiving_19 rfl rfl ?_
        refine pq_iald F hlb (by decide) (by decide) rfl (fun n1_20 n2_20 => (by focus ((try clear hlb0); (try clear hlb1); (try clear hnx1); (try clear hz); (try clear K); (try clear ih); (try clear hl); (try clear hsv); (try clear L58); simp only [vp_in_iff, Int32.lt_iff_toInt_lt, Int32.le_iff_toInt_le, ← Int32.toInt_inj, Int32.toInt_add, Int32.toInt_sub, Int32.toInt_mul, Int32.toInt_neg, pq_NuO, pq_NuI, pq_NuJ, pq_NuR, pq_shr6, pq_shr7, pq_shr8, lqm1, lq0, lq1, lq2, lq128] at *; (try simp (disch := omega) only [pq_bm] at *); all_goals omega))) dX11_findLiving_20 (fun x20 e20 l20 u20 => ?_)
        refine pq_iconst (v := -1) F dX11_findLiving_21 (by decide) ?_
        refine pq_icmp_eq (tgt := 29) F dX11_findLiving_22 (by decide) (fun c22 => ?_) (fun c22 => ?_)
        · skip
          refine pq_iconst (v := 0) F dX11_findLiving_29 (by decide) ?_
          refine pq_zast F hlv (by decide) (by decide) rfl (fun n1_30 n2_30 => (by focus ((try clear hlb0); (try clear hlb1); (try clear hnx1); (try clear hz); (try clear K); (try clear ih); (try clear hl); (try clear hsv); (try clear L58); simp only [vp_in_iff, Int32.lt_iff_toInt_lt, Int32.le_iff_toInt_le, ← Int32.toInt_inj, Int32.toInt_add, Int32.toInt_sub, Int32.toInt_mul, Int32.toInt_neg, pq_NuO, pq_NuI, pq_NuJ, pq_NuR, pq_shr6, pq_shr7, pq_shr8, lqm1, lq0, lq1, lq2, lq128] at *; (try simp (disch := omega) only [pq_bm] at *); all_goals omega))) (pq_nz _) dX11_findLiving_30 ?_
          refine pq_iinc (v := 1) F dX11_findLiving_31 rfl (by decide) (by decide) ?_
          refine pq_goto (tgt := 2) F dX11_findLiving_34 (by decide) ?_
          refine pq_iload_n F dX11_findLiving_2 rfl rfl ?_
          refine pq_aload_n F dX11_findLiving_3 rfl rfl ?_
          refine pq_get F ha (by decide) lk_X11_159 f20 dX11_findLiving_4 ?_
          refine pq_icmp_ge (tgt := 37) F dX11_findLiving_7 (by decide) (fun c7 => ?_) (fun c7 => ?_)
          · skip
            refine pq_iconst (v := 1) F dX11_findLiving_37 (by decide) ?_
            refine pq_istore_n F dX11_findLiving_38 rfl (by decide) ?_
            refine pq_iload_n F dX11_findLiving_39 rfl rfl ?_
            refine pq_if_eq (tgt := 131) F dX11_findLiving_40 (by decide) (fun c40 => ?_) (fun c40 => ?_)
            · exact absurd c40 (by decide)
            · skip
              refine pq_iconst (v := 0) F dX11_findLiving_43 (by decide) ?_
              refine pq_istore_n F dX11_findLiving_44 rfl (by decide) ?_
              refine pq_aload_n F dX11_findLiving_45 rfl rfl ?_
              refine pq_get F ha (by decide) lk_X11_159 f20 dX11_findLiving_46 ?_
              refine pq_iconst (v := 1) F dX11_findLiving_49 (by decide) ?_
              refine pq_isub F dX11_findLiving_50 ?_
              refine pq_istore_n F dX11_findLiving_51 rfl (by decide) ?_
              refine pq_iload_n F dX11_findLiving_52 rfl rfl ?_
              refine pq_if_lt (tgt := 128) F dX11_findLiving_53 (by decide) (fun c53 => ?_) (fun c53 => ?_)
              · exact False.elim (by focus ((try clear hlb0); (try clear hlb1); (try clear hnx1); (try clear hz); (try clear K); (try clear ih); (try clear hl); (try clear hsv); (try clear L58); simp only [vp_in_iff, Int32.lt_iff_toInt_lt, Int32.le_iff_toInt_le, ← Int32.toInt_inj, Int32.toInt_add, Int32.toInt_sub, Int32.toInt_mul, Int32.toInt_neg, pq_NuO, pq_NuI, pq_NuJ, pq_NuR, pq_shr6, pq_shr7, pq_shr8, lqm1, lq0, lq1, lq2, lq128] at *; (try simp (disch := omega) only [pq_bm] at *); all_goals omega))
              · skip
                refine pq_iconst (v := 0) F dX11_findLiving_56 (by decide) ?_
                refine pq_istore_n F dX11_findLiving_57 rfl (by decide) ?_
                refine pq_fgm [true, true, true, true] (L58 _ (by first | exact Or.inl rfl | exact Or.inr rfl) (fun S5 hF5 hz5 => ?_) 1000 _ 0 ((pq_Fr.rf.uI hlv (by first | decide | exact List.mem_cons_self)).uI hlv (by first | decide | exact List.mem_cons_self)) (by simp only [pq_IuO, pq_IuJ, pq_Iu, pq_JuO, pq_JuI, pq_Ju, pq_RuO, pq_RuJ, pq_RuI, if_true, if_false]; exact ⟨(pk_un (by decide)).trans pk_us, pk_us⟩) (by focus ((try clear hlb0); (try clear hlb1); (try clear hnx1); (try clear hz); (try clear K); (try clear ih); (try clear hl); (try clear hsv); (try clear L58); simp only [vp_in_iff, Int32.lt_iff_toInt_lt, Int32.le_iff_toInt_le, ← Int32.toInt_inj, Int32.toInt_add, Int32.toInt_sub, Int32.toInt_mul, Int32.toInt_neg, pq_NuO, pq_NuI, pq_NuJ, pq_NuR, pq_shr6, pq_shr7, pq_shr8, lqm1, lq0, lq1, lq2, lq128] at *; (try simp (disch := omega) only [pq_bm] at *); all_goals omega)) (by focus ((try clear hlb0); (try clear hlb1); (try clear hnx1); (try clear hz); (try clear K); (try clear ih); (try clear hl); (try clear hsv); (try clear L58); simp only [vp_in_iff, Int32.lt_iff_toInt_lt, Int32.le_iff_toInt_le, ← Int32.toInt_inj, Int32.toInt_add, Int32.toInt_sub, Int32.toInt_mul, Int32.toInt_neg, pq_NuO, pq_NuI, pq_NuJ, pq_NuR, pq_shr6, pq_shr7, pq_shr8, lqm1, lq0, lq1, lq2, lq128] at *; (try simp (disch := omega) only [pq_bm] at *); all_goals omega)) (by focus ((try clear hlb0); (try clear hlb1); (try clear hnx1); (try clear hz); (try clear K); (try clear ih); (try clear hl); (try clear hsv); (try clear L58); simp only [vp_in_iff, Int32.lt_iff_toInt_lt, Int32.le_iff_toInt_le, ← Int32.toInt_inj, Int32.toInt_add, Int32.toInt_sub, Int32.toInt_mul, Int32.toInt_neg, pq_NuO, pq_NuI, pq_NuJ, pq_NuR, pq_shr6, pq_shr7, pq_shr8, lqm1, lq0, lq1, lq2, lq128] at *; (try simp (disch := omega) only [pq_bm] at *); all_goals omega)))
                have ha5 := hF5.R ha (by decide)
                have f20v := hF5.O ha (by decide) (by decide) f20
                refine pq_iinc (v := -1) F dX11_findLiving_122 rfl (by decide) (by decide) ?_
                refine pq_goto (tgt := 52) F dX11_findLiving_125 (by decide) ?_
                refine pq_iload_n F dX11_findLiving_52 rfl rfl ?_
                refine pq_if_lt (tgt := 128) F dX11_findLiving_53 (by decide) (fun c53 => ?_) (fun c53 => ?_)
                · exact False.elim (by focus ((try clear hlb0); (try clear hlb1); (try clear hnx1); (try clear hz); (try clear K); (try clear ih); (try clear hl); (try clear hsv); (try clear L58); simp only [vp_in_iff, Int32.lt_iff_toInt_lt, Int32.le_iff_toInt_le, ← Int32.toInt_inj, Int32.toInt_add, Int32.toInt_sub, Int32.toInt_mul, Int32.toInt_neg, pq_NuO, pq_NuI, pq_NuJ, pq_NuR, pq_shr6, pq_shr7, pq_shr8, lqm1, lq0, lq1, lq2, lq128] at *; (try simp (disch := omega) only [pq_bm] at *); all_goals omega))
                · skip
                  refine pq_iconst (v := 0) F dX11_findLiving_56 (by decide) ?_
                  refine pq_istore_n F dX11_findLiving_57 rfl (by decide) ?_
                  refine pq_fgm [true, true, true, true] (L58 _ (by first | exact Or.inl rfl | exact Or.inr rfl) (fun S5 hF5 hz5 => ?_) 1000 _ 0 hF5 hz5 (by focus ((try clear hlb0); (try clear hlb1); (try clear hnx1); (try clear hz); (try clear K); (try clear ih); (try clear hl); (try clear hsv); (try clear L58); simp only [vp_in_iff, Int32.lt_iff_toInt_lt, Int32.le_iff_toInt_le, ← Int32.toInt_inj, Int32.toInt_add, Int32.toInt_sub, Int32.toInt_mul, Int32.toInt_neg, pq_NuO, pq_NuI, pq_NuJ, pq_NuR, pq_shr6, pq_shr7, pq_shr8, lqm1, lq0, lq1, lq2, lq128] at *; (try simp (disch := omega) only [pq_bm] at *); all_goals omega)) (by focus ((try clear hlb0); (try clear hlb1); (try clear hnx1); (try clear hz); (try clear K); (try clear ih); (try clear hl); (try clear hsv); (try clear L58); simp only [vp_in_iff, Int32.lt_iff_toInt_lt, Int32.le_iff_toInt_le, ← Int32.toInt_inj, Int32.toInt_add, Int32.toInt_sub, Int32.toInt_mul, Int32.toInt_neg, pq_NuO, pq_NuI, pq_NuJ, pq_NuR, pq_shr6, pq_shr7, pq_shr8, lqm1, lq0, lq1, lq2, lq128] at *; (try simp (disch := omega) only [pq_bm] at *); all_goals omega)) (by focus ((try clear hlb0); (try clear hlb1); (try clear hnx1); (try clear hz); (try clear K); (try clear ih); (try clear hl); (try clear hsv); (try clear L58); simp only [vp_in_iff, Int32.lt_iff_toInt_lt, Int32.le_iff_toInt_le, ← Int32.toInt_inj, Int32.toInt_add, Int32.toInt_sub, Int32.toInt_mul, Int32.toInt_neg, pq_NuO, pq_NuI, pq_NuJ, pq_NuR, pq_shr6, pq_shr7, pq_shr8, lqm1, lq0, lq1, lq2, lq128] at *; (try simp (disch := omega) only [pq_bm] at *); all_goals omega)))
                  have ha5 := hF5.R ha (by decide)
                  have f20v := hF5.O ha (by decide) (by decide) f20
                  refine pq_iinc (v := -1) F dX11_findLiving_122 rfl (by decide) (by decide) ?_
                  refine pq_goto (tgt := 52) F dX11_findLiving_125 (by decide) ?_
                  refine pq_iload_n F dX11_findLiving_52 rfl rfl ?_
                  refine pq_if_lt (tgt := 128) F dX11_findLiving_53 (by decide) (fun c53 => ?_) (fun c53 => ?_)
                  · skip
                    refine pq_goto (tgt := 39) F dX11_findLiving_128 (by decide) ?_
                    refine pq_iload_n F dX11_findLiving_39 rfl rfl ?_
                    refine pq_if_eq (tgt := 131) F dX11_findLiving_40 (by decide) (fun c40 => ?_) (fun c40 => ?_)
                    · skip
                      exact pq_vret F hr hlk hA (Nat.le_refl _) (Nat.le_refl _) (⟨rfl, hF5, hz5⟩) dX11_findLiving_131
                    · exact absurd rfl c40
                  · exact False.elim (by focus ((try clear hlb0); (try clear hlb1); (try clear hnx1); (try clear hz); (try clear K); (try clear ih); (try clear hl); (try clear hsv); (try clear L58); simp only [vp_in_iff, Int32.lt_iff_toInt_lt, Int32.le_iff_toInt_le, ← Int32.toInt_inj, Int32.toInt_add, Int32.toInt_sub, Int32.toInt_mul, Int32.toInt_neg, pq_NuO, pq_NuI, pq_NuJ, pq_NuR, pq_shr6, pq_shr7, pq_shr8, lqm1, lq0, lq1, lq2, lq128] at *; (try simp (disch := omega) only [pq_bm] at *); all_goals omega))
          · exact False.elim (by focus ((try clear hlb0); (try clear hlb1); (try clear hnx1); (try clear hz); (try clear K); (try clear ih); (try clear hl); (try clear hsv); (try clear L58); simp only [vp_in_iff, Int32.lt_iff_toInt_lt, Int32.le_iff_toInt_le, ← Int32.toInt_inj, Int32.toInt_add, Int32.toInt_sub, Int32.toInt_mul, Int32.toInt_neg, pq_NuO, pq_NuI, pq_NuJ, pq_NuR, pq_shr6, pq_shr7, pq_shr8, lqm1, lq0, lq1, lq2, lq128] at *; (try simp (disch := omega) only [pq_bm] at *); all_goals omega))
        · exact absurd (e20.trans (by first | exact hlb1 | (simp only [pq_IuO, pq_IuJ, pq_Iu, pq_JuO, pq_JuI, pq_Ju, pq_RuO, pq_RuJ, pq_RuI, if_true, if_false, nbl]; exact hlb1))) c22
    · exact absurd (e20.trans (by first | exact hlb0 | (simp only [pq_IuO, pq_IuJ, pq_Iu, pq_JuO, pq_JuI, pq_Ju, pq_RuO, pq_RuJ, pq_RuI, if_true, if_false, nbl]; exact hlb0))) c22

set_option maxHeartbeats 4000000 in
set_option maxRecDepth 100000 in
theorem k_X11_findKindsF (l : Launch) (D : va_G) (cy : Nat → ClassId) (S : HS) (a : Nat) (ha : pq_R S a 14) (lb : Nat) (hd : Nat) (lv : Nat) (kd : Nat) (nk : Nat) (f18 : hO S a 18 = .ref lb) (hlb : pq_R S lb 125) (f29 : hO S a 29 = .ref hd) (hhd : pq_R S hd 131) (f32 : hO S a 32 = .ref lv) (hlv : pq_R S lv 201) (f33 : hO S a 33 = .ref kd) (hkd : pq_R S kd 133) (f34 : hO S a 34 = .ref nk) (hnk : pq_R S nk 134) (f20 : hO S a 20 = .int 2) (hl0 : hI S lv 0 = 0) (hl1 : hI S lv 1 = 0) : pq_C l D cy yX11_findKinds cX11_findKinds 5 (none) 1 0 0 S [.ref a] (fun v S2 => v = none ∧ pq_Fr [(133, 0), (134, 0), (135, 0), (131, 0), (132, 0), (14, 36)] S S2 ∧ (hO S2 a 36 = .int 0)) := by
  refine pq_start (by decide) (Nat.le_of_ble_eq_true rfl) ?_
  intro p e s m args below meth c A F hr hlk hnm hA
  have lqm1 : (-1 : Int32).toInt = -1 := rfl
  have lq0 : (0 : Int32).toInt = 0 := rfl
  have lq1 : (1 : Int32).toInt = 1 := rfl
  have lq2 : (2 : Int32).toInt = 2 := rfl
  have lq1024 : (1024 : Int32).toInt = 1024 := rfl
  have lI : hI S lv = hI S lv := rfl
  have L52 : ∀ (bf : Int32) (K : ∀ (S2 : HS) (hF2 : pq_Fr [(133, 0), (134, 0), (135, 0), (131, 0), (132, 0), (14, 36)] S S2), pq_At p l e (pq_rm 1 0 0) s m args below meth c (pq_Z below args s D cy S 0 0 (fun v S2 => v = none ∧ pq_Fr [(133, 0), (134, 0), (135, 0), (131, 0), (132, 0), (14, 36)] S S2 ∧ (hO S2 a 36 = .int 0))) D cy A 5 0 0 74 S2 [some (.ref a), some (.int bf), none, none, none] []) (fu : Nat) (S1 : HS) (q : Int32)  (hF : pq_Fr [(133, 0), (134, 0), (135, 0), (131, 0), (132, 0), (14, 36)] S S1) (hq0 : 0 ≤ q.toInt) (hq1 : q.toInt ≤ 1024), (1024 - q.toInt).toNat < fu → pq_At p l e (pq_rm 1 0 0) s m args below meth c (pq_Z below args s D cy S 0 0 (fun v S2 => v = none ∧ pq_Fr [(133, 0), (134, 0), (135, 0), (131, 0), (132, 0), (14, 36)] S S2 ∧ (hO S2 a 36 = .int 0))) D cy A 5 0 0 52 S1 [some (.ref a), some (.int bf), some (.int q), none, none] [] := by
    intro bf K fu
    induction fu with
    | zero => intro S1 q hF hq0 hq1 hm; exact absurd hm (Nat.not_lt_zero _)
    | succ fu ih =>
      intro S1 q hF hq0 hq1 hm
      have haL := hF.R ha (by first | decide | omega)
      have f29L := hF.O ha (by decide) (by decide) f29
      have hhdL := hF.R hhd (by decide)
      refine pq_iload_n F dX11_findKinds_52 rfl rfl ?_
      refine pq_aload_n F dX11_findKinds_53 rfl rfl ?_
      refine pq_get F haL (by decide) lk_X11_150 f29L dX11_findKinds_54 ?_
      refine pq_alen F hhdL (by decide) rfl dX11_findKinds_57 (fun l57 u57 => ?_)
      have nq57 := nI_toInt (n := hN _ hd) (Nat.lt_of_le_of_lt u57 (by decide))
      refine pq_icmp_ge (tgt := 74) F dX11_findKinds_58 (by decide) (fun c58 => ?_) (fun c58 => ?_)
      · skip
        exact pq_fgm [true, true, false, false, false] (K _ hF)
      · skip
        refine pq_aload_n F dX11_findKinds_61 rfl rfl ?_
        refine pq_get F haL (by decide) lk_X11_150 f29L dX11_findKinds_62 ?_
        refine pq_iload_n F dX11_findKinds_65 rfl rfl ?_
        refine pq_iconst (v := -1) F dX11_findKinds_66 (by decide) ?_
        refine pq_iast F hhdL (by decide) (by decide) rfl (fun n1_67 n2_67 => (by focus ((try clear hl0); (try clear hl1); (try clear K); (try clear ih); (try clear lI); (try clear L52); simp only [vp_in_iff, Int32.lt_iff_toInt_lt, Int32.le_iff_toInt_le, ← Int32.toInt_inj, Int32.toInt_add, Int32.toInt_sub, Int32.toInt_mul, Int32.toInt_neg, pq_NuO, pq_NuI, pq_NuJ, pq_NuR, pq_shr6, pq_shr7, pq_shr8, lqm1, lq0, lq1, lq2, lq1024] at *; (try simp (disch := omega) only [pq_bm] at *); all_goals omega))) (⟨(by focus ((try clear hl0); (try clear hl1); (try clear K); (try clear ih); (try clear lI); (try clear L52); simp only [vp_in_iff, Int32.lt_iff_toInt_lt, Int32.le_iff_toInt_le, ← Int32.toInt_inj, Int32.toInt_add, Int32.toInt_sub, Int32.toInt_mul, Int32.toInt_neg, pq_NuO, pq_NuI, pq_NuJ, pq_NuR, pq_shr6, pq_shr7, pq_shr8, lqm1, lq0, lq1, lq2, lq1024] at *; (try simp (disch := omega) only [pq_bm] at *); all_goals omega)), (by focus ((try clear hl0); (try clear hl1); (try clear K); (try clear ih); (try clear lI); (try clear L52); simp only [vp_in_iff, Int32.lt_iff_toInt_lt, Int32.le_iff_toInt_le, ← Int32.toInt_inj, Int32.toInt_add, Int32.toInt_sub, Int32.toInt_mul, Int32.toInt_neg, pq_NuO, pq_NuI, pq_NuJ, pq_NuR, pq_shr6, pq_shr7, pq_shr8, lqm1, lq0, lq1, lq2, lq1024] at *; (try simp (disch := omega) only [pq_bm] at *); all_goals omega))⟩) dX11_findKinds_67 ?_
        refine pq_iinc (v := 1) F dX11_findKinds_68 rfl (by decide) (by decide) ?_
        refine pq_goto (tgt := 52) F dX11_findKinds_71 (by decide) ?_
        exact pq_fgm [true, true, true, false, false] (ih _ _ (hF.uI hhdL (by first | decide | exact List.mem_cons_self)) (by focus ((try clear hl0); (try clear hl1); (try clear K); (try clear ih); (try clear lI); (try clear L52); simp only [vp_in_iff, Int32.lt_iff_toInt_lt, Int32.le_iff_toInt_le, ← Int32.toInt_inj, Int32.toInt_add, Int32.toInt_sub, Int32.toInt_mul, Int32.toInt_neg, pq_NuO, pq_NuI, pq_NuJ, pq_NuR, pq_shr6, pq_shr7, pq_shr8, lqm1, lq0, lq1, lq2, lq1024] at *; (try simp (disch := omega) only [pq_bm] at *); all_goals omega)) (by focus ((try clear hl0); (try clear hl1); (try clear K); (try clear ih); (try clear lI); (try clear L52); simp only [vp_in_iff, Int32.lt_iff_toInt_lt, Int32.le_iff_toInt_le, ← Int32.toInt_inj, Int32.toInt_add, Int32.toInt_sub, Int32.toInt_mul, Int32.toInt_neg, pq_NuO, pq_NuI, pq_NuJ, pq_NuR, pq_shr6, pq_shr7, pq_shr8, lqm1, lq0, lq1, lq2, lq1024] at *; (try simp (disch := omega) only [pq_bm] at *); all_goals omega)) (by focus ((try clear hl0); (try clear hl1); (try clear K); (try clear ih); (try clear lI); (try clear L52); simp only [vp_in_iff, Int32.lt_iff_toInt_lt, Int32.le_iff_toInt_le, ← Int32.toInt_inj, Int32.toInt_add, Int32.toInt_sub, Int32.toInt_mul, Int32.toInt_neg, pq_NuO, pq_NuI, pq_NuJ, pq_NuR, pq_shr6, pq_shr7, pq_shr8, lqm1, lq0, lq1, lq2, lq1024] at *; (try simp (disch := omega) only [pq_bm] at *); all_goals omega)))
  refine pq_iconst (v := 0) F dX11_findKinds_0 (by decide) ?_
  refine pq_istore_n F dX11_findKinds_1 rfl (by decide) ?_
  refine pq_iload_n F dX11_findKinds_2 rfl rfl ?_
  refine pq_aload_n F dX11_findKinds_3 rfl rfl ?_
  refine pq_get F ha (by decide) lk_X11_159 f20 dX11_findKinds_4 ?_
  refine pq_icmp_ge (tgt := 30) F dX11_findKinds_7 (by decide) (fun c7 => ?_) (fun c7 => ?_)
  · exact False.elim (by focus ((try clear hl0); (try clear hl1); (try clear K); (try clear ih); (try clear lI); (try clear L52); simp only [vp_in_iff, Int32.lt_iff_toInt_lt, Int32.le_iff_toInt_le, ← Int32.toInt_inj, Int32.toInt_add, Int32.toInt_sub, Int32.toInt_mul, Int32.toInt_neg, pq_NuO, pq_NuI, pq_NuJ, pq_NuR, pq_shr6, pq_shr7, pq_shr8, lqm1, lq0, lq1, lq2, lq1024] at *; (try simp (disch := omega) only [pq_bm] at *); all_goals omega))
  · skip
    refine pq_aload_n F dX11_findKinds_10 rfl rfl ?_
    refine pq_get F ha (by decide) lk_X11_187 f33 dX11_findKinds_11 ?_
    refine pq_iload_n F dX11_findKinds_14 rfl rfl ?_
    refine pq_aload_n F dX11_findKinds_15 rfl rfl ?_
    refine pq_get F ha (by decide) lk_X11_175 f18 dX11_findKinds_16 ?_
    refine pq_iload_n F dX11_findKinds_19 rfl rfl ?_
    refine pq_iald F hlb (by decide) (by decide) rfl (fun n1_20 n2_20 => (by focus ((try clear hl0); (try clear hl1); (try clear K); (try clear ih); (try clear lI); (try clear L52); simp only [vp_in_iff, Int32.lt_iff_toInt_lt, Int32.le_iff_toInt_le, ← Int32.toInt_inj, Int32.toInt_add, Int32.toInt_sub, Int32.toInt_mul, Int32.toInt_neg, pq_NuO, pq_NuI, pq_NuJ, pq_NuR, pq_shr6, pq_shr7, pq_shr8, lqm1, lq0, lq1, lq2, lq1024] at *; (try simp (disch := omega) only [pq_bm] at *); all_goals omega))) dX11_findKinds_20 (fun x20 e20 l20 u20 => ?_)
    refine pq_iconst (v := 1) F dX11_findKinds_21 (by decide) ?_
    refine pq_iadd F dX11_findKinds_22 ?_
    refine pq_iast F hkd (by decide) (by decide) rfl (fun n1_23 n2_23 => (by focus ((try clear hl0); (try clear hl1); (try clear K); (try clear ih); (try clear lI); (try clear L52); simp only [vp_in_iff, Int32.lt_iff_toInt_lt, Int32.le_iff_toInt_le, ← Int32.toInt_inj, Int32.toInt_add, Int32.toInt_sub, Int32.toInt_mul, Int32.toInt_neg, pq_NuO, pq_NuI, pq_NuJ, pq_NuR, pq_shr6, pq_shr7, pq_shr8, lqm1, lq0, lq1, lq2, lq1024] at *; (try simp (disch := omega) only [pq_bm] at *); all_goals omega))) (⟨pq_any1 _, pq_any2 _⟩) dX11_findKinds_23 ?_
    refine pq_iinc (v := 1) F dX11_findKinds_24 rfl (by decide) (by decide) ?_
    refine pq_goto (tgt := 2) F dX11_findKinds_27 (by decide) ?_
    refine pq_iload_n F dX11_findKinds_2 rfl rfl ?_
    refine pq_aload_n F dX11_findKinds_3 rfl rfl ?_
    refine pq_get F ha (by decide) lk_X11_159 f20 dX11_findKinds_4 ?_
    refine pq_icmp_ge (tgt := 30) F dX11_findKinds_7 (by decide) (fun c7 => ?_) (fun c7 => ?_)
    · exact False.elim (by focus ((try clear hl0); (try clear hl1); (try clear K); (try clear ih); (try clear lI); (try clear L52); simp only [vp_in_iff, Int32.lt_iff_toInt_lt, Int32.le_iff_toInt_le, ← Int32.toInt_inj, Int32.toInt_add, Int32.toInt_sub, Int32.toInt_mul, Int32.toInt_neg, pq_NuO, pq_NuI, pq_NuJ, pq_NuR, pq_shr6, pq_shr7, pq_shr8, lqm1, lq0, lq1, lq2, lq1024] at *; (try simp (disch := omega) only [pq_bm] at *); all_goals omega))
    · skip
      refine pq_aload_n F dX11_findKinds_10 rfl rfl ?_
      refine pq_get F ha (by decide) lk_X11_187 f33 dX11_findKinds_11 ?_
      refine pq_iload_n F dX11_findKinds_14 rfl rfl ?_
      refine pq_aload_n F dX11_findKinds_15 rfl rfl ?_
      refine pq_get F ha (by decide) lk_X11_175 f18 dX11_findKinds_16 ?_
      refine pq_iload_n F dX11_findKinds_19 rfl rfl ?_
      refine pq_iald F hlb (by decide) (by decide) rfl (fun n1_20 n2_20 => (by focus ((try clear hl0); (try clear hl1); (try clear K); (try clear ih); (try clear lI); (try clear L52); simp only [vp_in_iff, Int32.lt_iff_toInt_lt, Int32.le_iff_toInt_le, ← Int32.toInt_inj, Int32.toInt_add, Int32.toInt_sub, Int32.toInt_mul, Int32.toInt_neg, pq_NuO, pq_NuI, pq_NuJ, pq_NuR, pq_shr6, pq_shr7, pq_shr8, lqm1, lq0, lq1, lq2, lq1024] at *; (try simp (disch := omega) only [pq_bm] at *); all_goals omega))) dX11_findKinds_20 (fun x20 e20 l20 u20 => ?_)
      refine pq_iconst (v := 1) F dX11_findKinds_21 (by decide) ?_
      refine pq_iadd F dX11_findKinds_22 ?_
      refine pq_iast F hkd (by decide) (by decide) rfl (fun n1_23 n2_23 => (by focus ((try clear hl0); (try clear hl1); (try clear K); (try clear ih); (try clear lI); (try clear L52); simp only [vp_in_iff, Int32.lt_iff_toInt_lt, Int32.le_iff_toInt_le, ← Int32.toInt_inj, Int32.toInt_add, Int32.toInt_sub, Int32.toInt_mul, Int32.toInt_neg, pq_NuO, pq_NuI, pq_NuJ, pq_NuR, pq_shr6, pq_shr7, pq_shr8, lqm1, lq0, lq1, lq2, lq1024] at *; (try simp (disch := omega) only [pq_bm] at *); all_goals omega))) (⟨pq_any1 _, pq_any2 _⟩) dX11_findKinds_23 ?_
      refine pq_iinc (v := 1) F dX11_findKinds_24 rfl (by decide) (by decide) ?_
      refine pq_goto (tgt := 2) F dX11_findKinds_27 (by decide) ?_
      refine pq_iload_n F dX11_findKinds_2 rfl rfl ?_
      refine pq_aload_n F dX11_findKinds_3 rfl rfl ?_
      refine pq_get F ha (by decide) lk_X11_159 f20 dX11_findKinds_4 ?_
      refine pq_icmp_ge (tgt := 30) F dX11_findKinds_7 (by decide) (fun c7 => ?_) (fun c7 => ?_)
      · skip
        refine pq_iconst (v := 0) F dX11_findKinds_30 (by decide) ?_
        refine pq_istore_n F dX11_findKinds_31 rfl (by decide) ?_
        refine pq_aload_n F dX11_findKinds_32 rfl rfl ?_
        refine pq_iconst (v := 1) F dX11_findKinds_33 (by decide) ?_
        refine pq_putI F ha (by decide) lp_X11_193 rfl (pq_any1 _) (pq_any2 _) dX11_findKinds_34 ?_
        refine pq_aload_n F dX11_findKinds_37 rfl rfl ?_
        refine pq_get F ha (by decide) lk_X11_193 pq_ks dX11_findKinds_38 ?_
        refine pq_iload_n F dX11_findKinds_41 rfl rfl ?_
        refine pq_icmp_eq (tgt := 244) F dX11_findKinds_42 (by decide) (fun c42 => ?_) (fun c42 => ?_)
        · exact absurd c42 (by decide)
        · skip
          refine pq_aload_n F dX11_findKinds_45 rfl rfl ?_
          refine pq_get F ha (by decide) lk_X11_193 pq_ks dX11_findKinds_46 ?_
          refine pq_istore_n F dX11_findKinds_49 rfl (by decide) ?_
          refine pq_iconst (v := 0) F dX11_findKinds_50 (by decide) ?_
          refine pq_istore_n F dX11_findKinds_51 rfl (by decide) ?_
          refine pq_fgm [true, true, true, false, false] (L52 _ (fun S5 hF5 => ?_) 2000 _ 0 (((pq_Fr.rf.uI hkd (by first | decide | exact List.mem_cons_self)).uI hkd (by first | decide | exact List.mem_cons_self)).uO ha (by decide)) (by focus ((try clear hl0); (try clear hl1); (try clear K); (try clear ih); (try clear lI); (try clear L52); simp only [vp_in_iff, Int32.lt_iff_toInt_lt, Int32.le_iff_toInt_le, ← Int32.toInt_inj, Int32.toInt_add, Int32.toInt_sub, Int32.toInt_mul, Int32.toInt_neg, pq_NuO, pq_NuI, pq_NuJ, pq_NuR, pq_shr6, pq_shr7, pq_shr8, lqm1, lq0, lq1, lq2, lq1024] at *; (try simp (disch := omega) only [pq_bm] at *); all_goals omega)) (by focus ((try clear hl0); (try clear hl1); (try clear K); (try clear ih); (try clear lI); (try clear L52); simp only [vp_in_iff, Int32.lt_iff_toInt_lt, Int32.le_iff_toInt_le, ← Int32.toInt_inj, Int32.toInt_add, Int32.toInt_sub, Int32.toInt_mul, Int32.toInt_neg, pq_NuO, pq_NuI, pq_NuJ, pq_NuR, pq_shr6, pq_shr7, pq_shr8, lqm1, lq0, lq1, lq2, lq1024] at *; (try simp (disch := omega) only [pq_bm] at *); all_goals omega)) (by focus ((try clear hl0); (try clear hl1); (try clear K); (try clear ih); (try clear lI); (try clear L52); simp only [vp_in_iff, Int32.lt_iff_toInt_lt, Int32.le_iff_toInt_le, ← Int32.toInt_inj, Int32.toInt_add, Int32.toInt_sub, Int32.toInt_mul, Int32.toInt_neg, pq_NuO, pq_NuI, pq_NuJ, pq_NuR, pq_shr6, pq_shr7, pq_shr8, lqm1, lq0, lq1, lq2, lq1024] at *; (try simp (disch := omega) only [pq_bm] at *); all_goals omega)))
          have ha5 := hF5.R ha (by decide)
          have f18v := hF5.O ha (by decide) (by decide) f18
          have hlbv := hF5.R hlb (by decide)
          have f29v := hF5.O ha (by decide) (by decide) f29
          have hhdv := hF5.R hhd (by decide)
          have f32v := hF5.O ha (by decide) (by decide) f32
          have hlvv := hF5.R hlv (by decide)
          have f33v := hF5.O ha (by decide) (by decide) f33
          have hkdv := hF5.R hkd (by decide)
          have f34v := hF5.O ha (by decide) (by decide) f34
          have hnkv := hF5.R hnk (by decide)
          have f20v := hF5.O ha (by decide) (by decide) f20
          have lI : hI S5 lv = hI S lv := hF5.I hlv (by decide) (by decide)
          refine pq_aload_n F dX11_findKinds_74 rfl rfl ?_
          refine pq_iconst (v := 0) F dX11_findKinds_75 (by decide) ?_
          refine pq_putI F ha5 (by decide) lp_X11_193 rfl (pq_any1 _) (pq_any2 _) dX11_findKinds_76 ?_
          refine pq_iconst (v := 0) F dX11_findKinds_79 (by decide) ?_
          refine pq_istore_n F dX11_findKinds_80 rfl (by decide) ?_
          refine pq_iload_n F dX11_findKinds_81 rfl rfl ?_
          refine pq_aload_n F dX11_findKinds_82 rfl rfl ?_
          refine pq_get F ha5 (by decide) lk_X11_159 (pq_kp f20v (by decide)) dX11_findKinds_83 ?_
          refine pq_icmp_ge (tgt := 213) F dX11_findKinds_86 (by decide) (fun c86 => ?_) (fun c86 => ?_)
          · exact False.elim (by focus ((try clear hl0); (try clear hl1); (try clear K); (try clear ih); (try clear lI); (try clear L52); simp only [vp_in_iff, Int32.lt_iff_toInt_lt, Int32.le_iff_toInt_le, ← Int32.toInt_inj, Int32.toInt_add, Int32.toInt_sub, Int32.toInt_mul, Int32.toInt_neg, pq_NuO, pq_NuI, pq_NuJ, pq_NuR, pq_shr6, pq_shr7, pq_shr8, lqm1, lq0, lq1, lq2, lq1024] at *; (try simp (disch := omega) only [pq_bm] at *); all_goals omega))
          · skip
            refine pq_aload_n F dX11_findKinds_89 rfl rfl ?_
            refine pq_get F ha5 (by decide) lk_X11_184 (pq_kp f32v (by decide)) dX11_findKinds_90 ?_
            refine pq_iload_n F dX11_findKinds_93 rfl rfl ?_
            refine pq_zald F hlvv (by decide) (by decide) rfl (fun n1_94 n2_94 => (by focus ((try clear hl0); (try clear hl1); (try clear K); (try clear ih); (try clear lI); (try clear L52); simp only [vp_in_iff, Int32.lt_iff_toInt_lt, Int32.le_iff_toInt_le, ← Int32.toInt_inj, Int32.toInt_add, Int32.toInt_sub, Int32.toInt_mul, Int32.toInt_neg, pq_NuO, pq_NuI, pq_NuJ, pq_NuR, pq_shr6, pq_shr7, pq_shr8, lqm1, lq0, lq1, lq2, lq1024] at *; (try simp (disch := omega) only [pq_bm] at *); all_goals omega))) dX11_findKinds_94 (fun x94 e94 l94 u94 => ?_)
            refine pq_if_ne (tgt := 101) F dX11_findKinds_95 (by decide) (fun c95 => ?_) (fun c95 => ?_)
            · exact absurd (e94.trans (by simp only [pq_IuO, pq_IuJ, pq_Iu, pq_JuO, pq_JuI, pq_Ju, pq_RuO, pq_RuJ, pq_RuI, if_true, if_false]; rw [lI]; exact hl0)) c95
            · skip
              refine pq_goto (tgt := 207) F dX11_findKinds_98 (by decide) ?_
              refine pq_iinc (v := 1) F dX11_findKinds_207 rfl (by decide) (by decide) ?_
              refine pq_goto (tgt := 81) F dX11_findKinds_210 (by decide) ?_
              refine pq_iload_n F dX11_findKinds_81 rfl rfl ?_
              refine pq_aload_n F dX11_findKinds_82 rfl rfl ?_
              refine pq_get F ha5 (by decide) lk_X11_159 (pq_kp f20v (by decide)) dX11_findKinds_83 ?_
              refine pq_icmp_ge (tgt := 213) F dX11_findKinds_86 (by decide) (fun c86 => ?_) (fun c86 => ?_)
              · exact False.elim (by focus ((try clear hl0); (try clear hl1); (try clear K); (try clear ih); (try clear lI); (try clear L52); simp only [vp_in_iff, Int32.lt_iff_toInt_lt, Int32.le_iff_toInt_le, ← Int32.toInt_inj, Int32.toInt_add, Int32.toInt_sub, Int32.toInt_mul, Int32.toInt_neg, pq_NuO, pq_NuI, pq_NuJ, pq_NuR, pq_shr6, pq_shr7, pq_shr8, lqm1, lq0, lq1, lq2, lq1024] at *; (try simp (disch := omega) only [pq_bm] at *); all_goals omega))
              · skip
                refine pq_aload_n F dX11_findKinds_89 rfl rfl ?_
                refine pq_get F ha5 (by decide) lk_X11_184 (pq_kp f32v (by decide)) dX11_findKinds_90 ?_
                refine pq_iload_n F dX11_findKinds_93 rfl rfl ?_
                refine pq_zald F hlvv (by decide) (by decide) rfl (fun n1_94 n2_94 => (by focus ((try clear hl0); (try clear hl1); (try clear K); (try clear ih); (try clear lI); (try clear L52); simp only [vp_in_iff, Int32.lt_iff_toInt_lt, Int32.le_iff_toInt_le, ← Int32.toInt_inj, Int32.toInt_add, Int32.toInt_sub, Int32.toInt_mul, Int32.toInt_neg, pq_NuO, pq_NuI, pq_NuJ, pq_NuR, pq_shr6, pq_shr7, pq_shr8, lqm1, lq0, lq1, lq2, lq1024] at *; (try simp (disch := omega) only [pq_bm] at *); all_goals omega))) dX11_findKinds_94 (fun x94 e94 l94 u94 => ?_)
                refine pq_if_ne (tgt := 101) F dX11_findKinds_95 (by decide) (fun c95 => ?_) (fun c95 => ?_)
                · exact absurd (e94.trans (by simp only [pq_IuO, pq_IuJ, pq_Iu, pq_JuO, pq_JuI, pq_Ju, pq_RuO, pq_RuJ, pq_RuI, if_true, if_false]; rw [lI]; exact hl1)) c95
                · skip
                  refine pq_goto (tgt := 207) F dX11_findKinds_98 (by decide) ?_
                  refine pq_iinc (v := 1) F dX11_findKinds_207 rfl (by decide) (by decide) ?_
                  refine pq_goto (tgt := 81) F dX11_findKinds_210 (by decide) ?_
                  refine pq_iload_n F dX11_findKinds_81 rfl rfl ?_
                  refine pq_aload_n F dX11_findKinds_82 rfl rfl ?_
                  refine pq_get F ha5 (by decide) lk_X11_159 (pq_kp f20v (by decide)) dX11_findKinds_83 ?_
                  refine pq_icmp_ge (tgt := 213) F dX11_findKinds_86 (by decide) (fun c86 => ?_) (fun c86 => ?_)
                  · skip
                    refine pq_iconst (v := 0) F dX11_findKinds_213 (by decide) ?_
                    refine pq_istore_n F dX11_findKinds_214 rfl (by decide) ?_
                    refine pq_iload_n F dX11_findKinds_215 rfl rfl ?_
                    refine pq_aload_n F dX11_findKinds_216 rfl rfl ?_
                    refine pq_get F ha5 (by decide) lk_X11_159 (pq_kp f20v (by decide)) dX11_findKinds_217 ?_
                    refine pq_icmp_ge (tgt := 241) F dX11_findKinds_220 (by decide) (fun c220 => ?_) (fun c220 => ?_)
                    · exact False.elim (by focus ((try clear hl0); (try clear hl1); (try clear K); (try clear ih); (try clear lI); (try clear L52); simp only [vp_in_iff, Int32.lt_iff_toInt_lt, Int32.le_iff_toInt_le, ← Int32.toInt_inj, Int32.toInt_add, Int32.toInt_sub, Int32.toInt_mul, Int32.toInt_neg, pq_NuO, pq_NuI, pq_NuJ, pq_NuR, pq_shr6, pq_shr7, pq_shr8, lqm1, lq0, lq1, lq2, lq1024] at *; (try simp (disch := omega) only [pq_bm] at *); all_goals omega))
                    · skip
                      refine pq_aload_n F dX11_findKinds_223 rfl rfl ?_
                      refine pq_get F ha5 (by decide) lk_X11_187 (pq_kp f33v (by decide)) dX11_findKinds_224 ?_
                      refine pq_iload_n F dX11_findKinds_227 rfl rfl ?_
                      refine pq_aload_n F dX11_findKinds_228 rfl rfl ?_
                      refine pq_get F ha5 (by decide) lk_X11_206 (pq_kp f34v (by decide)) dX11_findKinds_229 ?_
                      refine pq_iload_n F dX11_findKinds_232 rfl rfl ?_
                      refine pq_iald F hnkv (by decide) (by decide) rfl (fun n1_233 n2_233 => (by focus ((try clear hl0); (try clear hl1); (try clear K); (try clear ih); (try clear lI); (try clear L52); simp only [vp_in_iff, Int32.lt_iff_toInt_lt, Int32.le_iff_toInt_le, ← Int32.toInt_inj, Int32.toInt_add, Int32.toInt_sub, Int32.toInt_mul, Int32.toInt_neg, pq_NuO, pq_NuI, pq_NuJ, pq_NuR, pq_shr6, pq_shr7, pq_shr8, lqm1, lq0, lq1, lq2, lq1024] at *; (try simp (disch := omega) only [pq_bm] at *); all_goals omega))) dX11_findKinds_233 (fun x233 e233 l233 u233 => ?_)
                      refine pq_iast F hkdv (by decide) (by decide) rfl (fun n1_234 n2_234 => (by focus ((try clear hl0); (try clear hl1); (try clear K); (try clear ih); (try clear lI); (try clear L52); simp only [vp_in_iff, Int32.lt_iff_toInt_lt, Int32.le_iff_toInt_le, ← Int32.toInt_inj, Int32.toInt_add, Int32.toInt_sub, Int32.toInt_mul, Int32.toInt_neg, pq_NuO, pq_NuI, pq_NuJ, pq_NuR, pq_shr6, pq_shr7, pq_shr8, lqm1, lq0, lq1, lq2, lq1024] at *; (try simp (disch := omega) only [pq_bm] at *); all_goals omega))) (⟨pq_any1 _, pq_any2 _⟩) dX11_findKinds_234 ?_
                      refine pq_iinc (v := 1) F dX11_findKinds_235 rfl (by decide) (by decide) ?_
                      refine pq_goto (tgt := 215) F dX11_findKinds_238 (by decide) ?_
                      refine pq_iload_n F dX11_findKinds_215 rfl rfl ?_
                      refine pq_aload_n F dX11_findKinds_216 rfl rfl ?_
                      refine pq_get F ha5 (by decide) lk_X11_159 (pq_kp f20v (by decide)) dX11_findKinds_217 ?_
                      refine pq_icmp_ge (tgt := 241) F dX11_findKinds_220 (by decide) (fun c220 => ?_) (fun c220 => ?_)
                      · exact False.elim (by focus ((try clear hl0); (try clear hl1); (try clear K); (try clear ih); (try clear lI); (try clear L52); simp only [vp_in_iff, Int32.lt_iff_toInt_lt, Int32.le_iff_toInt_le, ← Int32.toInt_inj, Int32.toInt_add, Int32.toInt_sub, Int32.toInt_mul, Int32.toInt_neg, pq_NuO, pq_NuI, pq_NuJ, pq_NuR, pq_shr6, pq_shr7, pq_shr8, lqm1, lq0, lq1, lq2, lq1024] at *; (try simp (disch := omega) only [pq_bm] at *); all_goals omega))
                      · skip
                        refine pq_aload_n F dX11_findKinds_223 rfl rfl ?_
                        refine pq_get F ha5 (by decide) lk_X11_187 (pq_kp f33v (by decide)) dX11_findKinds_224 ?_
                        refine pq_iload_n F dX11_findKinds_227 rfl rfl ?_
                        refine pq_aload_n F dX11_findKinds_228 rfl rfl ?_
                        refine pq_get F ha5 (by decide) lk_X11_206 (pq_kp f34v (by decide)) dX11_findKinds_229 ?_
                        refine pq_iload_n F dX11_findKinds_232 rfl rfl ?_
                        refine pq_iald F hnkv (by decide) (by decide) rfl (fun n1_233 n2_233 => (by focus ((try clear hl0); (try clear hl1); (try clear K); (try clear ih); (try clear lI); (try clear L52); simp only [vp_in_iff, Int32.lt_iff_toInt_lt, Int32.le_iff_toInt_le, ← Int32.toInt_inj, Int32.toInt_add, Int32.toInt_sub, Int32.toInt_mul, Int32.toInt_neg, pq_NuO, pq_NuI, pq_NuJ, pq_NuR, pq_shr6, pq_shr7, pq_shr8, lqm1, lq0, lq1, lq2, lq1024] at *; (try simp (disch := omega) only [pq_bm] at *); all_goals omega))) dX11_findKinds_233 (fun x233 e233 l233 u233 => ?_)
                        refine pq_iast F hkdv (by decide) (by decide) rfl (fun n1_234 n2_234 => (by focus ((try clear hl0); (try clear hl1); (try clear K); (try clear ih); (try clear lI); (try clear L52); simp only [vp_in_iff, Int32.lt_iff_toInt_lt, Int32.le_iff_toInt_le, ← Int32.toInt_inj, Int32.toInt_add, Int32.toInt_sub, Int32.toInt_mul, Int32.toInt_neg, pq_NuO, pq_NuI, pq_NuJ, pq_NuR, pq_shr6, pq_shr7, pq_shr8, lqm1, lq0, lq1, lq2, lq1024] at *; (try simp (disch := omega) only [pq_bm] at *); all_goals omega))) (⟨pq_any1 _, pq_any2 _⟩) dX11_findKinds_234 ?_
                        refine pq_iinc (v := 1) F dX11_findKinds_235 rfl (by decide) (by decide) ?_
                        refine pq_goto (tgt := 215) F dX11_findKinds_238 (by decide) ?_
                        refine pq_iload_n F dX11_findKinds_215 rfl rfl ?_
                        refine pq_aload_n F dX11_findKinds_216 rfl rfl ?_
                        refine pq_get F ha5 (by decide) lk_X11_159 (pq_kp f20v (by decide)) dX11_findKinds_217 ?_
                        refine pq_icmp_ge (tgt := 241) F dX11_findKinds_220 (by decide) (fun c220 => ?_) (fun c220 => ?_)
                        · skip
                          refine pq_goto (tgt := 37) F dX11_findKinds_241 (by decide) ?_
                          refine pq_aload_n F dX11_findKinds_37 rfl rfl ?_
                          refine pq_get F ha5 (by decide) lk_X11_193 pq_ks dX11_findKinds_38 ?_
                          refine pq_iload_n F dX11_findKinds_41 rfl rfl ?_
                          refine pq_icmp_eq (tgt := 244) F dX11_findKinds_42 (by decide) (fun c42 => ?_) (fun c42 => ?_)
                          · exact absurd c42 (by decide)
                          · skip
                            refine pq_aload_n F dX11_findKinds_45 rfl rfl ?_
                            refine pq_get F ha5 (by decide) lk_X11_193 pq_ks dX11_findKinds_46 ?_
                            refine pq_istore_n F dX11_findKinds_49 rfl (by decide) ?_
                            refine pq_iconst (v := 0) F dX11_findKinds_50 (by decide) ?_
                            refine pq_istore_n F dX11_findKinds_51 rfl (by decide) ?_
                            refine pq_fgm [true, true, true, false, false] (L52 _ (fun S5 hF5 => ?_) 2000 _ 0 (((hF5.uO ha5 (by decide)).uI hkdv (by first | decide | exact List.mem_cons_self)).uI hkdv (by first | decide | exact List.mem_cons_self)) (by focus ((try clear hl0); (try clear hl1); (try clear K); (try clear ih); (try clear lI); (try clear L52); simp only [vp_in_iff, Int32.lt_iff_toInt_lt, Int32.le_iff_toInt_le, ← Int32.toInt_inj, Int32.toInt_add, Int32.toInt_sub, Int32.toInt_mul, Int32.toInt_neg, pq_NuO, pq_NuI, pq_NuJ, pq_NuR, pq_shr6, pq_shr7, pq_shr8, lqm1, lq0, lq1, lq2, lq1024] at *; (try simp (disch := omega) only [pq_bm] at *); all_goals omega)) (by focus ((try clear hl0); (try clear hl1); (try clear K); (try clear ih); (try clear lI); (try clear L52); simp only [vp_in_iff, Int32.lt_iff_toInt_lt, Int32.le_iff_toInt_le, ← Int32.toInt_inj, Int32.toInt_add, Int32.toInt_sub, Int32.toInt_mul, Int32.toInt_neg, pq_NuO, pq_NuI, pq_NuJ, pq_NuR, pq_shr6, pq_shr7, pq_shr8, lqm1, lq0, lq1, lq2, lq1024] at *; (try simp (disch := omega) only [pq_bm] at *); all_goals omega)) (by focus ((try clear hl0); (try clear hl1); (try clear K); (try clear ih); (try clear lI); (try clear L52); simp only [vp_in_iff, Int32.lt_iff_toInt_lt, Int32.le_iff_toInt_le, ← Int32.toInt_inj, Int32.toInt_add, Int32.toInt_sub, Int32.toInt_mul, Int32.toInt_neg, pq_NuO, pq_NuI, pq_NuJ, pq_NuR, pq_shr6, pq_shr7, pq_shr8, lqm1, lq0, lq1, lq2, lq1024] at *; (try simp (disch := omega) only [pq_bm] at *); all_goals omega)))
                            have ha5 := hF5.R ha (by decide)
                            have f18v := hF5.O ha (by decide) (by decide) f18
                            have hlbv := hF5.R hlb (by decide)
                            have f29v := hF5.O ha (by decide) (by decide) f29
                            have hhdv := hF5.R hhd (by decide)
                            have f32v := hF5.O ha (by decide) (by decide) f32
                            have hlvv := hF5.R hlv (by decide)
                            have f33v := hF5.O ha (by decide) (by decide) f33
                            have hkdv := hF5.R hkd (by decide)
                            have f34v := hF5.O ha (by decide) (by decide) f34
                            have hnkv := hF5.R hnk (by decide)
                            have f20v := hF5.O ha (by decide) (by decide) f20
                            have lI : hI S5 lv = hI S lv := hF5.I hlv (by decide) (by decide)
                            refine pq_aload_n F dX11_findKinds_74 rfl rfl ?_
                            refine pq_iconst (v := 0) F dX11_findKinds_75 (by decide) ?_
                            refine pq_putI F ha5 (by decide) lp_X11_193 rfl (pq_any1 _) (pq_any2 _) dX11_findKinds_76 ?_
                            refine pq_iconst (v := 0) F dX11_findKinds_79 (by decide) ?_
                            refine pq_istore_n F dX11_findKinds_80 rfl (by decide) ?_
                            refine pq_iload_n F dX11_findKinds_81 rfl rfl ?_
                            refine pq_aload_n F dX11_findKinds_82 rfl rfl ?_
                            refine pq_get F ha5 (by decide) lk_X11_159 (pq_kp f20v (by decide)) dX11_findKinds_83 ?_
                            refine pq_icmp_ge (tgt := 213) F dX11_findKinds_86 (by decide) (fun c86 => ?_) (fun c86 => ?_)
                            · exact False.elim (by focus ((try clear hl0); (try clear hl1); (try clear K); (try clear ih); (try clear lI); (try clear L52); simp only [vp_in_iff, Int32.lt_iff_toInt_lt, Int32.le_iff_toInt_le, ← Int32.toInt_inj, Int32.toInt_add, Int32.toInt_sub, Int32.toInt_mul, Int32.toInt_neg, pq_NuO, pq_NuI, pq_NuJ, pq_NuR, pq_shr6, pq_shr7, pq_shr8, lqm1, lq0, lq1, lq2, lq1024] at *; (try simp (disch := omega) only [pq_bm] at *); all_goals omega))
                            · skip
                              refine pq_aload_n F dX11_findKinds_89 rfl rfl ?_
                              refine pq_get F ha5 (by decide) lk_X11_184 (pq_kp f32v (by decide)) dX11_findKinds_90 ?_
                              refine pq_iload_n F dX11_findKinds_93 rfl rfl ?_
                              refine pq_zald F hlvv (by decide) (by decide) rfl (fun n1_94 n2_94 => (by focus ((try clear hl0); (try clear hl1); (try clear K); (try clear ih); (try clear lI); (try clear L52); simp only [vp_in_iff, Int32.lt_iff_toInt_lt, Int32.le_iff_toInt_le, ← Int32.toInt_inj, Int32.toInt_add, Int32.toInt_sub, Int32.toInt_mul, Int32.toInt_neg, pq_NuO, pq_NuI, pq_NuJ, pq_NuR, pq_shr6, pq_shr7, pq_shr8, lqm1, lq0, lq1, lq2, lq1024] at *; (try simp (disch := omega) only [pq_bm] at *); all_goals omega))) dX11_findKinds_94 (fun x94 e94 l94 u94 => ?_)
                              refine pq_if_ne (tgt := 101) F dX11_findKinds_95 (by decide) (fun c95 => ?_) (fun c95 => ?_)
                              · exact absurd (e94.trans (by simp only [pq_IuO, pq_IuJ, pq_Iu, pq_JuO, pq_JuI, pq_Ju, pq_RuO, pq_RuJ, pq_RuI, if_true, if_false]; rw [lI]; exact hl0)) c95
                              · skip
                                refine pq_goto (tgt := 207) F dX11_findKinds_98 (by decide) ?_
                                refine pq_iinc (v := 1) F dX11_findKinds_207 rfl (by decide) (by decide) ?_
                                refine pq_goto (tgt := 81) F dX11_findKinds_210 (by decide) ?_
                                refine pq_iload_n F dX11_findKinds_81 rfl rfl ?_
                                refine pq_aload_n F dX11_findKinds_82 rfl rfl ?_
                                refine pq_get F ha5 (by decide) lk_X11_159 (pq_kp f20v (by decide)) dX11_findKinds_83 ?_
                                refine pq_icmp_ge (tgt := 213) F dX11_findKinds_86 (by decide) (fun c86 => ?_) (fun c86 => ?_)
                                · exact False.elim (by focus ((try clear hl0); (try clear hl1); (try clear K); (try clear ih); (try clear lI); (try clear L52); simp only [vp_in_iff, Int32.lt_iff_toInt_lt, Int32.le_iff_toInt_le, ← Int32.toInt_inj, Int32.toInt_add, Int32.toInt_sub, Int32.toInt_mul, Int32.toInt_neg, pq_NuO, pq_NuI, pq_NuJ, pq_NuR, pq_shr6, pq_shr7, pq_shr8, lqm1, lq0, lq1, lq2, lq1024] at *; (try simp (disch := omega) only [pq_bm] at *); all_goals omega))
                                · skip
                                  refine pq_aload_n F dX11_findKinds_89 rfl rfl ?_
                                  refine pq_get F ha5 (by decide) lk_X11_184 (pq_kp f32v (by decide)) dX11_findKinds_90 ?_
                                  refine pq_iload_n F dX11_findKinds_93 rfl rfl ?_
                                  refine pq_zald F hlvv (by decide) (by decide) rfl (fun n1_94 n2_94 => (by focus ((try clear hl0); (try clear hl1); (try clear K); (try clear ih); (try clear lI); (try clear L52); simp only [vp_in_iff, Int32.lt_iff_toInt_lt, Int32.le_iff_toInt_le, ← Int32.toInt_inj, Int32.toInt_add, Int32.toInt_sub, Int32.toInt_mul, Int32.toInt_neg, pq_NuO, pq_NuI, pq_NuJ, pq_NuR, pq_shr6, pq_shr7, pq_shr8, lqm1, lq0, lq1, lq2, lq1024] at *; (try simp (disch := omega) only [pq_bm] at *); all_goals omega))) dX11_findKinds_94 (fun x94 e94 l94 u94 => ?_)
                                  refine pq_if_ne (tgt := 101) F dX11_findKinds_95 (by decide) (fun c95 => ?_) (fun c95 => ?_)
                                  · exact absurd (e94.trans (by simp only [pq_IuO, pq_IuJ, pq_Iu, pq_JuO, pq_JuI, pq_Ju, pq_RuO, pq_RuJ, pq_RuI, if_true, if_false]; rw [lI]; exact hl1)) c95
                                  · skip
                                    refine pq_goto (tgt := 207) F dX11_findKinds_98 (by decide) ?_
                                    refine pq_iinc (v := 1) F dX11_findKinds_207 rfl (by decide) (by decide) ?_
                                    refine pq_goto (tgt := 81) F dX11_findKinds_210 (by decide) ?_
                                    refine pq_iload_n F dX11_findKinds_81 rfl rfl ?_
                                    refine pq_aload_n F dX11_findKinds_82 rfl rfl ?_
                                    refine pq_get F ha5 (by decide) lk_X11_159 (pq_kp f20v (by decide)) dX11_findKinds_83 ?_
                                    refine pq_icmp_ge (tgt := 213) F dX11_findKinds_86 (by decide) (fun c86 => ?_) (fun c86 => ?_)
                                    · skip
                                      refine pq_iconst (v := 0) F dX11_findKinds_213 (by decide) ?_
                                      refine pq_istore_n F dX11_findKinds_214 rfl (by decide) ?_
                                      refine pq_iload_n F dX11_findKinds_215 rfl rfl ?_
                                      refine pq_aload_n F dX11_findKinds_216 rfl rfl ?_
                                      refine pq_get F ha5 (by decide) lk_X11_159 (pq_kp f20v (by decide)) dX11_findKinds_217 ?_
                                      refine pq_icmp_ge (tgt := 241) F dX11_findKinds_220 (by decide) (fun c220 => ?_) (fun c220 => ?_)
                                      · exact False.elim (by focus ((try clear hl0); (try clear hl1); (try clear K); (try clear ih); (try clear lI); (try clear L52); simp only [vp_in_iff, Int32.lt_iff_toInt_lt, Int32.le_iff_toInt_le, ← Int32.toInt_inj, Int32.toInt_add, Int32.toInt_sub, Int32.toInt_mul, Int32.toInt_neg, pq_NuO, pq_NuI, pq_NuJ, pq_NuR, pq_shr6, pq_shr7, pq_shr8, lqm1, lq0, lq1, lq2, lq1024] at *; (try simp (disch := omega) only [pq_bm] at *); all_goals omega))
                                      · skip
                                        refine pq_aload_n F dX11_findKinds_223 rfl rfl ?_
                                        refine pq_get F ha5 (by decide) lk_X11_187 (pq_kp f33v (by decide)) dX11_findKinds_224 ?_
                                        refine pq_iload_n F dX11_findKinds_227 rfl rfl ?_
                                        refine pq_aload_n F dX11_findKinds_228 rfl rfl ?_
                                        refine pq_get F ha5 (by decide) lk_X11_206 (pq_kp f34v (by decide)) dX11_findKinds_229 ?_
                                        refine pq_iload_n F dX11_findKinds_232 rfl rfl ?_
                                        refine pq_iald F hnkv (by decide) (by decide) rfl (fun n1_233 n2_233 => (by focus ((try clear hl0); (try clear hl1); (try clear K); (try clear ih); (try clear lI); (try clear L52); simp only [vp_in_iff, Int32.lt_iff_toInt_lt, Int32.le_iff_toInt_le, ← Int32.toInt_inj, Int32.toInt_add, Int32.toInt_sub, Int32.toInt_mul, Int32.toInt_neg, pq_NuO, pq_NuI, pq_NuJ, pq_NuR, pq_shr6, pq_shr7, pq_shr8, lqm1, lq0, lq1, lq2, lq1024] at *; (try simp (disch := omega) only [pq_bm] at *); all_goals omega))) dX11_findKinds_233 (fun x233 e233 l233 u233 => ?_)
                                        refine pq_iast F hkdv (by decide) (by decide) rfl (fun n1_234 n2_234 => (by focus ((try clear hl0); (try clear hl1); (try clear K); (try clear ih); (try clear lI); (try clear L52); simp only [vp_in_iff, Int32.lt_iff_toInt_lt, Int32.le_iff_toInt_le, ← Int32.toInt_inj, Int32.toInt_add, Int32.toInt_sub, Int32.toInt_mul, Int32.toInt_neg, pq_NuO, pq_NuI, pq_NuJ, pq_NuR, pq_shr6, pq_shr7, pq_shr8, lqm1, lq0, lq1, lq2, lq1024] at *; (try simp (disch := omega) only [pq_bm] at *); all_goals omega))) (⟨pq_any1 _, pq_any2 _⟩) dX11_findKinds_234 ?_
                                        refine pq_iinc (v := 1) F dX11_findKinds_235 rfl (by decide) (by decide) ?_
                                        refine pq_goto (tgt := 215) F dX11_findKinds_238 (by decide) ?_
                                        refine pq_iload_n F dX11_findKinds_215 rfl rfl ?_
                                        refine pq_aload_n F dX11_findKinds_216 rfl rfl ?_
                                        refine pq_get F ha5 (by decide) lk_X11_159 (pq_kp f20v (by decide)) dX11_findKinds_217 ?_
                                        refine pq_icmp_ge (tgt := 241) F dX11_findKinds_220 (by decide) (fun c220 => ?_) (fun c220 => ?_)
                                        · exact False.elim (by focus ((try clear hl0); (try clear hl1); (try clear K); (try clear ih); (try clear lI); (try clear L52); simp only [vp_in_iff, Int32.lt_iff_toInt_lt, Int32.le_iff_toInt_le, ← Int32.toInt_inj, Int32.toInt_add, Int32.toInt_sub, Int32.toInt_mul, Int32.toInt_neg, pq_NuO, pq_NuI, pq_NuJ, pq_NuR, pq_shr6, pq_shr7, pq_shr8, lqm1, lq0, lq1, lq2, lq1024] at *; (try simp (disch := omega) only [pq_bm] at *); all_goals omega))
                                        · skip
                                          refine pq_aload_n F dX11_findKinds_223 rfl rfl ?_
                                          refine pq_get F ha5 (by decide) lk_X11_187 (pq_kp f33v (by decide)) dX11_findKinds_224 ?_
                                          refine pq_iload_n F dX11_findKinds_227 rfl rfl ?_
                                          refine pq_aload_n F dX11_findKinds_228 rfl rfl ?_
                                          refine pq_get F ha5 (by decide) lk_X11_206 (pq_kp f34v (by decide)) dX11_findKinds_229 ?_
                                          refine pq_iload_n F dX11_findKinds_232 rfl rfl ?_
                                          refine pq_iald F hnkv (by decide) (by decide) rfl (fun n1_233 n2_233 => (by focus ((try clear hl0); (try clear hl1); (try clear K); (try clear ih); (try clear lI); (try clear L52); simp only [vp_in_iff, Int32.lt_iff_toInt_lt, Int32.le_iff_toInt_le, ← Int32.toInt_inj, Int32.toInt_add, Int32.toInt_sub, Int32.toInt_mul, Int32.toInt_neg, pq_NuO, pq_NuI, pq_NuJ, pq_NuR, pq_shr6, pq_shr7, pq_shr8, lqm1, lq0, lq1, lq2, lq1024] at *; (try simp (disch := omega) only [pq_bm] at *); all_goals omega))) dX11_findKinds_233 (fun x233 e233 l233 u233 => ?_)
                                          refine pq_iast F hkdv (by decide) (by decide) rfl (fun n1_234 n2_234 => (by focus ((try clear hl0); (try clear hl1); (try clear K); (try clear ih); (try clear lI); (try clear L52); simp only [vp_in_iff, Int32.lt_iff_toInt_lt, Int32.le_iff_toInt_le, ← Int32.toInt_inj, Int32.toInt_add, Int32.toInt_sub, Int32.toInt_mul, Int32.toInt_neg, pq_NuO, pq_NuI, pq_NuJ, pq_NuR, pq_shr6, pq_shr7, pq_shr8, lqm1, lq0, lq1, lq2, lq1024] at *; (try simp (disch := omega) only [pq_bm] at *); all_goals omega))) (⟨pq_any1 _, pq_any2 _⟩) dX11_findKinds_234 ?_
                                          refine pq_iinc (v := 1) F dX11_findKinds_235 rfl (by decide) (by decide) ?_
                                          refine pq_goto (tgt := 215) F dX11_findKinds_238 (by decide) ?_
                                          refine pq_iload_n F dX11_findKinds_215 rfl rfl ?_
                                          refine pq_aload_n F dX11_findKinds_216 rfl rfl ?_
                                          refine pq_get F ha5 (by decide) lk_X11_159 (pq_kp f20v (by decide)) dX11_findKinds_217 ?_
                                          refine pq_icmp_ge (tgt := 241) F dX11_findKinds_220 (by decide) (fun c220 => ?_) (fun c220 => ?_)
                                          · skip
                                            refine pq_goto (tgt := 37) F dX11_findKinds_241 (by decide) ?_
                                            refine pq_aload_n F dX11_findKinds_37 rfl rfl ?_
                                            refine pq_get F ha5 (by decide) lk_X11_193 pq_ks dX11_findKinds_38 ?_
                                            refine pq_iload_n F dX11_findKinds_41 rfl rfl ?_
                                            refine pq_icmp_eq (tgt := 244) F dX11_findKinds_42 (by decide) (fun c42 => ?_) (fun c42 => ?_)
                                            · skip
                                              exact pq_vret F hr hlk hA (Nat.le_refl _) (Nat.le_refl _) (⟨rfl, (((hF5.uO ha5 (by decide)).uI hkdv (by first | decide | exact List.mem_cons_self)).uI hkdv (by first | decide | exact List.mem_cons_self)), pq_ks⟩) dX11_findKinds_244
                                            · exact absurd rfl c42
                                          · exact False.elim (by focus ((try clear hl0); (try clear hl1); (try clear K); (try clear ih); (try clear lI); (try clear L52); simp only [vp_in_iff, Int32.lt_iff_toInt_lt, Int32.le_iff_toInt_le, ← Int32.toInt_inj, Int32.toInt_add, Int32.toInt_sub, Int32.toInt_mul, Int32.toInt_neg, pq_NuO, pq_NuI, pq_NuJ, pq_NuR, pq_shr6, pq_shr7, pq_shr8, lqm1, lq0, lq1, lq2, lq1024] at *; (try simp (disch := omega) only [pq_bm] at *); all_goals omega))
                                    · exact False.elim (by focus ((try clear hl0); (try clear hl1); (try clear K); (try clear ih); (try clear lI); (try clear L52); simp only [vp_in_iff, Int32.lt_iff_toInt_lt, Int32.le_iff_toInt_le, ← Int32.toInt_inj, Int32.toInt_add, Int32.toInt_sub, Int32.toInt_mul, Int32.toInt_neg, pq_NuO, pq_NuI, pq_NuJ, pq_NuR, pq_shr6, pq_shr7, pq_shr8, lqm1, lq0, lq1, lq2, lq1024] at *; (try simp (disch := omega) only [pq_bm] at *); all_goals omega))
                        · exact False.elim (by focus ((try clear hl0); (try clear hl1); (try clear K); (try clear ih); (try clear lI); (try clear L52); simp only [vp_in_iff, Int32.lt_iff_toInt_lt, Int32.le_iff_toInt_le, ← Int32.toInt_inj, Int32.toInt_add, Int32.toInt_sub, Int32.toInt_mul, Int32.toInt_neg, pq_NuO, pq_NuI, pq_NuJ, pq_NuR, pq_shr6, pq_shr7, pq_shr8, lqm1, lq0, lq1, lq2, lq1024] at *; (try simp (disch := omega) only [pq_bm] at *); all_goals omega))
                  · exact False.elim (by focus ((try clear hl0); (try clear hl1); (try clear K); (try clear ih); (try clear lI); (try clear L52); simp only [vp_in_iff, Int32.lt_iff_toInt_lt, Int32.le_iff_toInt_le, ← Int32.toInt_inj, Int32.toInt_add, Int32.toInt_sub, Int32.toInt_mul, Int32.toInt_neg, pq_NuO, pq_NuI, pq_NuJ, pq_NuR, pq_shr6, pq_shr7, pq_shr8, lqm1, lq0, lq1, lq2, lq1024] at *; (try simp (disch := omega) only [pq_bm] at *); all_goals omega))
      · exact False.elim (by focus ((try clear hl0); (try clear hl1); (try clear K); (try clear ih); (try clear lI); (try clear L52); simp only [vp_in_iff, Int32.lt_iff_toInt_lt, Int32.le_iff_toInt_le, ← Int32.toInt_inj, Int32.toInt_add, Int32.toInt_sub, Int32.toInt_mul, Int32.toInt_neg, pq_NuO, pq_NuI, pq_NuJ, pq_NuR, pq_shr6, pq_shr7, pq_shr8, lqm1, lq0, lq1, lq2, lq1024] at *; (try simp (disch := omega) only [pq_bm] at *); all_goals omega))

