set_option maxHeartbeats 4000000 in
set_option maxRecDepth 100000 in
theorem k_X7_joinY (l : Launch) (D : va_G) (cy : Nat → ClassId) (S : HS) (a : Nat) (ha : pq_R S a 10) (ta : Nat) (hta : pq_R S ta 3) (tb : Nat) (htb : pq_R S tb 33) (koA koB : Nat) (e0a : hO S ta 0 = .ref koA) (h0a : pq_R S koA 150) (e0b : hO S tb 0 = .ref koB) (h0b : pq_R S koB 153) (za : ∀ i, i < 128 → hI S koA i = 0) (zb : ∀ i, i < 128 → hI S koB i = 0) (lb : Nat) (f0 : hO S a 0 = .ref lb) (hlb : pq_R S lb 163) : pq_C l D cy yX7_joinKinds cX7_joinKinds 5 (none) 1 0 0 S [.ref a, .ref ta, .ref tb] (fun v S2 => v = none ∧ pq_Fr [(10, 1), (163, 0)] S S2 ∧ (hO S2 a 1 = .int 1 ∧ hI S2 lb 0 = 0)) := by
  refine pq_start (by decide) (Nat.le_of_ble_eq_true rfl) ?_
  intro p e s m args below meth c A F hr hlk hnm hA
  have lqm1 : (-1 : Int32).toInt = -1 := rfl
  have lq0 : (0 : Int32).toInt = 0 := rfl
  have lq1 : (1 : Int32).toInt = 1 := rfl
  have lq128 : (128 : Int32).toInt = 128 := rfl
  have L7 : ∀  (fu : Nat) (S1 : HS) (cv : Int32)  (hF : pq_Fr [(10, 1), (163, 0)] S S1) (hph : ((cv = 0 ∧ hO S1 a 1 = .int 0) ∨ (0 < cv.toInt ∧ hO S1 a 1 = .int 1 ∧ hI S1 lb 0 = 0))) (hc0 : 0 ≤ cv.toInt) (hc1 : cv.toInt ≤ 128), (128 - cv.toInt).toNat < fu → pq_At p l e (pq_rm 1 0 0) s m args below meth c (pq_Z below args s D cy S 0 0 (fun v S2 => v = none ∧ pq_Fr [(10, 1), (163, 0)] S S2 ∧ (hO S2 a 1 = .int 1 ∧ hI S2 lb 0 = 0))) D cy A 5 0 0 7 S1 [some (.ref a), some (.ref ta), some (.ref tb), some (.int cv), none] [] := by
    intro  fu
    induction fu with
    | zero => intro S1 cv hF hph hc0 hc1 hm; exact absurd hm (Nat.not_lt_zero _)
    | succ fu ih =>
      intro S1 cv hF hph hc0 hc1 hm
      have haL := hF.R ha (by first | decide | omega)
      have htaL := hF.R hta (by first | decide | omega)
      have htbL := hF.R htb (by first | decide | omega)
      have f0L := hF.O ha (by decide) (by decide) f0
      have hlbL := hF.R hlb (by decide)
      have e0aL := hF.O hta (by decide) (by decide) e0a
      have h0aL := hF.R h0a (by decide)
      have e0bL := hF.O htb (by decide) (by decide) e0b
      have h0bL := hF.R h0b (by decide)
      have aI := hF.I h0a (by decide) (by decide)
      have bI := hF.I h0b (by decide) (by decide)
      refine pq_iload_n F dX7_joinKinds_7 rfl rfl ?_
      refine pq_sipush (v := 128) F dX7_joinKinds_8 (by decide) ?_
      refine pq_icmp_ge (tgt := 107) F dX7_joinKinds_11 (by decide) (fun c11 => ?_) (fun c11 => ?_)
      · skip
        exact pq_vret F hr hlk hA (Nat.le_refl _) (Nat.le_refl _) ((by rcases hph with ⟨z, -⟩ | ⟨b0, b1, b2⟩; (exact False.elim (by rw [z] at c11; exact absurd c11 (by decide))); exact ⟨rfl, hF, b1, b2⟩)) dX7_joinKinds_107
      · skip
        rcases hph with ⟨rfl, b1⟩ | ⟨b0, b1, b2⟩
        · skip
          refine pq_iconst (v := 0) F dX7_joinKinds_14 (by decide) ?_
          refine pq_istore F dX7_joinKinds_15 (by decide) ?_
          refine pq_iload F dX7_joinKinds_17 rfl ?_
          refine pq_aload_n F dX7_joinKinds_19 rfl rfl ?_
          refine pq_get F haL (by decide) lk_X7_61 b1 dX7_joinKinds_20 ?_
          refine pq_icmp_ge (tgt := 74) F dX7_joinKinds_23 (by decide) (fun c23 => ?_) (fun c23 => ?_)
          · skip
            refine pq_iload F dX7_joinKinds_74 rfl ?_
            refine pq_aload_n F dX7_joinKinds_76 rfl rfl ?_
            refine pq_get F haL (by decide) lk_X7_61 b1 dX7_joinKinds_77 ?_
            refine pq_icmp_ne (tgt := 101) F dX7_joinKinds_80 (by decide) (fun c80 => ?_) (fun c80 => ?_)
            · exact absurd rfl c80
            · skip
              refine pq_aload_n F dX7_joinKinds_83 rfl rfl ?_
              refine pq_get F haL (by decide) lk_X7_9 f0L dX7_joinKinds_84 ?_
              refine pq_iload F dX7_joinKinds_87 rfl ?_
              refine pq_iload_n F dX7_joinKinds_89 rfl rfl ?_
              refine pq_iast F hlbL (by decide) (by decide) rfl (fun n1_90 n2_90 => (by focus ((try clear za); (try clear zb); (try clear aI); (try clear bI); (try clear hph); (try clear x36z); (try clear x57z); (try clear L7); simp only [vp_in_iff, Int32.lt_iff_toInt_lt, Int32.le_iff_toInt_le, ← Int32.toInt_inj, Int32.toInt_add, Int32.toInt_sub, Int32.toInt_mul, Int32.toInt_neg, pq_NuO, pq_NuI, pq_NuJ, pq_NuR, pq_shr6, pq_shr7, pq_shr8, lqm1, lq0, lq1, lq128] at *; (try simp (disch := omega) only [pq_bm] at *); all_goals omega))) (⟨(by focus ((try clear za); (try clear zb); (try clear aI); (try clear bI); (try clear hph); (try clear x36z); (try clear x57z); (try clear L7); simp only [vp_in_iff, Int32.lt_iff_toInt_lt, Int32.le_iff_toInt_le, ← Int32.toInt_inj, Int32.toInt_add, Int32.toInt_sub, Int32.toInt_mul, Int32.toInt_neg, pq_NuO, pq_NuI, pq_NuJ, pq_NuR, pq_shr6, pq_shr7, pq_shr8, lqm1, lq0, lq1, lq128] at *; (try simp (disch := omega) only [pq_bm] at *); all_goals omega)), (by focus ((try clear za); (try clear zb); (try clear aI); (try clear bI); (try clear hph); (try clear x36z); (try clear x57z); (try clear L7); simp only [vp_in_iff, Int32.lt_iff_toInt_lt, Int32.le_iff_toInt_le, ← Int32.toInt_inj, Int32.toInt_add, Int32.toInt_sub, Int32.toInt_mul, Int32.toInt_neg, pq_NuO, pq_NuI, pq_NuJ, pq_NuR, pq_shr6, pq_shr7, pq_shr8, lqm1, lq0, lq1, lq128] at *; (try simp (disch := omega) only [pq_bm] at *); all_goals omega))⟩) dX7_joinKinds_90 ?_
              refine pq_aload_n F dX7_joinKinds_91 rfl rfl ?_
              refine pq_dup F dX7_joinKinds_92 rfl ?_
              refine pq_get F haL (by decide) lk_X7_61 b1 dX7_joinKinds_93 ?_
              refine pq_iconst (v := 1) F dX7_joinKinds_96 (by decide) ?_
              refine pq_iadd F dX7_joinKinds_97 ?_
              refine pq_putI F haL (by decide) lp_X7_61 rfl (by focus ((try clear za); (try clear zb); (try clear aI); (try clear bI); (try clear hph); (try clear x36z); (try clear x57z); (try clear L7); simp only [vp_in_iff, Int32.lt_iff_toInt_lt, Int32.le_iff_toInt_le, ← Int32.toInt_inj, Int32.toInt_add, Int32.toInt_sub, Int32.toInt_mul, Int32.toInt_neg, pq_NuO, pq_NuI, pq_NuJ, pq_NuR, pq_shr6, pq_shr7, pq_shr8, lqm1, lq0, lq1, lq128] at *; (try simp (disch := omega) only [pq_bm] at *); all_goals omega)) (by focus ((try clear za); (try clear zb); (try clear aI); (try clear bI); (try clear hph); (try clear x36z); (try clear x57z); (try clear L7); simp only [vp_in_iff, Int32.lt_iff_toInt_lt, Int32.le_iff_toInt_le, ← Int32.toInt_inj, Int32.toInt_add, Int32.toInt_sub, Int32.toInt_mul, Int32.toInt_neg, pq_NuO, pq_NuI, pq_NuJ, pq_NuR, pq_shr6, pq_shr7, pq_shr8, lqm1, lq0, lq1, lq128] at *; (try simp (disch := omega) only [pq_bm] at *); all_goals omega)) dX7_joinKinds_98 ?_
              refine pq_iinc (v := 1) F dX7_joinKinds_101 rfl (by decide) (by decide) ?_
              refine pq_goto (tgt := 7) F dX7_joinKinds_104 (by decide) ?_
              exact pq_fgm [true, true, true, true, false] (ih _ _ ((hF.uI hlbL (by first | decide | exact List.mem_cons_self)).uO haL (by decide)) (Or.inr ⟨(by decide), pq_ks, (by simp only [pq_IuO, pq_IuJ, pq_Iu, pq_JuO, pq_JuI, pq_Ju, pq_RuO, pq_RuJ, pq_RuI, if_true, if_false]; exact pk_us)⟩) (by focus ((try clear za); (try clear zb); (try clear aI); (try clear bI); (try clear hph); (try clear x36z); (try clear x57z); (try clear L7); simp only [vp_in_iff, Int32.lt_iff_toInt_lt, Int32.le_iff_toInt_le, ← Int32.toInt_inj, Int32.toInt_add, Int32.toInt_sub, Int32.toInt_mul, Int32.toInt_neg, pq_NuO, pq_NuI, pq_NuJ, pq_NuR, pq_shr6, pq_shr7, pq_shr8, lqm1, lq0, lq1, lq128] at *; (try simp (disch := omega) only [pq_bm] at *); all_goals omega)) (by focus ((try clear za); (try clear zb); (try clear aI); (try clear bI); (try clear hph); (try clear x36z); (try clear x57z); (try clear L7); simp only [vp_in_iff, Int32.lt_iff_toInt_lt, Int32.le_iff_toInt_le, ← Int32.toInt_inj, Int32.toInt_add, Int32.toInt_sub, Int32.toInt_mul, Int32.toInt_neg, pq_NuO, pq_NuI, pq_NuJ, pq_NuR, pq_shr6, pq_shr7, pq_shr8, lqm1, lq0, lq1, lq128] at *; (try simp (disch := omega) only [pq_bm] at *); all_goals omega)) (by focus ((try clear za); (try clear zb); (try clear aI); (try clear bI); (try clear hph); (try clear x36z); (try clear x57z); (try clear L7); simp only [vp_in_iff, Int32.lt_iff_toInt_lt, Int32.le_iff_toInt_le, ← Int32.toInt_inj, Int32.toInt_add, Int32.toInt_sub, Int32.toInt_mul, Int32.toInt_neg, pq_NuO, pq_NuI, pq_NuJ, pq_NuR, pq_shr6, pq_shr7, pq_shr8, lqm1, lq0, lq1, lq128] at *; (try simp (disch := omega) only [pq_bm] at *); all_goals omega)))
          · exact False.elim (by focus ((try clear za); (try clear zb); (try clear aI); (try clear bI); (try clear hph); (try clear x36z); (try clear x57z); (try clear L7); simp only [vp_in_iff, Int32.lt_iff_toInt_lt, Int32.le_iff_toInt_le, ← Int32.toInt_inj, Int32.toInt_add, Int32.toInt_sub, Int32.toInt_mul, Int32.toInt_neg, pq_NuO, pq_NuI, pq_NuJ, pq_NuR, pq_shr6, pq_shr7, pq_shr8, lqm1, lq0, lq1, lq128] at *; (try simp (disch := omega) only [pq_bm] at *); all_goals omega))
        · skip
          refine pq_iconst (v := 0) F dX7_joinKinds_14 (by decide) ?_
          refine pq_istore F dX7_joinKinds_15 (by decide) ?_
          refine pq_iload F dX7_joinKinds_17 rfl ?_
          refine pq_aload_n F dX7_joinKinds_19 rfl rfl ?_
          refine pq_get F haL (by decide) lk_X7_61 b1 dX7_joinKinds_20 ?_
          refine pq_icmp_ge (tgt := 74) F dX7_joinKinds_23 (by decide) (fun c23 => ?_) (fun c23 => ?_)
          · exact False.elim (by focus ((try clear za); (try clear zb); (try clear aI); (try clear bI); (try clear hph); (try clear x36z); (try clear x57z); (try clear L7); simp only [vp_in_iff, Int32.lt_iff_toInt_lt, Int32.le_iff_toInt_le, ← Int32.toInt_inj, Int32.toInt_add, Int32.toInt_sub, Int32.toInt_mul, Int32.toInt_neg, pq_NuO, pq_NuI, pq_NuJ, pq_NuR, pq_shr6, pq_shr7, pq_shr8, lqm1, lq0, lq1, lq128] at *; (try simp (disch := omega) only [pq_bm] at *); all_goals omega))
          · skip
            refine pq_aload_n F dX7_joinKinds_26 rfl rfl ?_
            refine pq_get F htaL (by decide) lk_X7_64 e0aL dX7_joinKinds_27 ?_
            refine pq_aload_n F dX7_joinKinds_30 rfl rfl ?_
            refine pq_get F haL (by decide) lk_X7_9 f0L dX7_joinKinds_31 ?_
            refine pq_iload F dX7_joinKinds_34 rfl ?_
            refine pq_iald F hlbL (by decide) (by decide) rfl (fun n1_36 n2_36 => (by focus ((try clear za); (try clear zb); (try clear aI); (try clear bI); (try clear hph); (try clear x36z); (try clear x57z); (try clear L7); simp only [vp_in_iff, Int32.lt_iff_toInt_lt, Int32.le_iff_toInt_le, ← Int32.toInt_inj, Int32.toInt_add, Int32.toInt_sub, Int32.toInt_mul, Int32.toInt_neg, pq_NuO, pq_NuI, pq_NuJ, pq_NuR, pq_shr6, pq_shr7, pq_shr8, lqm1, lq0, lq1, lq128] at *; (try simp (disch := omega) only [pq_bm] at *); all_goals omega))) dX7_joinKinds_36 (fun x36 e36 l36 u36 => ?_)
            have x36z : x36.toNatClampNeg = 0 := (by rw [show x36 = 0 from e36.trans b2]; rfl)
            refine pq_iald F h0aL (by decide) (by decide) rfl (fun n1_37 n2_37 => (by focus ((try clear za); (try clear zb); (try clear aI); (try clear bI); (try clear hph); (try clear x36z); (try clear x57z); (try clear L7); simp only [vp_in_iff, Int32.lt_iff_toInt_lt, Int32.le_iff_toInt_le, ← Int32.toInt_inj, Int32.toInt_add, Int32.toInt_sub, Int32.toInt_mul, Int32.toInt_neg, pq_NuO, pq_NuI, pq_NuJ, pq_NuR, pq_shr6, pq_shr7, pq_shr8, lqm1, lq0, lq1, lq128] at *; (try simp (disch := omega) only [pq_bm] at *); all_goals omega))) dX7_joinKinds_37 (fun x37 e37 l37 u37 => ?_)
            refine pq_aload_n F dX7_joinKinds_38 rfl rfl ?_
            refine pq_get F htaL (by decide) lk_X7_64 e0aL dX7_joinKinds_39 ?_
            refine pq_iload_n F dX7_joinKinds_42 rfl rfl ?_
            refine pq_iald F h0aL (by decide) (by decide) rfl (fun n1_43 n2_43 => (by focus ((try clear za); (try clear zb); (try clear aI); (try clear bI); (try clear hph); (try clear x36z); (try clear x57z); (try clear L7); simp only [vp_in_iff, Int32.lt_iff_toInt_lt, Int32.le_iff_toInt_le, ← Int32.toInt_inj, Int32.toInt_add, Int32.toInt_sub, Int32.toInt_mul, Int32.toInt_neg, pq_NuO, pq_NuI, pq_NuJ, pq_NuR, pq_shr6, pq_shr7, pq_shr8, lqm1, lq0, lq1, lq128] at *; (try simp (disch := omega) only [pq_bm] at *); all_goals omega))) dX7_joinKinds_43 (fun x43 e43 l43 u43 => ?_)
            refine pq_icmp_ne (tgt := 68) F dX7_joinKinds_44 (by decide) (fun c44 => ?_) (fun c44 => ?_)
            · exact absurd ((show x37 = 0 from e37.trans (by rw [aI, x36z]; exact za 0 (by decide))).trans (show x43 = 0 from e43.trans (by rw [aI]; exact za cv.toNatClampNeg (by have z := pq_cl hc0; focus ((try clear za); (try clear zb); (try clear aI); (try clear bI); (try clear hph); (try clear x36z); (try clear x57z); (try clear L7); simp only [vp_in_iff, Int32.lt_iff_toInt_lt, Int32.le_iff_toInt_le, ← Int32.toInt_inj, Int32.toInt_add, Int32.toInt_sub, Int32.toInt_mul, Int32.toInt_neg, pq_NuO, pq_NuI, pq_NuJ, pq_NuR, pq_shr6, pq_shr7, pq_shr8, lqm1, lq0, lq1, lq128] at *; (try simp (disch := omega) only [pq_bm] at *); all_goals omega)))).symm) c44
            · skip
              refine pq_aload_n F dX7_joinKinds_47 rfl rfl ?_
              refine pq_get F htbL (by decide) lk_X7_64 e0bL dX7_joinKinds_48 ?_
              refine pq_aload_n F dX7_joinKinds_51 rfl rfl ?_
              refine pq_get F haL (by decide) lk_X7_9 f0L dX7_joinKinds_52 ?_
              refine pq_iload F dX7_joinKinds_55 rfl ?_
              refine pq_iald F hlbL (by decide) (by decide) rfl (fun n1_57 n2_57 => (by focus ((try clear za); (try clear zb); (try clear aI); (try clear bI); (try clear hph); (try clear x36z); (try clear x57z); (try clear L7); simp only [vp_in_iff, Int32.lt_iff_toInt_lt, Int32.le_iff_toInt_le, ← Int32.toInt_inj, Int32.toInt_add, Int32.toInt_sub, Int32.toInt_mul, Int32.toInt_neg, pq_NuO, pq_NuI, pq_NuJ, pq_NuR, pq_shr6, pq_shr7, pq_shr8, lqm1, lq0, lq1, lq128] at *; (try simp (disch := omega) only [pq_bm] at *); all_goals omega))) dX7_joinKinds_57 (fun x57 e57 l57 u57 => ?_)
              have x57z : x57.toNatClampNeg = 0 := (by rw [show x57 = 0 from e57.trans b2]; rfl)
              refine pq_iald F h0bL (by decide) (by decide) rfl (fun n1_58 n2_58 => (by focus ((try clear za); (try clear zb); (try clear aI); (try clear bI); (try clear hph); (try clear x36z); (try clear x57z); (try clear L7); simp only [vp_in_iff, Int32.lt_iff_toInt_lt, Int32.le_iff_toInt_le, ← Int32.toInt_inj, Int32.toInt_add, Int32.toInt_sub, Int32.toInt_mul, Int32.toInt_neg, pq_NuO, pq_NuI, pq_NuJ, pq_NuR, pq_shr6, pq_shr7, pq_shr8, lqm1, lq0, lq1, lq128] at *; (try simp (disch := omega) only [pq_bm] at *); all_goals omega))) dX7_joinKinds_58 (fun x58 e58 l58 u58 => ?_)
              refine pq_aload_n F dX7_joinKinds_59 rfl rfl ?_
              refine pq_get F htbL (by decide) lk_X7_64 e0bL dX7_joinKinds_60 ?_
              refine pq_iload_n F dX7_joinKinds_63 rfl rfl ?_
              refine pq_iald F h0bL (by decide) (by decide) rfl (fun n1_64 n2_64 => (by focus ((try clear za); (try clear zb); (try clear aI); (try clear bI); (try clear hph); (try clear x36z); (try clear x57z); (try clear L7); simp only [vp_in_iff, Int32.lt_iff_toInt_lt, Int32.le_iff_toInt_le, ← Int32.toInt_inj, Int32.toInt_add, Int32.toInt_sub, Int32.toInt_mul, Int32.toInt_neg, pq_NuO, pq_NuI, pq_NuJ, pq_NuR, pq_shr6, pq_shr7, pq_shr8, lqm1, lq0, lq1, lq128] at *; (try simp (disch := omega) only [pq_bm] at *); all_goals omega))) dX7_joinKinds_64 (fun x64 e64 l64 u64 => ?_)
              refine pq_icmp_eq (tgt := 74) F dX7_joinKinds_65 (by decide) (fun c65 => ?_) (fun c65 => ?_)
              · skip
                refine pq_iload F dX7_joinKinds_74 rfl ?_
                refine pq_aload_n F dX7_joinKinds_76 rfl rfl ?_
                refine pq_get F haL (by decide) lk_X7_61 b1 dX7_joinKinds_77 ?_
                refine pq_icmp_ne (tgt := 101) F dX7_joinKinds_80 (by decide) (fun c80 => ?_) (fun c80 => ?_)
                · skip
                  refine pq_iinc (v := 1) F dX7_joinKinds_101 rfl (by decide) (by decide) ?_
                  refine pq_goto (tgt := 7) F dX7_joinKinds_104 (by decide) ?_
                  exact pq_fgm [true, true, true, true, false] (ih _ _ hF (Or.inr ⟨(by focus ((try clear za); (try clear zb); (try clear aI); (try clear bI); (try clear hph); (try clear x36z); (try clear x57z); (try clear L7); simp only [vp_in_iff, Int32.lt_iff_toInt_lt, Int32.le_iff_toInt_le, ← Int32.toInt_inj, Int32.toInt_add, Int32.toInt_sub, Int32.toInt_mul, Int32.toInt_neg, pq_NuO, pq_NuI, pq_NuJ, pq_NuR, pq_shr6, pq_shr7, pq_shr8, lqm1, lq0, lq1, lq128] at *; (try simp (disch := omega) only [pq_bm] at *); all_goals omega)), b1, b2⟩) (by focus ((try clear za); (try clear zb); (try clear aI); (try clear bI); (try clear hph); (try clear x36z); (try clear x57z); (try clear L7); simp only [vp_in_iff, Int32.lt_iff_toInt_lt, Int32.le_iff_toInt_le, ← Int32.toInt_inj, Int32.toInt_add, Int32.toInt_sub, Int32.toInt_mul, Int32.toInt_neg, pq_NuO, pq_NuI, pq_NuJ, pq_NuR, pq_shr6, pq_shr7, pq_shr8, lqm1, lq0, lq1, lq128] at *; (try simp (disch := omega) only [pq_bm] at *); all_goals omega)) (by focus ((try clear za); (try clear zb); (try clear aI); (try clear bI); (try clear hph); (try clear x36z); (try clear x57z); (try clear L7); simp only [vp_in_iff, Int32.lt_iff_toInt_lt, Int32.le_iff_toInt_le, ← Int32.toInt_inj, Int32.toInt_add, Int32.toInt_sub, Int32.toInt_mul, Int32.toInt_neg, pq_NuO, pq_NuI, pq_NuJ, pq_NuR, pq_shr6, pq_shr7, pq_shr8, lqm1, lq0, lq1, lq128] at *; (try simp (disch := omega) only [pq_bm] at *); all_goals omega)) (by focus ((try clear za); (try clear zb); (try clear aI); (try clear bI); (try clear hph); (try clear x36z); (try clear x57z); (try clear L7); simp only [vp_in_iff, Int32.lt_iff_toInt_lt, Int32.le_iff_toInt_le, ← Int32.toInt_inj, Int32.toInt_add, Int32.toInt_sub, Int32.toInt_mul, Int32.toInt_neg, pq_NuO, pq_NuI, pq_NuJ, pq_NuR, pq_shr6, pq_shr7, pq_shr8, lqm1, lq0, lq1, lq128] at *; (try simp (disch := omega) only [pq_bm] at *); all_goals omega)))
                · exact absurd c80 (by decide)
              · exact absurd ((show x58 = 0 from e58.trans (by rw [bI, x57z]; exact zb 0 (by decide))).trans (show x64 = 0 from e64.trans (by rw [bI]; exact zb cv.toNatClampNeg (by have z := pq_cl hc0; focus ((try clear za); (try clear zb); (try clear aI); (try clear bI); (try clear hph); (try clear x36z); (try clear x57z); (try clear L7); simp only [vp_in_iff, Int32.lt_iff_toInt_lt, Int32.le_iff_toInt_le, ← Int32.toInt_inj, Int32.toInt_add, Int32.toInt_sub, Int32.toInt_mul, Int32.toInt_neg, pq_NuO, pq_NuI, pq_NuJ, pq_NuR, pq_shr6, pq_shr7, pq_shr8, lqm1, lq0, lq1, lq128] at *; (try simp (disch := omega) only [pq_bm] at *); all_goals omega)))).symm) c65
  refine pq_aload_n F dX7_joinKinds_0 rfl rfl ?_
  refine pq_iconst (v := 0) F dX7_joinKinds_1 (by decide) ?_
  refine pq_putI F ha (by decide) lp_X7_61 rfl (by focus ((try clear za); (try clear zb); (try clear aI); (try clear bI); (try clear hph); (try clear x36z); (try clear x57z); (try clear L7); simp only [vp_in_iff, Int32.lt_iff_toInt_lt, Int32.le_iff_toInt_le, ← Int32.toInt_inj, Int32.toInt_add, Int32.toInt_sub, Int32.toInt_mul, Int32.toInt_neg, pq_NuO, pq_NuI, pq_NuJ, pq_NuR, pq_shr6, pq_shr7, pq_shr8, lqm1, lq0, lq1, lq128] at *; (try simp (disch := omega) only [pq_bm] at *); all_goals omega)) (by focus ((try clear za); (try clear zb); (try clear aI); (try clear bI); (try clear hph); (try clear x36z); (try clear x57z); (try clear L7); simp only [vp_in_iff, Int32.lt_iff_toInt_lt, Int32.le_iff_toInt_le, ← Int32.toInt_inj, Int32.toInt_add, Int32.toInt_sub, Int32.toInt_mul, Int32.toInt_neg, pq_NuO, pq_NuI, pq_NuJ, pq_NuR, pq_shr6, pq_shr7, pq_shr8, lqm1, lq0, lq1, lq128] at *; (try simp (disch := omega) only [pq_bm] at *); all_goals omega)) dX7_joinKinds_2 ?_
  refine pq_iconst (v := 0) F dX7_joinKinds_5 (by decide) ?_
  refine pq_istore_n F dX7_joinKinds_6 rfl (by decide) ?_
  exact pq_fgm [true, true, true, true, false] (L7 1000 _ 0 (pq_Fr.rf.uO ha (by decide)) (Or.inl ⟨rfl, pq_ks⟩) (by focus ((try clear za); (try clear zb); (try clear aI); (try clear bI); (try clear hph); (try clear x36z); (try clear x57z); (try clear L7); simp only [vp_in_iff, Int32.lt_iff_toInt_lt, Int32.le_iff_toInt_le, ← Int32.toInt_inj, Int32.toInt_add, Int32.toInt_sub, Int32.toInt_mul, Int32.toInt_neg, pq_NuO, pq_NuI, pq_NuJ, pq_NuR, pq_shr6, pq_shr7, pq_shr8, lqm1, lq0, lq1, lq128] at *; (try simp (disch := omega) only [pq_bm] at *); all_goals omega)) (by focus ((try clear za); (try clear zb); (try clear aI); (try clear bI); (try clear hph); (try clear x36z); (try clear x57z); (try clear L7); simp only [vp_in_iff, Int32.lt_iff_toInt_lt, Int32.le_iff_toInt_le, ← Int32.toInt_inj, Int32.toInt_add, Int32.toInt_sub, Int32.toInt_mul, Int32.toInt_neg, pq_NuO, pq_NuI, pq_NuJ, pq_NuR, pq_shr6, pq_shr7, pq_shr8, lqm1, lq0, lq1, lq128] at *; (try simp (disch := omega) only [pq_bm] at *); all_goals omega)) (by focus ((try clear za); (try clear zb); (try clear aI); (try clear bI); (try clear hph); (try clear x36z); (try clear x57z); (try clear L7); simp only [vp_in_iff, Int32.lt_iff_toInt_lt, Int32.le_iff_toInt_le, ← Int32.toInt_inj, Int32.toInt_add, Int32.toInt_sub, Int32.toInt_mul, Int32.toInt_neg, pq_NuO, pq_NuI, pq_NuJ, pq_NuR, pq_shr6, pq_shr7, pq_shr8, lqm1, lq0, lq1, lq128] at *; (try simp (disch := omega) only [pq_bm] at *); all_goals omega)))

set_option maxHeartbeats 4000000 in
set_option maxRecDepth 100000 in
theorem k_X10_hasBitY (l : Launch) (D : va_G) (cy : Nat → ClassId) (S : HS) (b rb : Nat) (hb : pq_R S b rb) (kb0 : 180 ≤ rb) (kb1 : rb < 200) (lo : Int32) (bit : Int32) (h1 : 1 ≤ hN S b) (h2 : hN S b ≤ 1000000) (hz : hJ S b 0 = 0) (hlo : lo = 0) (hbi : bit = 0) : pq_C l D cy yX10_hasBit cX10_hasBit 3 (some .boolean) 1 0 0 S [.ref b, .int lo, .int bit] (fun v S2 => S2 = S ∧ ∃ x : Int32, v = some (.int x) ∧ 0 ≤ x.toInt ∧ x.toInt ≤ 1 ∧ (x = 0)) := by
  refine pq_start (by decide) (Nat.le_of_ble_eq_true rfl) ?_
  intro p e s m args below meth c A F hr hlk hnm hA
  have lqm1 : (-1 : Int32).toInt = -1 := rfl
  have lq0 : (0 : Int32).toInt = 0 := rfl
  have lq1 : (1 : Int32).toInt = 1 := rfl
  have lq6 : (6 : Int32).toInt = 6 := rfl
  have lq63 : (63 : Int32).toInt = 63 := rfl
  subst hlo
  subst hbi
  refine pq_aload_n F dX10_hasBit_0 rfl rfl ?_
  refine pq_iload_n F dX10_hasBit_1 rfl rfl ?_
  refine pq_iload_n F dX10_hasBit_2 rfl rfl ?_
  refine pq_bipush (v := 6) F dX10_hasBit_3 (by decide) ?_
  refine pq_ishr F dX10_hasBit_5 ?_
  refine pq_iadd F dX10_hasBit_6 ?_
  refine pq_lald F hb kb0 kb1 rfl (fun _ _ => vp_in_iff.mpr ⟨by decide, Int.lt_of_lt_of_le (show _ < (1 : Int) by decide) (Int.ofNat_le.mpr h1)⟩) dX10_hasBit_7 (fun x7 e7 => ?_)
  have x7e : x7 = 0 := e7.trans hz
  subst x7e
  refine pq_iload_n F dX10_hasBit_8 rfl rfl ?_
  refine pq_bipush (v := 63) F dX10_hasBit_9 (by decide) ?_
  refine pq_iand F dX10_hasBit_11 ?_
  refine pq_lushr F dX10_hasBit_12 ?_
  refine pq_lconst (v := 1) F dX10_hasBit_13 (by decide) ?_
  refine pq_land F dX10_hasBit_14 ?_
  refine pq_lconst (v := 0) F dX10_hasBit_15 (by decide) ?_
  refine pq_lcmp F dX10_hasBit_16 ?_
  refine pq_if_eq (tgt := 24) F dX10_hasBit_17 (by decide) (fun c17 => ?_) (fun c17 => ?_)
  · skip
    refine pq_iconst (v := 0) F dX10_hasBit_24 (by decide) ?_
    exact pq_zret F hr hlk hA rfl (Nat.le_refl _) (Nat.le_refl _) (⟨rfl, 0, rfl, (by focus ((try clear hz); simp only [vp_in_iff, Int32.lt_iff_toInt_lt, Int32.le_iff_toInt_le, ← Int32.toInt_inj, Int32.toInt_add, Int32.toInt_sub, Int32.toInt_mul, Int32.toInt_neg, pq_NuO, pq_NuI, pq_NuJ, pq_NuR, pq_shr6, pq_shr7, pq_shr8, lqm1, lq0, lq1, lq6, lq63] at *; (try simp (disch := omega) only [pq_bm] at *); all_goals omega)), (by focus ((try clear hz); simp only [vp_in_iff, Int32.lt_iff_toInt_lt, Int32.le_iff_toInt_le, ← Int32.toInt_inj, Int32.toInt_add, Int32.toInt_sub, Int32.toInt_mul, Int32.toInt_neg, pq_NuO, pq_NuI, pq_NuJ, pq_NuR, pq_shr6, pq_shr7, pq_shr8, lqm1, lq0, lq1, lq6, lq63] at *; (try simp (disch := omega) only [pq_bm] at *); all_goals omega)), rfl⟩) dX10_hasBit_25
  · exact absurd (by decide) c17

set_option maxHeartbeats 4000000 in
set_option maxRecDepth 100000 in
theorem k_X0_stepOfYA (l : Launch) (D : va_G) (cy : Nat → ClassId) (S : HS) (a : Nat) (ha : pq_R S a 3) (sv : Int32) (bv : Int32) (ko st : Nat) (e0 : hO S a 0 = .ref ko) (hko : pq_R S ko 150) (e3 : hO S a 3 = .ref st) (hst : pq_R S st 152) (e4 : hO S a 4 = .int 1) (zk : ∀ i, i < 128 → hI S ko i = 0) (zs : hI S st 0 = 0) (hsv : sv = 0) (hbv : bv = 0) : pq_C l D cy yX0_stepOf cX0_stepOf 3 (some .int) 1 0 0 S [.ref a, .int sv, .int bv] (fun v S2 => S2 = S ∧ ∃ x : Int32, v = some (.int x) ∧ 0 ≤ x.toInt ∧ x.toInt ≤ 200 ∧ (x = 0)) := by
  refine pq_start (by decide) (Nat.le_of_ble_eq_true rfl) ?_
  intro p e s m args below meth c A F hr hlk hnm hA
  have lqm1 : (-1 : Int32).toInt = -1 := rfl
  have lq0 : (0 : Int32).toInt = 0 := rfl
  have lq1 : (1 : Int32).toInt = 1 := rfl
  subst hsv
  subst hbv
  refine pq_aload_n F dX0_stepOf_0 rfl rfl ?_
  refine pq_get F ha (by decide) lk_X0_24 e3 dX0_stepOf_1 ?_
  refine pq_iload_n F dX0_stepOf_4 rfl rfl ?_
  refine pq_aload_n F dX0_stepOf_5 rfl rfl ?_
  refine pq_get F ha (by decide) lk_X0_27 e4 dX0_stepOf_6 ?_
  refine pq_imul F dX0_stepOf_9 ?_
  refine pq_aload_n F dX0_stepOf_10 rfl rfl ?_
  refine pq_get F ha (by decide) lk_X0_9 e0 dX0_stepOf_11 ?_
  refine pq_iload_n F dX0_stepOf_14 rfl rfl ?_
  refine pq_iald F hko (by decide) (by decide) rfl (fun n1_15 n2_15 => (by focus ((try clear zk); (try clear zs); simp only [vp_in_iff, Int32.lt_iff_toInt_lt, Int32.le_iff_toInt_le, ← Int32.toInt_inj, Int32.toInt_add, Int32.toInt_sub, Int32.toInt_mul, Int32.toInt_neg, pq_NuO, pq_NuI, pq_NuJ, pq_NuR, pq_shr6, pq_shr7, pq_shr8, lqm1, lq0, lq1] at *; (try simp (disch := omega) only [pq_bm] at *); all_goals omega))) dX0_stepOf_15 (fun x15 e15 l15 u15 => ?_)
  have x15e : x15 = 0 := e15.trans (zk 0 (by decide))
  subst x15e
  refine pq_iadd F dX0_stepOf_16 ?_
  refine pq_iald F hst (by decide) (by decide) rfl (fun n1_17 n2_17 => (by focus ((try clear zk); (try clear zs); simp only [vp_in_iff, Int32.lt_iff_toInt_lt, Int32.le_iff_toInt_le, ← Int32.toInt_inj, Int32.toInt_add, Int32.toInt_sub, Int32.toInt_mul, Int32.toInt_neg, pq_NuO, pq_NuI, pq_NuJ, pq_NuR, pq_shr6, pq_shr7, pq_shr8, lqm1, lq0, lq1] at *; (try simp (disch := omega) only [pq_bm] at *); all_goals omega))) dX0_stepOf_17 (fun x17 e17 l17 u17 => ?_)
  exact pq_iret F hr hlk hA (Nat.le_refl _) (Nat.le_refl _) (⟨rfl, _, rfl, (by focus ((try clear zk); (try clear zs); simp only [vp_in_iff, Int32.lt_iff_toInt_lt, Int32.le_iff_toInt_le, ← Int32.toInt_inj, Int32.toInt_add, Int32.toInt_sub, Int32.toInt_mul, Int32.toInt_neg, pq_NuO, pq_NuI, pq_NuJ, pq_NuR, pq_shr6, pq_shr7, pq_shr8, lqm1, lq0, lq1] at *; (try simp (disch := omega) only [pq_bm] at *); all_goals omega)), (by focus ((try clear zk); (try clear zs); simp only [vp_in_iff, Int32.lt_iff_toInt_lt, Int32.le_iff_toInt_le, ← Int32.toInt_inj, Int32.toInt_add, Int32.toInt_sub, Int32.toInt_mul, Int32.toInt_neg, pq_NuO, pq_NuI, pq_NuJ, pq_NuR, pq_shr6, pq_shr7, pq_shr8, lqm1, lq0, lq1] at *; (try simp (disch := omega) only [pq_bm] at *); all_goals omega)), e17.trans zs⟩) dX0_stepOf_18

set_option maxHeartbeats 4000000 in
set_option maxRecDepth 100000 in
theorem k_X0_stepOfYB (l : Launch) (D : va_G) (cy : Nat → ClassId) (S : HS) (a : Nat) (ha : pq_R S a 33) (sv : Int32) (bv : Int32) (ko st : Nat) (e0 : hO S a 0 = .ref ko) (hko : pq_R S ko 153) (e3 : hO S a 3 = .ref st) (hst : pq_R S st 155) (e4 : hO S a 4 = .int 1) (zk : ∀ i, i < 128 → hI S ko i = 0) (zs : hI S st 0 = 0) (hsv : sv = 0) (hbv : bv = 0) : pq_C l D cy yX0_stepOf cX0_stepOf 3 (some .int) 1 0 0 S [.ref a, .int sv, .int bv] (fun v S2 => S2 = S ∧ ∃ x : Int32, v = some (.int x) ∧ 0 ≤ x.toInt ∧ x.toInt ≤ 200 ∧ (x = 0)) := by
  refine pq_start (by decide) (Nat.le_of_ble_eq_true rfl) ?_
  intro p e s m args below meth c A F hr hlk hnm hA
  have lqm1 : (-1 : Int32).toInt = -1 := rfl
  have lq0 : (0 : Int32).toInt = 0 := rfl
  have lq1 : (1 : Int32).toInt = 1 := rfl
  subst hsv
  subst hbv
  refine pq_aload_n F dX0_stepOf_0 rfl rfl ?_
  refine pq_get F ha (by decide) lk_X0_24 e3 dX0_stepOf_1 ?_
  refine pq_iload_n F dX0_stepOf_4 rfl rfl ?_
  refine pq_aload_n F dX0_stepOf_5 rfl rfl ?_
  refine pq_get F ha (by decide) lk_X0_27 e4 dX0_stepOf_6 ?_
  refine pq_imul F dX0_stepOf_9 ?_
  refine pq_aload_n F dX0_stepOf_10 rfl rfl ?_
  refine pq_get F ha (by decide) lk_X0_9 e0 dX0_stepOf_11 ?_
  refine pq_iload_n F dX0_stepOf_14 rfl rfl ?_
  refine pq_iald F hko (by decide) (by decide) rfl (fun n1_15 n2_15 => (by focus ((try clear zk); (try clear zs); simp only [vp_in_iff, Int32.lt_iff_toInt_lt, Int32.le_iff_toInt_le, ← Int32.toInt_inj, Int32.toInt_add, Int32.toInt_sub, Int32.toInt_mul, Int32.toInt_neg, pq_NuO, pq_NuI, pq_NuJ, pq_NuR, pq_shr6, pq_shr7, pq_shr8, lqm1, lq0, lq1] at *; (try simp (disch := omega) only [pq_bm] at *); all_goals omega))) dX0_stepOf_15 (fun x15 e15 l15 u15 => ?_)
  have x15e : x15 = 0 := e15.trans (zk 0 (by decide))
  subst x15e
  refine pq_iadd F dX0_stepOf_16 ?_
  refine pq_iald F hst (by decide) (by decide) rfl (fun n1_17 n2_17 => (by focus ((try clear zk); (try clear zs); simp only [vp_in_iff, Int32.lt_iff_toInt_lt, Int32.le_iff_toInt_le, ← Int32.toInt_inj, Int32.toInt_add, Int32.toInt_sub, Int32.toInt_mul, Int32.toInt_neg, pq_NuO, pq_NuI, pq_NuJ, pq_NuR, pq_shr6, pq_shr7, pq_shr8, lqm1, lq0, lq1] at *; (try simp (disch := omega) only [pq_bm] at *); all_goals omega))) dX0_stepOf_17 (fun x17 e17 l17 u17 => ?_)
  exact pq_iret F hr hlk hA (Nat.le_refl _) (Nat.le_refl _) (⟨rfl, _, rfl, (by focus ((try clear zk); (try clear zs); simp only [vp_in_iff, Int32.lt_iff_toInt_lt, Int32.le_iff_toInt_le, ← Int32.toInt_inj, Int32.toInt_add, Int32.toInt_sub, Int32.toInt_mul, Int32.toInt_neg, pq_NuO, pq_NuI, pq_NuJ, pq_NuR, pq_shr6, pq_shr7, pq_shr8, lqm1, lq0, lq1] at *; (try simp (disch := omega) only [pq_bm] at *); all_goals omega)), (by focus ((try clear zk); (try clear zs); simp only [vp_in_iff, Int32.lt_iff_toInt_lt, Int32.le_iff_toInt_le, ← Int32.toInt_inj, Int32.toInt_add, Int32.toInt_sub, Int32.toInt_mul, Int32.toInt_neg, pq_NuO, pq_NuI, pq_NuJ, pq_NuR, pq_shr6, pq_shr7, pq_shr8, lqm1, lq0, lq1] at *; (try simp (disch := omega) only [pq_bm] at *); all_goals omega)), e17.trans zs⟩) dX0_stepOf_18

