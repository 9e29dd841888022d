set_option maxHeartbeats 4000000 in
set_option maxRecDepth 100000 in
theorem k_X11_count (l : Launch) (D : va_G) (cy : Nat → ClassId) (S : HS) (a : Nat) (ha : pq_R S a 14) (w n : Int32) : pq_C l D cy yX11_count cX11_count 7 (some .long) 2 0 0 S [.ref a, .int w, .int n] (fun v S2 => pq_Fr [(14, 3), (184, 0), (185, 0)] S S2 ∧ ∃ x : Int64, v = some (.long x)) := by
  refine pq_start (by decide) (Nat.le_of_ble_eq_true rfl) ?_
  intro p e s m args below meth c A F hr hlk hnm hA
  have qm1 : (-1 : Int32).toInt = -1 := rfl
  have q0 : (0 : Int32).toInt = 0 := rfl
  have q1 : (1 : Int32).toInt = 1 := rfl
  have q12 : (12 : Int32).toInt = 12 := rfl
  have q128 : (128 : Int32).toInt = 128 := rfl
  have q402 : (402 : Int32).toInt = 402 := rfl
  have L139 : ∀ (al : Int32) (hl0 : 0 ≤ al.toInt) (hl1 : al.toInt ≤ 402) (hw : w.toInt = 0 ∨ w.toInt = 1) (k sj : Int32) (hs0 : 0 ≤ sj.toInt) (hs1 : sj.toInt < al.toInt) (K : ∀ (S2 : HS) (hF2 : pq_Fr [(14, 3), (184, 0), (185, 0)] S S2), pq_At p l e (pq_rm 2 0 0) s m args below meth c (pq_Z below args s D cy S 0 0 (fun v S2 => pq_Fr [(14, 3), (184, 0), (185, 0)] S S2 ∧ ∃ x : Int64, v = some (.long x))) D cy A 7 0 0 188 S2 [some (.ref a), some (.int w), some (.int n), some (.int al), some (.int k), some (.int sj), none] []) (fu : Nat) (S1 : HS) (b : Int32) (hF : pq_Fr [(14, 3), (184, 0), (185, 0)] S S1) (hb0 : 0 ≤ b.toInt) (hb1 : b.toInt ≤ 128), (128 - b.toInt).toNat < fu → pq_At p l e (pq_rm 2 0 0) s m args below meth c (pq_Z below args s D cy S 0 0 (fun v S2 => pq_Fr [(14, 3), (184, 0), (185, 0)] S S2 ∧ ∃ x : Int64, v = some (.long x))) D cy A 7 0 0 139 S1 [some (.ref a), some (.int w), some (.int n), some (.int al), some (.int k), some (.int sj), some (.int b)] [] := by
    intro al hl0 hl1 hw k sj hs0 hs1 K fu
    induction fu with
    | zero => intro S1 b hF hb0 hb1 hm; exact absurd hm (Nat.not_lt_zero _)
    | succ fu ih =>
      intro S1 b hF hb0 hb1 hm
      have ha1 := hF.R ha (by decide)
      refine pq_iload F dX11_count_139 rfl ?_
      refine pq_sipush (v := 128) F dX11_count_141 (by decide) ?_
      refine pq_icmp_ge (tgt := 188) F dX11_count_144 (by decide) (fun c144 => ?_) (fun c144 => ?_)
      · skip
        exact pq_fg (K _ hF) (by repeat' (first | exact rfl | exact trivial | constructor))
      · skip
        refine pq_aload_n F dX11_count_147 rfl rfl ?_
        refine pq_getR F ha1 (by decide) lk_X11_241 rfl dX11_count_148 (fun r148 e148 h148 => ?_)
        refine pq_iload F dX11_count_151 rfl ?_
        refine pq_dup2 F dX11_count_153 rfl rfl ?_
        refine pq_lald F h148 (by decide) (by decide) rfl (fun n1_154 n2_154 => (by simp only [vp_in_iff, Int32.lt_iff_toInt_lt, Int32.le_iff_toInt_le, ← Int32.toInt_inj, Int32.toInt_add, Int32.toInt_sub, Int32.toInt_mul, Int32.toInt_neg, pq_NuO, pq_NuI, pq_NuJ, qm1, q0, q1, q12, q128, q402] at *; (try simp (disch := omega) only [pq_bm] at *); all_goals omega)) dX11_count_154 (fun x154 e154 => ?_)
        refine pq_aload_n F dX11_count_155 rfl rfl ?_
        refine pq_getR F ha1 (by decide) lk_X11_244 rfl dX11_count_156 (fun r156 e156 h156 => ?_)
        refine pq_aload_n F dX11_count_159 rfl rfl ?_
        refine pq_getR F ha1 (by decide) lk_X11_219 rfl dX11_count_160 (fun r160 e160 h160 => ?_)
        refine pq_sipush (v := 128) F dX11_count_163 (by decide) ?_
        refine pq_sipush (v := 402) F dX11_count_166 (by decide) ?_
        refine pq_iload_n F dX11_count_169 rfl rfl ?_
        refine pq_imul F dX11_count_170 ?_
        refine pq_iload F dX11_count_171 rfl ?_
        refine pq_iadd F dX11_count_173 ?_
        refine pq_imul F dX11_count_174 ?_
        refine pq_iload F dX11_count_175 rfl ?_
        refine pq_iadd F dX11_count_177 ?_
        refine pq_iald F h160 (by decide) (by decide) rfl (fun n1_178 n2_178 => (by simp only [vp_in_iff, Int32.lt_iff_toInt_lt, Int32.le_iff_toInt_le, ← Int32.toInt_inj, Int32.toInt_add, Int32.toInt_sub, Int32.toInt_mul, Int32.toInt_neg, pq_NuO, pq_NuI, pq_NuJ, qm1, q0, q1, q12, q128, q402] at *; (try simp (disch := omega) only [pq_bm] at *); all_goals omega)) dX11_count_178 (fun x178 e178 l178 u178 => ?_)
        refine pq_lald F h156 (by decide) (by decide) rfl (fun n1_179 n2_179 => (by simp only [vp_in_iff, Int32.lt_iff_toInt_lt, Int32.le_iff_toInt_le, ← Int32.toInt_inj, Int32.toInt_add, Int32.toInt_sub, Int32.toInt_mul, Int32.toInt_neg, pq_NuO, pq_NuI, pq_NuJ, qm1, q0, q1, q12, q128, q402] at *; (try simp (disch := omega) only [pq_bm] at *); all_goals omega)) dX11_count_179 (fun x179 e179 => ?_)
        refine pq_ladd F dX11_count_180 ?_
        refine pq_last F h148 (by decide) (by decide) rfl (fun n1_181 n2_181 => (by simp only [vp_in_iff, Int32.lt_iff_toInt_lt, Int32.le_iff_toInt_le, ← Int32.toInt_inj, Int32.toInt_add, Int32.toInt_sub, Int32.toInt_mul, Int32.toInt_neg, pq_NuO, pq_NuI, pq_NuJ, qm1, q0, q1, q12, q128, q402] at *; (try simp (disch := omega) only [pq_bm] at *); all_goals omega)) dX11_count_181 ?_
        refine pq_iinc (v := 1) F dX11_count_182 rfl (by decide) (by decide) ?_
        refine pq_goto (tgt := 139) F dX11_count_185 (by decide) ?_
        exact pq_fg (ih _ (b + 1) (hF.uJ h148 (by decide)) (by simp only [vp_in_iff, Int32.lt_iff_toInt_lt, Int32.le_iff_toInt_le, ← Int32.toInt_inj, Int32.toInt_add, Int32.toInt_sub, Int32.toInt_mul, Int32.toInt_neg, pq_NuO, pq_NuI, pq_NuJ, qm1, q0, q1, q12, q128, q402] at *; (try simp (disch := omega) only [pq_bm] at *); all_goals omega) (by simp only [vp_in_iff, Int32.lt_iff_toInt_lt, Int32.le_iff_toInt_le, ← Int32.toInt_inj, Int32.toInt_add, Int32.toInt_sub, Int32.toInt_mul, Int32.toInt_neg, pq_NuO, pq_NuI, pq_NuJ, qm1, q0, q1, q12, q128, q402] at *; (try simp (disch := omega) only [pq_bm] at *); all_goals omega) (by simp only [vp_in_iff, Int32.lt_iff_toInt_lt, Int32.le_iff_toInt_le, ← Int32.toInt_inj, Int32.toInt_add, Int32.toInt_sub, Int32.toInt_mul, Int32.toInt_neg, pq_NuO, pq_NuI, pq_NuJ, qm1, q0, q1, q12, q128, q402] at *; (try simp (disch := omega) only [pq_bm] at *); all_goals omega)) (by repeat' (first | exact rfl | exact trivial | constructor))
  have L122 : ∀ (al : Int32) (hl0 : 0 ≤ al.toInt) (hl1 : al.toInt ≤ 402) (hw : w.toInt = 0 ∨ w.toInt = 1) (k : Int32) (K : ∀ (S2 : HS) (hF2 : pq_Fr [(14, 3), (184, 0), (185, 0)] S S2), pq_At p l e (pq_rm 2 0 0) s m args below meth c (pq_Z below args s D cy S 0 0 (fun v S2 => pq_Fr [(14, 3), (184, 0), (185, 0)] S S2 ∧ ∃ x : Int64, v = some (.long x))) D cy A 7 0 0 194 S2 [some (.ref a), some (.int w), some (.int n), some (.int al), some (.int k), none, none] []) (fu : Nat) (S1 : HS) (sj : Int32) (hF : pq_Fr [(14, 3), (184, 0), (185, 0)] S S1) (hs0 : 0 ≤ sj.toInt) (hs1 : sj.toInt ≤ al.toInt), (al.toInt - sj.toInt).toNat < fu → pq_At p l e (pq_rm 2 0 0) s m args below meth c (pq_Z below args s D cy S 0 0 (fun v S2 => pq_Fr [(14, 3), (184, 0), (185, 0)] S S2 ∧ ∃ x : Int64, v = some (.long x))) D cy A 7 0 0 122 S1 [some (.ref a), some (.int w), some (.int n), some (.int al), some (.int k), some (.int sj), none] [] := by
    intro al hl0 hl1 hw k K fu
    induction fu with
    | zero => intro S1 sj hF hs0 hs1 hm; exact absurd hm (Nat.not_lt_zero _)
    | succ fu ih =>
      intro S1 sj hF hs0 hs1 hm
      have ha1 := hF.R ha (by decide)
      refine pq_iload F dX11_count_122 rfl ?_
      refine pq_iload_n F dX11_count_124 rfl rfl ?_
      refine pq_icmp_ge (tgt := 194) F dX11_count_125 (by decide) (fun c125 => ?_) (fun c125 => ?_)
      · skip
        exact pq_fg (K _ hF) (by repeat' (first | exact rfl | exact trivial | constructor))
      · skip
        refine pq_aload_n F dX11_count_128 rfl rfl ?_
        refine pq_getR F ha1 (by decide) lk_X11_241 rfl dX11_count_129 (fun r129 e129 h129 => ?_)
        refine pq_iload F dX11_count_132 rfl ?_
        refine pq_lconst (v := 0) F dX11_count_134 (by decide) ?_
        refine pq_last F h129 (by decide) (by decide) rfl (fun n1_135 n2_135 => (by simp only [vp_in_iff, Int32.lt_iff_toInt_lt, Int32.le_iff_toInt_le, ← Int32.toInt_inj, Int32.toInt_add, Int32.toInt_sub, Int32.toInt_mul, Int32.toInt_neg, pq_NuO, pq_NuI, pq_NuJ, qm1, q0, q1, q12, q128, q402] at *; (try simp (disch := omega) only [pq_bm] at *); all_goals omega)) dX11_count_135 ?_
        refine pq_iconst (v := 0) F dX11_count_136 (by decide) ?_
        refine pq_istore F dX11_count_137 (by decide) ?_
        refine pq_fg (L139 al hl0 hl1 hw k sj hs0 (by simp only [vp_in_iff, Int32.lt_iff_toInt_lt, Int32.le_iff_toInt_le, ← Int32.toInt_inj, Int32.toInt_add, Int32.toInt_sub, Int32.toInt_mul, Int32.toInt_neg, pq_NuO, pq_NuI, pq_NuJ, qm1, q0, q1, q12, q128, q402] at *; (try simp (disch := omega) only [pq_bm] at *); all_goals omega) (fun S3 hF3 => ?_) 1000 _ 0 (hF.uJ h129 (by decide)) (by simp only [vp_in_iff, Int32.lt_iff_toInt_lt, Int32.le_iff_toInt_le, ← Int32.toInt_inj, Int32.toInt_add, Int32.toInt_sub, Int32.toInt_mul, Int32.toInt_neg, pq_NuO, pq_NuI, pq_NuJ, qm1, q0, q1, q12, q128, q402] at *; (try simp (disch := omega) only [pq_bm] at *); all_goals omega) (by simp only [vp_in_iff, Int32.lt_iff_toInt_lt, Int32.le_iff_toInt_le, ← Int32.toInt_inj, Int32.toInt_add, Int32.toInt_sub, Int32.toInt_mul, Int32.toInt_neg, pq_NuO, pq_NuI, pq_NuJ, qm1, q0, q1, q12, q128, q402] at *; (try simp (disch := omega) only [pq_bm] at *); all_goals omega) (by simp only [vp_in_iff, Int32.lt_iff_toInt_lt, Int32.le_iff_toInt_le, ← Int32.toInt_inj, Int32.toInt_add, Int32.toInt_sub, Int32.toInt_mul, Int32.toInt_neg, pq_NuO, pq_NuI, pq_NuJ, qm1, q0, q1, q12, q128, q402] at *; (try simp (disch := omega) only [pq_bm] at *); all_goals omega)) (by repeat' (first | exact rfl | exact trivial | constructor))
        have ha3 := hF3.R ha (by decide)
        refine pq_iinc (v := 1) F dX11_count_188 rfl (by decide) (by decide) ?_
        refine pq_goto (tgt := 122) F dX11_count_191 (by decide) ?_
        exact pq_fg (ih _ (sj + 1) hF3 (by simp only [vp_in_iff, Int32.lt_iff_toInt_lt, Int32.le_iff_toInt_le, ← Int32.toInt_inj, Int32.toInt_add, Int32.toInt_sub, Int32.toInt_mul, Int32.toInt_neg, pq_NuO, pq_NuI, pq_NuJ, qm1, q0, q1, q12, q128, q402] at *; (try simp (disch := omega) only [pq_bm] at *); all_goals omega) (by simp only [vp_in_iff, Int32.lt_iff_toInt_lt, Int32.le_iff_toInt_le, ← Int32.toInt_inj, Int32.toInt_add, Int32.toInt_sub, Int32.toInt_mul, Int32.toInt_neg, pq_NuO, pq_NuI, pq_NuJ, qm1, q0, q1, q12, q128, q402] at *; (try simp (disch := omega) only [pq_bm] at *); all_goals omega) (by simp only [vp_in_iff, Int32.lt_iff_toInt_lt, Int32.le_iff_toInt_le, ← Int32.toInt_inj, Int32.toInt_add, Int32.toInt_sub, Int32.toInt_mul, Int32.toInt_neg, pq_NuO, pq_NuI, pq_NuJ, qm1, q0, q1, q12, q128, q402] at *; (try simp (disch := omega) only [pq_bm] at *); all_goals omega)) (by repeat' (first | exact rfl | exact trivial | constructor))
  have L93 : ∀ (al : Int32) (hl0 : 0 ≤ al.toInt) (hl1 : al.toInt ≤ 402) (hw : w.toInt = 0 ∨ w.toInt = 1) (k : Int32) (K : ∀ (S2 : HS) (hF2 : pq_Fr [(14, 3), (184, 0), (185, 0)] S S2), pq_At p l e (pq_rm 2 0 0) s m args below meth c (pq_Z below args s D cy S 0 0 (fun v S2 => pq_Fr [(14, 3), (184, 0), (185, 0)] S S2 ∧ ∃ x : Int64, v = some (.long x))) D cy A 7 0 0 119 S2 [some (.ref a), some (.int w), some (.int n), some (.int al), some (.int k), none, none] []) (fu : Nat) (S1 : HS) (sj : Int32) (hF : pq_Fr [(14, 3), (184, 0), (185, 0)] S S1) (hs0 : 0 ≤ sj.toInt) (hs1 : sj.toInt ≤ al.toInt), (al.toInt - sj.toInt).toNat < fu → pq_At p l e (pq_rm 2 0 0) s m args below meth c (pq_Z below args s D cy S 0 0 (fun v S2 => pq_Fr [(14, 3), (184, 0), (185, 0)] S S2 ∧ ∃ x : Int64, v = some (.long x))) D cy A 7 0 0 93 S1 [some (.ref a), some (.int w), some (.int n), some (.int al), some (.int k), some (.int sj), none] [] := by
    intro al hl0 hl1 hw k K fu
    induction fu with
    | zero => intro S1 sj hF hs0 hs1 hm; exact absurd hm (Nat.not_lt_zero _)
    | succ fu ih =>
      intro S1 sj hF hs0 hs1 hm
      have ha1 := hF.R ha (by decide)
      refine pq_iload F dX11_count_93 rfl ?_
      refine pq_iload_n F dX11_count_95 rfl rfl ?_
      refine pq_icmp_ge (tgt := 119) F dX11_count_96 (by decide) (fun c96 => ?_) (fun c96 => ?_)
      · skip
        exact pq_fg (K _ hF) (by repeat' (first | exact rfl | exact trivial | constructor))
      · skip
        refine pq_aload_n F dX11_count_99 rfl rfl ?_
        refine pq_getR F ha1 (by decide) lk_X11_244 rfl dX11_count_100 (fun r100 e100 h100 => ?_)
        refine pq_iload F dX11_count_103 rfl ?_
        refine pq_aload_n F dX11_count_105 rfl rfl ?_
        refine pq_getR F ha1 (by decide) lk_X11_241 rfl dX11_count_106 (fun r106 e106 h106 => ?_)
        refine pq_iload F dX11_count_109 rfl ?_
        refine pq_lald F h106 (by decide) (by decide) rfl (fun n1_111 n2_111 => (by simp only [vp_in_iff, Int32.lt_iff_toInt_lt, Int32.le_iff_toInt_le, ← Int32.toInt_inj, Int32.toInt_add, Int32.toInt_sub, Int32.toInt_mul, Int32.toInt_neg, pq_NuO, pq_NuI, pq_NuJ, qm1, q0, q1, q12, q128, q402] at *; (try simp (disch := omega) only [pq_bm] at *); all_goals omega)) dX11_count_111 (fun x111 e111 => ?_)
        refine pq_last F h100 (by decide) (by decide) rfl (fun n1_112 n2_112 => (by simp only [vp_in_iff, Int32.lt_iff_toInt_lt, Int32.le_iff_toInt_le, ← Int32.toInt_inj, Int32.toInt_add, Int32.toInt_sub, Int32.toInt_mul, Int32.toInt_neg, pq_NuO, pq_NuI, pq_NuJ, qm1, q0, q1, q12, q128, q402] at *; (try simp (disch := omega) only [pq_bm] at *); all_goals omega)) dX11_count_112 ?_
        refine pq_iinc (v := 1) F dX11_count_113 rfl (by decide) (by decide) ?_
        refine pq_goto (tgt := 93) F dX11_count_116 (by decide) ?_
        exact pq_fg (ih _ (sj + 1) (hF.uJ h100 (by decide)) (by simp only [vp_in_iff, Int32.lt_iff_toInt_lt, Int32.le_iff_toInt_le, ← Int32.toInt_inj, Int32.toInt_add, Int32.toInt_sub, Int32.toInt_mul, Int32.toInt_neg, pq_NuO, pq_NuI, pq_NuJ, qm1, q0, q1, q12, q128, q402] at *; (try simp (disch := omega) only [pq_bm] at *); all_goals omega) (by simp only [vp_in_iff, Int32.lt_iff_toInt_lt, Int32.le_iff_toInt_le, ← Int32.toInt_inj, Int32.toInt_add, Int32.toInt_sub, Int32.toInt_mul, Int32.toInt_neg, pq_NuO, pq_NuI, pq_NuJ, qm1, q0, q1, q12, q128, q402] at *; (try simp (disch := omega) only [pq_bm] at *); all_goals omega) (by simp only [vp_in_iff, Int32.lt_iff_toInt_lt, Int32.le_iff_toInt_le, ← Int32.toInt_inj, Int32.toInt_add, Int32.toInt_sub, Int32.toInt_mul, Int32.toInt_neg, pq_NuO, pq_NuI, pq_NuJ, qm1, q0, q1, q12, q128, q402] at *; (try simp (disch := omega) only [pq_bm] at *); all_goals omega)) (by repeat' (first | exact rfl | exact trivial | constructor))
  have L84 : ∀ (al : Int32) (hl0 : 0 ≤ al.toInt) (hl1 : al.toInt ≤ 402) (hw : w.toInt = 0 ∨ w.toInt = 1) (hn : n.toInt ≤ 12) (fu : Nat) (S1 : HS) (k : Int32) (hF : pq_Fr [(14, 3), (184, 0), (185, 0)] S S1) (hk0 : 0 ≤ k.toInt) (hk1 : k.toInt ≤ 12), (12 - k.toInt).toNat < fu → pq_At p l e (pq_rm 2 0 0) s m args below meth c (pq_Z below args s D cy S 0 0 (fun v S2 => pq_Fr [(14, 3), (184, 0), (185, 0)] S S2 ∧ ∃ x : Int64, v = some (.long x))) D cy A 7 0 0 84 S1 [some (.ref a), some (.int w), some (.int n), some (.int al), some (.int k), none, none] [] := by
    intro al hl0 hl1 hw hn fu
    induction fu with
    | zero => intro S1 k hF hk0 hk1 hm; exact absurd hm (Nat.not_lt_zero _)
    | succ fu ih =>
      intro S1 k hF hk0 hk1 hm
      have ha1 := hF.R ha (by decide)
      refine pq_iload F dX11_count_84 rfl ?_
      refine pq_iload_n F dX11_count_86 rfl rfl ?_
      refine pq_icmp_ge (tgt := 200) F dX11_count_87 (by decide) (fun c87 => ?_) (fun c87 => ?_)
      · skip
        refine pq_aload_n F dX11_count_200 rfl rfl ?_
        refine pq_getR F ha1 (by decide) lk_X11_241 rfl dX11_count_201 (fun r201 e201 h201 => ?_)
        refine pq_iconst (v := 0) F dX11_count_204 (by decide) ?_
        refine pq_lald F h201 (by decide) (by decide) rfl (fun n1_205 n2_205 => (by simp only [vp_in_iff, Int32.lt_iff_toInt_lt, Int32.le_iff_toInt_le, ← Int32.toInt_inj, Int32.toInt_add, Int32.toInt_sub, Int32.toInt_mul, Int32.toInt_neg, pq_NuO, pq_NuI, pq_NuJ, qm1, q0, q1, q12, q128, q402] at *; (try simp (disch := omega) only [pq_bm] at *); all_goals omega)) dX11_count_205 (fun x205 e205 => ?_)
        exact pq_lret F hr hlk hA (Nat.le_refl _) (Nat.le_refl _) (⟨hF, _, rfl⟩) dX11_count_206
      · skip
        refine pq_iconst (v := 0) F dX11_count_90 (by decide) ?_
        refine pq_istore F dX11_count_91 (by decide) ?_
        refine pq_fg (L93 al hl0 hl1 hw k (fun S4 hF4 => ?_) 1000 _ 0 hF (by simp only [vp_in_iff, Int32.lt_iff_toInt_lt, Int32.le_iff_toInt_le, ← Int32.toInt_inj, Int32.toInt_add, Int32.toInt_sub, Int32.toInt_mul, Int32.toInt_neg, pq_NuO, pq_NuI, pq_NuJ, qm1, q0, q1, q12, q128, q402] at *; (try simp (disch := omega) only [pq_bm] at *); all_goals omega) (by simp only [vp_in_iff, Int32.lt_iff_toInt_lt, Int32.le_iff_toInt_le, ← Int32.toInt_inj, Int32.toInt_add, Int32.toInt_sub, Int32.toInt_mul, Int32.toInt_neg, pq_NuO, pq_NuI, pq_NuJ, qm1, q0, q1, q12, q128, q402] at *; (try simp (disch := omega) only [pq_bm] at *); all_goals omega) (by simp only [vp_in_iff, Int32.lt_iff_toInt_lt, Int32.le_iff_toInt_le, ← Int32.toInt_inj, Int32.toInt_add, Int32.toInt_sub, Int32.toInt_mul, Int32.toInt_neg, pq_NuO, pq_NuI, pq_NuJ, qm1, q0, q1, q12, q128, q402] at *; (try simp (disch := omega) only [pq_bm] at *); all_goals omega)) (by repeat' (first | exact rfl | exact trivial | constructor))
        have ha4 := hF4.R ha (by decide)
        refine pq_iconst (v := 0) F dX11_count_119 (by decide) ?_
        refine pq_istore F dX11_count_120 (by decide) ?_
        refine pq_fg (L122 al hl0 hl1 hw k (fun S5 hF5 => ?_) 1000 _ 0 hF4 (by simp only [vp_in_iff, Int32.lt_iff_toInt_lt, Int32.le_iff_toInt_le, ← Int32.toInt_inj, Int32.toInt_add, Int32.toInt_sub, Int32.toInt_mul, Int32.toInt_neg, pq_NuO, pq_NuI, pq_NuJ, qm1, q0, q1, q12, q128, q402] at *; (try simp (disch := omega) only [pq_bm] at *); all_goals omega) (by simp only [vp_in_iff, Int32.lt_iff_toInt_lt, Int32.le_iff_toInt_le, ← Int32.toInt_inj, Int32.toInt_add, Int32.toInt_sub, Int32.toInt_mul, Int32.toInt_neg, pq_NuO, pq_NuI, pq_NuJ, qm1, q0, q1, q12, q128, q402] at *; (try simp (disch := omega) only [pq_bm] at *); all_goals omega) (by simp only [vp_in_iff, Int32.lt_iff_toInt_lt, Int32.le_iff_toInt_le, ← Int32.toInt_inj, Int32.toInt_add, Int32.toInt_sub, Int32.toInt_mul, Int32.toInt_neg, pq_NuO, pq_NuI, pq_NuJ, qm1, q0, q1, q12, q128, q402] at *; (try simp (disch := omega) only [pq_bm] at *); all_goals omega)) (by repeat' (first | exact rfl | exact trivial | constructor))
        have ha5 := hF5.R ha (by decide)
        refine pq_iinc (v := 1) F dX11_count_194 rfl (by decide) (by decide) ?_
        refine pq_goto (tgt := 84) F dX11_count_197 (by decide) ?_
        exact pq_fg (ih _ (k + 1) hF5 (by simp only [vp_in_iff, Int32.lt_iff_toInt_lt, Int32.le_iff_toInt_le, ← Int32.toInt_inj, Int32.toInt_add, Int32.toInt_sub, Int32.toInt_mul, Int32.toInt_neg, pq_NuO, pq_NuI, pq_NuJ, qm1, q0, q1, q12, q128, q402] at *; (try simp (disch := omega) only [pq_bm] at *); all_goals omega) (by simp only [vp_in_iff, Int32.lt_iff_toInt_lt, Int32.le_iff_toInt_le, ← Int32.toInt_inj, Int32.toInt_add, Int32.toInt_sub, Int32.toInt_mul, Int32.toInt_neg, pq_NuO, pq_NuI, pq_NuJ, qm1, q0, q1, q12, q128, q402] at *; (try simp (disch := omega) only [pq_bm] at *); all_goals omega) (by simp only [vp_in_iff, Int32.lt_iff_toInt_lt, Int32.le_iff_toInt_le, ← Int32.toInt_inj, Int32.toInt_add, Int32.toInt_sub, Int32.toInt_mul, Int32.toInt_neg, pq_NuO, pq_NuI, pq_NuJ, qm1, q0, q1, q12, q128, q402] at *; (try simp (disch := omega) only [pq_bm] at *); all_goals omega)) (by repeat' (first | exact rfl | exact trivial | constructor))
  have L41 : ∀ (al : Int32) (hl0 : 0 ≤ al.toInt) (hl1 : al.toInt ≤ 402) (hw : w.toInt = 0 ∨ w.toInt = 1) (hn : n.toInt ≤ 12) (fu : Nat) (S1 : HS) (k : Int32) (hF : pq_Fr [(14, 3), (184, 0), (185, 0)] S S1) (hk0 : 0 ≤ k.toInt) (hk1 : k.toInt ≤ al.toInt), (al.toInt - k.toInt).toNat < fu → pq_At p l e (pq_rm 2 0 0) s m args below meth c (pq_Z below args s D cy S 0 0 (fun v S2 => pq_Fr [(14, 3), (184, 0), (185, 0)] S S2 ∧ ∃ x : Int64, v = some (.long x))) D cy A 7 0 0 41 S1 [some (.ref a), some (.int w), some (.int n), some (.int al), some (.int k), none, none] [] := by
    intro al hl0 hl1 hw hn fu
    induction fu with
    | zero => intro S1 k hF hk0 hk1 hm; exact absurd hm (Nat.not_lt_zero _)
    | succ fu ih =>
      intro S1 k hF hk0 hk1 hm
      have ha1 := hF.R ha (by decide)
      refine pq_iload F dX11_count_41 rfl ?_
      refine pq_iload_n F dX11_count_43 rfl rfl ?_
      refine pq_icmp_ge (tgt := 81) F dX11_count_44 (by decide) (fun c44 => ?_) (fun c44 => ?_)
      · skip
        refine pq_iconst (v := 0) F dX11_count_81 (by decide) ?_
        refine pq_istore F dX11_count_82 (by decide) ?_
        exact pq_fg (L84 al hl0 hl1 hw hn 100 _ 0 hF (by simp only [vp_in_iff, Int32.lt_iff_toInt_lt, Int32.le_iff_toInt_le, ← Int32.toInt_inj, Int32.toInt_add, Int32.toInt_sub, Int32.toInt_mul, Int32.toInt_neg, pq_NuO, pq_NuI, pq_NuJ, qm1, q0, q1, q12, q128, q402] at *; (try simp (disch := omega) only [pq_bm] at *); all_goals omega) (by simp only [vp_in_iff, Int32.lt_iff_toInt_lt, Int32.le_iff_toInt_le, ← Int32.toInt_inj, Int32.toInt_add, Int32.toInt_sub, Int32.toInt_mul, Int32.toInt_neg, pq_NuO, pq_NuI, pq_NuJ, qm1, q0, q1, q12, q128, q402] at *; (try simp (disch := omega) only [pq_bm] at *); all_goals omega) (by simp only [vp_in_iff, Int32.lt_iff_toInt_lt, Int32.le_iff_toInt_le, ← Int32.toInt_inj, Int32.toInt_add, Int32.toInt_sub, Int32.toInt_mul, Int32.toInt_neg, pq_NuO, pq_NuI, pq_NuJ, qm1, q0, q1, q12, q128, q402] at *; (try simp (disch := omega) only [pq_bm] at *); all_goals omega)) (by repeat' (first | exact rfl | exact trivial | constructor))
      · skip
        refine pq_aload_n F dX11_count_47 rfl rfl ?_
        refine pq_getR F ha1 (by decide) lk_X11_241 rfl dX11_count_48 (fun r48 e48 h48 => ?_)
        refine pq_iload F dX11_count_51 rfl ?_
        refine pq_aload_n F dX11_count_53 rfl rfl ?_
        refine pq_getR F ha1 (by decide) lk_X11_225 rfl dX11_count_54 (fun r54 e54 h54 => ?_)
        refine pq_sipush (v := 402) F dX11_count_57 (by decide) ?_
        refine pq_iload_n F dX11_count_60 rfl rfl ?_
        refine pq_imul F dX11_count_61 ?_
        refine pq_iload F dX11_count_62 rfl ?_
        refine pq_iadd F dX11_count_64 ?_
        refine pq_zald F h54 (by decide) (by decide) rfl (fun n1_65 n2_65 => (by simp only [vp_in_iff, Int32.lt_iff_toInt_lt, Int32.le_iff_toInt_le, ← Int32.toInt_inj, Int32.toInt_add, Int32.toInt_sub, Int32.toInt_mul, Int32.toInt_neg, pq_NuO, pq_NuI, pq_NuJ, qm1, q0, q1, q12, q128, q402] at *; (try simp (disch := omega) only [pq_bm] at *); all_goals omega)) dX11_count_65 (fun x65 e65 l65 u65 => ?_)
        refine pq_if_eq (tgt := 73) F dX11_count_66 (by decide) (fun c66 => ?_) (fun c66 => ?_)
        · skip
          refine pq_lconst (v := 0) F dX11_count_73 (by decide) ?_
          refine pq_last F h48 (by decide) (by decide) rfl (fun n1_74 n2_74 => (by simp only [vp_in_iff, Int32.lt_iff_toInt_lt, Int32.le_iff_toInt_le, ← Int32.toInt_inj, Int32.toInt_add, Int32.toInt_sub, Int32.toInt_mul, Int32.toInt_neg, pq_NuO, pq_NuI, pq_NuJ, qm1, q0, q1, q12, q128, q402] at *; (try simp (disch := omega) only [pq_bm] at *); all_goals omega)) dX11_count_74 ?_
          refine pq_iinc (v := 1) F dX11_count_75 rfl (by decide) (by decide) ?_
          refine pq_goto (tgt := 41) F dX11_count_78 (by decide) ?_
          exact pq_fg (ih _ (k + 1) (hF.uJ h48 (by decide)) (by simp only [vp_in_iff, Int32.lt_iff_toInt_lt, Int32.le_iff_toInt_le, ← Int32.toInt_inj, Int32.toInt_add, Int32.toInt_sub, Int32.toInt_mul, Int32.toInt_neg, pq_NuO, pq_NuI, pq_NuJ, qm1, q0, q1, q12, q128, q402] at *; (try simp (disch := omega) only [pq_bm] at *); all_goals omega) (by simp only [vp_in_iff, Int32.lt_iff_toInt_lt, Int32.le_iff_toInt_le, ← Int32.toInt_inj, Int32.toInt_add, Int32.toInt_sub, Int32.toInt_mul, Int32.toInt_neg, pq_NuO, pq_NuI, pq_NuJ, qm1, q0, q1, q12, q128, q402] at *; (try simp (disch := omega) only [pq_bm] at *); all_goals omega) (by simp only [vp_in_iff, Int32.lt_iff_toInt_lt, Int32.le_iff_toInt_le, ← Int32.toInt_inj, Int32.toInt_add, Int32.toInt_sub, Int32.toInt_mul, Int32.toInt_neg, pq_NuO, pq_NuI, pq_NuJ, qm1, q0, q1, q12, q128, q402] at *; (try simp (disch := omega) only [pq_bm] at *); all_goals omega)) (by repeat' (first | exact rfl | exact trivial | constructor))
        · skip
          refine pq_lconst (v := 1) F dX11_count_69 (by decide) ?_
          refine pq_goto (tgt := 74) F dX11_count_70 (by decide) ?_
          refine pq_last F h48 (by decide) (by decide) rfl (fun n1_74 n2_74 => (by simp only [vp_in_iff, Int32.lt_iff_toInt_lt, Int32.le_iff_toInt_le, ← Int32.toInt_inj, Int32.toInt_add, Int32.toInt_sub, Int32.toInt_mul, Int32.toInt_neg, pq_NuO, pq_NuI, pq_NuJ, qm1, q0, q1, q12, q128, q402] at *; (try simp (disch := omega) only [pq_bm] at *); all_goals omega)) dX11_count_74 ?_
          refine pq_iinc (v := 1) F dX11_count_75 rfl (by decide) (by decide) ?_
          refine pq_goto (tgt := 41) F dX11_count_78 (by decide) ?_
          exact pq_fg (ih _ (k + 1) (hF.uJ h48 (by decide)) (by simp only [vp_in_iff, Int32.lt_iff_toInt_lt, Int32.le_iff_toInt_le, ← Int32.toInt_inj, Int32.toInt_add, Int32.toInt_sub, Int32.toInt_mul, Int32.toInt_neg, pq_NuO, pq_NuI, pq_NuJ, qm1, q0, q1, q12, q128, q402] at *; (try simp (disch := omega) only [pq_bm] at *); all_goals omega) (by simp only [vp_in_iff, Int32.lt_iff_toInt_lt, Int32.le_iff_toInt_le, ← Int32.toInt_inj, Int32.toInt_add, Int32.toInt_sub, Int32.toInt_mul, Int32.toInt_neg, pq_NuO, pq_NuI, pq_NuJ, qm1, q0, q1, q12, q128, q402] at *; (try simp (disch := omega) only [pq_bm] at *); all_goals omega) (by simp only [vp_in_iff, Int32.lt_iff_toInt_lt, Int32.le_iff_toInt_le, ← Int32.toInt_inj, Int32.toInt_add, Int32.toInt_sub, Int32.toInt_mul, Int32.toInt_neg, pq_NuO, pq_NuI, pq_NuJ, qm1, q0, q1, q12, q128, q402] at *; (try simp (disch := omega) only [pq_bm] at *); all_goals omega)) (by repeat' (first | exact rfl | exact trivial | constructor))
  refine pq_aload_n F dX11_count_0 rfl rfl ?_
  refine pq_iconst (v := 0) F dX11_count_1 (by decide) ?_
  refine pq_putI F ha (by decide) lp_X11_3 rfl (pq_any1 _) (pq_any2 _) dX11_count_2 ?_
  refine pq_iload_n F dX11_count_5 rfl rfl ?_
  refine pq_if_eq (tgt := 14) F dX11_count_6 (by decide) (fun c6 => ?_) (fun c6 => ?_)
  · skip
    refine pq_iload_n F dX11_count_14 rfl rfl ?_
    refine pq_if_lt (tgt := 24) F dX11_count_15 (by decide) (fun c15 => ?_) (fun c15 => ?_)
    · skip
      refine pq_aload_n F dX11_count_24 rfl rfl ?_
      refine pq_iconst (v := 1) F dX11_count_25 (by decide) ?_
      refine pq_callV (As := [_]) F (k_X11_refuse l D cy _ _ ?_ _) ml_X11_267 ha (by decide) rfl (Nat.le_of_ble_eq_true rfl) ⟨Nat.le_of_ble_eq_true rfl, Nat.le_of_ble_eq_true rfl⟩ ⟨by decide, by decide⟩ dX11_count_26 (fun v26 S26 w26 => ?_)
      · exact ha
      obtain ⟨rfl, rfl⟩ := w26
      refine pq_i2l F dX11_count_29 ?_
      exact pq_lret F hr hlk hA (Nat.le_refl _) (Nat.le_refl _) (⟨((pq_Fr.rf.uO ha (by decide)).uO ha (by decide)), _, rfl⟩) dX11_count_30
    · skip
      refine pq_iload_n F dX11_count_18 rfl rfl ?_
      refine pq_bipush (v := 12) F dX11_count_19 (by decide) ?_
      refine pq_icmp_le (tgt := 31) F dX11_count_21 (by decide) (fun c21 => ?_) (fun c21 => ?_)
      · skip
        refine pq_aload_n F dX11_count_31 rfl rfl ?_
        refine pq_getR F ha (by decide) lk_X11_222 rfl dX11_count_32 (fun r32 e32 h32 => ?_)
        refine pq_iload_n F dX11_count_35 rfl rfl ?_
        have hw2 : w.toInt = 0 ∨ w.toInt = 1 := by first | (left; rw [c6]; rfl) | (right; rw [c11]; rfl)
        refine pq_iald F h32 (by decide) (by decide) rfl (fun n1_36 n2_36 => (by simp only [vp_in_iff, Int32.lt_iff_toInt_lt, Int32.le_iff_toInt_le, ← Int32.toInt_inj, Int32.toInt_add, Int32.toInt_sub, Int32.toInt_mul, Int32.toInt_neg, pq_NuO, pq_NuI, pq_NuJ, qm1, q0, q1, q12, q128, q402] at *; (try simp (disch := omega) only [pq_bm] at *); all_goals omega)) dX11_count_36 (fun x36 e36 l36 u36 => ?_)
        refine pq_istore_n F dX11_count_37 rfl (by decide) ?_
        refine pq_iconst (v := 0) F dX11_count_38 (by decide) ?_
        refine pq_istore F dX11_count_39 (by decide) ?_
        exact pq_fg (L41 x36 l36 u36 hw2 (by simp only [vp_in_iff, Int32.lt_iff_toInt_lt, Int32.le_iff_toInt_le, ← Int32.toInt_inj, Int32.toInt_add, Int32.toInt_sub, Int32.toInt_mul, Int32.toInt_neg, pq_NuO, pq_NuI, pq_NuJ, qm1, q0, q1, q12, q128, q402] at *; (try simp (disch := omega) only [pq_bm] at *); all_goals omega) 1000 _ 0 (pq_Fr.rf.uO ha (by decide)) (by simp only [vp_in_iff, Int32.lt_iff_toInt_lt, Int32.le_iff_toInt_le, ← Int32.toInt_inj, Int32.toInt_add, Int32.toInt_sub, Int32.toInt_mul, Int32.toInt_neg, pq_NuO, pq_NuI, pq_NuJ, qm1, q0, q1, q12, q128, q402] at *; (try simp (disch := omega) only [pq_bm] at *); all_goals omega) (by simp only [vp_in_iff, Int32.lt_iff_toInt_lt, Int32.le_iff_toInt_le, ← Int32.toInt_inj, Int32.toInt_add, Int32.toInt_sub, Int32.toInt_mul, Int32.toInt_neg, pq_NuO, pq_NuI, pq_NuJ, qm1, q0, q1, q12, q128, q402] at *; (try simp (disch := omega) only [pq_bm] at *); all_goals omega) (by simp only [vp_in_iff, Int32.lt_iff_toInt_lt, Int32.le_iff_toInt_le, ← Int32.toInt_inj, Int32.toInt_add, Int32.toInt_sub, Int32.toInt_mul, Int32.toInt_neg, pq_NuO, pq_NuI, pq_NuJ, qm1, q0, q1, q12, q128, q402] at *; (try simp (disch := omega) only [pq_bm] at *); all_goals omega)) (by repeat' (first | exact rfl | exact trivial | constructor))
      · skip
        refine pq_aload_n F dX11_count_24 rfl rfl ?_
        refine pq_iconst (v := 1) F dX11_count_25 (by decide) ?_
        refine pq_callV (As := [_]) F (k_X11_refuse l D cy _ _ ?_ _) ml_X11_267 ha (by decide) rfl (Nat.le_of_ble_eq_true rfl) ⟨Nat.le_of_ble_eq_true rfl, Nat.le_of_ble_eq_true rfl⟩ ⟨by decide, by decide⟩ dX11_count_26 (fun v26 S26 w26 => ?_)
        · exact ha
        obtain ⟨rfl, rfl⟩ := w26
        refine pq_i2l F dX11_count_29 ?_
        exact pq_lret F hr hlk hA (Nat.le_refl _) (Nat.le_refl _) (⟨((pq_Fr.rf.uO ha (by decide)).uO ha (by decide)), _, rfl⟩) dX11_count_30
  · skip
    refine pq_iload_n F dX11_count_9 rfl rfl ?_
    refine pq_iconst (v := 1) F dX11_count_10 (by decide) ?_
    refine pq_icmp_ne (tgt := 24) F dX11_count_11 (by decide) (fun c11 => ?_) (fun c11 => ?_)
    · skip
      refine pq_aload_n F dX11_count_24 rfl rfl ?_
      refine pq_iconst (v := 1) F dX11_count_25 (by decide) ?_
      refine pq_callV (As := [_]) F (k_X11_refuse l D cy _ _ ?_ _) ml_X11_267 ha (by decide) rfl (Nat.le_of_ble_eq_true rfl) ⟨Nat.le_of_ble_eq_true rfl, Nat.le_of_ble_eq_true rfl⟩ ⟨by decide, by decide⟩ dX11_count_26 (fun v26 S26 w26 => ?_)
      · exact ha
      obtain ⟨rfl, rfl⟩ := w26
      refine pq_i2l F dX11_count_29 ?_
      exact pq_lret F hr hlk hA (Nat.le_refl _) (Nat.le_refl _) (⟨((pq_Fr.rf.uO ha (by decide)).uO ha (by decide)), _, rfl⟩) dX11_count_30
    · skip
      refine pq_iload_n F dX11_count_14 rfl rfl ?_
      refine pq_if_lt (tgt := 24) F dX11_count_15 (by decide) (fun c15 => ?_) (fun c15 => ?_)
      · skip
        refine pq_aload_n F dX11_count_24 rfl rfl ?_
        refine pq_iconst (v := 1) F dX11_count_25 (by decide) ?_
        refine pq_callV (As := [_]) F (k_X11_refuse l D cy _ _ ?_ _) ml_X11_267 ha (by decide) rfl (Nat.le_of_ble_eq_true rfl) ⟨Nat.le_of_ble_eq_true rfl, Nat.le_of_ble_eq_true rfl⟩ ⟨by decide, by decide⟩ dX11_count_26 (fun v26 S26 w26 => ?_)
        · exact ha
        obtain ⟨rfl, rfl⟩ := w26
        refine pq_i2l F dX11_count_29 ?_
        exact pq_lret F hr hlk hA (Nat.le_refl _) (Nat.le_refl _) (⟨((pq_Fr.rf.uO ha (by decide)).uO ha (by decide)), _, rfl⟩) dX11_count_30
      · skip
        refine pq_iload_n F dX11_count_18 rfl rfl ?_
        refine pq_bipush (v := 12) F dX11_count_19 (by decide) ?_
        refine pq_icmp_le (tgt := 31) F dX11_count_21 (by decide) (fun c21 => ?_) (fun c21 => ?_)
        · skip
          refine pq_aload_n F dX11_count_31 rfl rfl ?_
          refine pq_getR F ha (by decide) lk_X11_222 rfl dX11_count_32 (fun r32 e32 h32 => ?_)
          refine pq_iload_n F dX11_count_35 rfl rfl ?_
          have hw2 : w.toInt = 0 ∨ w.toInt = 1 := by first | (left; rw [c6]; rfl) | (right; rw [c11]; rfl)
          refine pq_iald F h32 (by decide) (by decide) rfl (fun n1_36 n2_36 => (by simp only [vp_in_iff, Int32.lt_iff_toInt_lt, Int32.le_iff_toInt_le, ← Int32.toInt_inj, Int32.toInt_add, Int32.toInt_sub, Int32.toInt_mul, Int32.toInt_neg, pq_NuO, pq_NuI, pq_NuJ, qm1, q0, q1, q12, q128, q402] at *; (try simp (disch := omega) only [pq_bm] at *); all_goals omega)) dX11_count_36 (fun x36 e36 l36 u36 => ?_)
          refine pq_istore_n F dX11_count_37 rfl (by decide) ?_
          refine pq_iconst (v := 0) F dX11_count_38 (by decide) ?_
          refine pq_istore F dX11_count_39 (by decide) ?_
          exact pq_fg (L41 x36 l36 u36 hw2 (by simp only [vp_in_iff, Int32.lt_iff_toInt_lt, Int32.le_iff_toInt_le, ← Int32.toInt_inj, Int32.toInt_add, Int32.toInt_sub, Int32.toInt_mul, Int32.toInt_neg, pq_NuO, pq_NuI, pq_NuJ, qm1, q0, q1, q12, q128, q402] at *; (try simp (disch := omega) only [pq_bm] at *); all_goals omega) 1000 _ 0 (pq_Fr.rf.uO ha (by decide)) (by simp only [vp_in_iff, Int32.lt_iff_toInt_lt, Int32.le_iff_toInt_le, ← Int32.toInt_inj, Int32.toInt_add, Int32.toInt_sub, Int32.toInt_mul, Int32.toInt_neg, pq_NuO, pq_NuI, pq_NuJ, qm1, q0, q1, q12, q128, q402] at *; (try simp (disch := omega) only [pq_bm] at *); all_goals omega) (by simp only [vp_in_iff, Int32.lt_iff_toInt_lt, Int32.le_iff_toInt_le, ← Int32.toInt_inj, Int32.toInt_add, Int32.toInt_sub, Int32.toInt_mul, Int32.toInt_neg, pq_NuO, pq_NuI, pq_NuJ, qm1, q0, q1, q12, q128, q402] at *; (try simp (disch := omega) only [pq_bm] at *); all_goals omega) (by simp only [vp_in_iff, Int32.lt_iff_toInt_lt, Int32.le_iff_toInt_le, ← Int32.toInt_inj, Int32.toInt_add, Int32.toInt_sub, Int32.toInt_mul, Int32.toInt_neg, pq_NuO, pq_NuI, pq_NuJ, qm1, q0, q1, q12, q128, q402] at *; (try simp (disch := omega) only [pq_bm] at *); all_goals omega)) (by repeat' (first | exact rfl | exact trivial | constructor))
        · skip
          refine pq_aload_n F dX11_count_24 rfl rfl ?_
          refine pq_iconst (v := 1) F dX11_count_25 (by decide) ?_
          refine pq_callV (As := [_]) F (k_X11_refuse l D cy _ _ ?_ _) ml_X11_267 ha (by decide) rfl (Nat.le_of_ble_eq_true rfl) ⟨Nat.le_of_ble_eq_true rfl, Nat.le_of_ble_eq_true rfl⟩ ⟨by decide, by decide⟩ dX11_count_26 (fun v26 S26 w26 => ?_)
          · exact ha
          obtain ⟨rfl, rfl⟩ := w26
          refine pq_i2l F dX11_count_29 ?_
          exact pq_lret F hr hlk hA (Nat.le_refl _) (Nat.le_refl _) (⟨((pq_Fr.rf.uO ha (by decide)).uO ha (by decide)), _, rfl⟩) dX11_count_30

