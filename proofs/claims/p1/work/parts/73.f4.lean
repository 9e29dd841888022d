theorem pf_nx {k : Nat} {sv b y : Int32} {S : HS} {nx : Nat} (e2 : (b + 1).toInt = b.toInt + 1) (ey : y = 1) (h : ∀ i : Nat, (i : Int) < 128 * sv.toInt + b.toInt → hI S nx i = 1) (hk : (k : Int) = 128 * sv.toInt + b.toInt) : ∀ i : Nat, (i : Int) < 128 * sv.toInt + (b + 1).toInt → hI (pq_uI S nx (upd (hI S nx) k y)) nx i = 1 := by
  intro i hi
  have e0 : hI (pq_uI S nx (upd (hI S nx) k y)) nx = upd (hI S nx) k y := by
    show va_up S.2.2.2.1 nx _ nx = _
    rw [va_up_self]
  rw [e0]
  by_cases e : i = k
  · rw [e, pk_us]; exact ey
  · rw [pk_un e]; exact h i (by omega)
set_option maxHeartbeats 4000000 in
set_option maxRecDepth 100000 in
theorem k_X11_buildF (l : Launch) (D : va_G) (cy : Nat → ClassId) (S : HS) (a : Nat) (ha : pq_R S a 14) (ao aa se lb nx st sk bt hd ac : Nat) (xs : Int32) (f4 : hO S a 4 = .ref ao) (hao : pq_R S ao 120) (f5 : hO S a 5 = .ref aa) (haa : pq_R S aa 121) (f17 : hO S a 17 = .ref se) (hse : pq_R S se 182) (f18 : hO S a 18 = .ref lb) (hlb : pq_R S lb 125) (f19 : hO S a 19 = .ref nx) (hnx : pq_R S nx 126) (f21 : hO S a 21 = .ref st) (hst : pq_R S st 127) (f22 : hO S a 22 = .ref sk) (hsk : pq_R S sk 128) (f28 : hO S a 28 = .ref bt) (hbt : pq_R S bt 183) (f29 : hO S a 29 = .ref hd) (hhd : pq_R S hd 131) (f30 : hO S a 30 = .ref ac) (hac : pq_R S ac 132) (f6 : hO S a 6 = .int 1) (f9 : hO S a 9 = .int 0) (f23 : hO S a 23 = .int xs) (hx0 : 0 ≤ xs.toInt) (hx1 : xs.toInt ≤ 1000) (ho : hI S ao 0 = 3) (hag : hI S aa 0 = 0) (hs0 : (hI S st 0).toInt ≤ xs.toInt) : pq_C l D cy yX11_build cX11_build 6 (some .boolean) 3 0 0 S [.ref a] (fun v S2 => pq_Fr [(131, 0), (14, 20), (182, 0), (132, 0), (14, 23), (14, 24), (127, 0), (128, 0), (14, 26), (14, 31), (125, 0), (126, 0), (183, 0)] S S2 ∧ ∃ x : Int32, v = some (.int x) ∧ 0 ≤ x.toInt ∧ x.toInt ≤ 1 ∧ (x = 1 ∧ hO S2 a 20 = .int 2 ∧ hO S2 a 31 = .int 1 ∧ (hI S2 lb 0 = -1 ∧ hI S2 lb 1 = -1) ∧ (∀ i : Nat, i < 256 → hI S2 nx i = 1) ∧ hO S2 a 23 = .int (xs + 1 + 1) ∧ hI S2 st 0 = xs + 1)) := by
  refine pq_start (by decide) (Nat.le_of_ble_eq_true rfl) ?_
  intro p e s m args below meth c A F hr hlk hnm hA
  have lqm1 : (-1 : Int32).toInt = -1 := rfl
  have lq0 : (0 : Int32).toInt = 0 := rfl
  have lq1 : (1 : Int32).toInt = 1 := rfl
  have lq2 : (2 : Int32).toInt = 2 := rfl
  have lq7 : (7 : Int32).toInt = 7 := rfl
  have lq64 : (64 : Int32).toInt = 64 := rfl
  have lq128 : (128 : Int32).toInt = 128 := rfl
  have lq1024 : (1024 : Int32).toInt = 1024 := rfl
  have L196 : ∀ (S4 : HS) (sv bs b : Int32) (K : ∀ (S2 : HS) (hF2 : pq_Fr [(131, 0), (14, 20), (182, 0), (132, 0), (14, 23), (14, 24), (127, 0), (128, 0), (14, 26), (14, 31), (125, 0), (126, 0), (183, 0)] S S2) (hE2 : pq_Fr [(183, 0)] S4 S2) (hz2 : ∀ i, i < 7 → hJ S2 bt i = 0), pq_At p l e (pq_rm 3 0 0) s m args below meth c (pq_Z below args s D cy S 0 0 (fun v S2 => pq_Fr [(131, 0), (14, 20), (182, 0), (132, 0), (14, 23), (14, 24), (127, 0), (128, 0), (14, 26), (14, 31), (125, 0), (126, 0), (183, 0)] S S2 ∧ ∃ x : Int32, v = some (.int x) ∧ 0 ≤ x.toInt ∧ x.toInt ≤ 1 ∧ (x = 1 ∧ hO S2 a 20 = .int 2 ∧ hO S2 a 31 = .int 1 ∧ (hI S2 lb 0 = -1 ∧ hI S2 lb 1 = -1) ∧ (∀ i : Nat, i < 256 → hI S2 nx i = 1) ∧ hO S2 a 23 = .int (xs + 1 + 1) ∧ hI S2 st 0 = xs + 1))) D cy A 6 0 0 217 S2 [some (.ref a), some (.int sv), some (.int bs), some (.int b), none, none] []) (fu : Nat) (S1 : HS) (q : Int32)  (hF : pq_Fr [(131, 0), (14, 20), (182, 0), (132, 0), (14, 23), (14, 24), (127, 0), (128, 0), (14, 26), (14, 31), (125, 0), (126, 0), (183, 0)] S S1) (hE : pq_Fr [(183, 0)] S4 S1) (hzq : ∀ i, i < q.toNatClampNeg → hJ S1 bt i = 0) (hq0 : 0 ≤ q.toInt) (hq1 : q.toInt ≤ 7), (7 - q.toInt).toNat < fu → pq_At p l e (pq_rm 3 0 0) s m args below meth c (pq_Z below args s D cy S 0 0 (fun v S2 => pq_Fr [(131, 0), (14, 20), (182, 0), (132, 0), (14, 23), (14, 24), (127, 0), (128, 0), (14, 26), (14, 31), (125, 0), (126, 0), (183, 0)] S S2 ∧ ∃ x : Int32, v = some (.int x) ∧ 0 ≤ x.toInt ∧ x.toInt ≤ 1 ∧ (x = 1 ∧ hO S2 a 20 = .int 2 ∧ hO S2 a 31 = .int 1 ∧ (hI S2 lb 0 = -1 ∧ hI S2 lb 1 = -1) ∧ (∀ i : Nat, i < 256 → hI S2 nx i = 1) ∧ hO S2 a 23 = .int (xs + 1 + 1) ∧ hI S2 st 0 = xs + 1))) D cy A 6 0 0 196 S1 [some (.ref a), some (.int sv), some (.int bs), some (.int b), some (.int q), none] [] := by
    intro S4 sv bs b K fu
    induction fu with
    | zero => intro S1 q hF hE hzq hq0 hq1 hm; exact absurd hm (Nat.not_lt_zero _)
    | succ fu ih =>
      intro S1 q hF hE hzq hq0 hq1 hm
      have haL := hF.R ha (by first | decide | omega)
      have f28L := hF.O ha (by decide) (by decide) f28
      have hbtL := hF.R hbt (by decide)
      refine pq_iload F dX11_build_196 rfl ?_
      refine pq_bipush (v := 7) F dX11_build_198 (by decide) ?_
      refine pq_icmp_ge (tgt := 217) F dX11_build_200 (by decide) (fun c200 => ?_) (fun c200 => ?_)
      · skip
        exact pq_fgm [true, true, true, true, false, false] (K _ hF hE (fun i hi => hzq i (by have z2 := pq_cl hq0; focus ((try clear ho); (try clear hag); (try clear hs0); (try clear hz); (try clear hzq); (try clear hz5); (try clear hph); (try clear hn1); (try clear K); (try clear ih); (try clear L39); (try clear L186); (try clear L196); (try clear L68); (try clear hG); (try clear hE); (try clear hE5); (try clear hfl); (try clear p5); (try clear qr); (try clear p302); (try clear hcs); (try clear b20); (try clear qse); (try clear qnx); (try clear bn); (try clear q5); (try clear q6); (try clear p77); (try clear p86); (try clear p147); (try clear hG6); simp only [vp_in_iff, Int32.lt_iff_toInt_lt, Int32.le_iff_toInt_le, ← Int32.toInt_inj, Int32.toInt_add, Int32.toInt_sub, Int32.toInt_mul, Int32.toInt_neg, pq_NuO, pq_NuI, pq_NuJ, pq_NuR, pq_shr6, pq_shr7, pq_shr8, lqm1, lq0, lq1, lq2, lq7, lq64, lq128, lq1024] at *; (try simp (disch := omega) only [pq_bm] at *); all_goals omega))))
      · skip
        refine pq_aload_n F dX11_build_203 rfl rfl ?_
        refine pq_get F haL (by decide) lk_X11_139 f28L dX11_build_204 ?_
        refine pq_iload F dX11_build_207 rfl ?_
        refine pq_lconst (v := 0) F dX11_build_209 (by decide) ?_
        refine pq_last F hbtL (by decide) (by decide) rfl (fun n1_210 n2_210 => (by focus ((try clear ho); (try clear hag); (try clear hs0); (try clear hz); (try clear hzq); (try clear hz5); (try clear hph); (try clear hn1); (try clear K); (try clear ih); (try clear L39); (try clear L186); (try clear L196); (try clear L68); (try clear hG); (try clear hE); (try clear hE5); (try clear hfl); (try clear p5); (try clear qr); (try clear p302); (try clear hcs); (try clear b20); (try clear qse); (try clear qnx); (try clear bn); (try clear q5); (try clear q6); (try clear p77); (try clear p86); (try clear p147); (try clear hG6); simp only [vp_in_iff, Int32.lt_iff_toInt_lt, Int32.le_iff_toInt_le, ← Int32.toInt_inj, Int32.toInt_add, Int32.toInt_sub, Int32.toInt_mul, Int32.toInt_neg, pq_NuO, pq_NuI, pq_NuJ, pq_NuR, pq_shr6, pq_shr7, pq_shr8, lqm1, lq0, lq1, lq2, lq7, lq64, lq128, lq1024] at *; (try simp (disch := omega) only [pq_bm] at *); all_goals omega))) dX11_build_210 ?_
        refine pq_iinc (v := 1) F dX11_build_211 rfl (by decide) (by decide) ?_
        refine pq_goto (tgt := 196) F dX11_build_214 (by decide) ?_
        exact pq_fgm [true, true, true, true, true, false] (ih _ _ (hF.uJ hbtL (by first | decide | exact List.mem_cons_self)) (hE.uJ hbtL (by decide)) (fun i hi => by have z2 := pq_cl hq0; have z3 := pq_cl (x := q + 1) (by focus ((try clear ho); (try clear hag); (try clear hs0); (try clear hz); (try clear hzq); (try clear hz5); (try clear hph); (try clear hn1); (try clear K); (try clear ih); (try clear L39); (try clear L186); (try clear L196); (try clear L68); (try clear hG); (try clear hE); (try clear hE5); (try clear hfl); (try clear p5); (try clear qr); (try clear p302); (try clear hcs); (try clear b20); (try clear qse); (try clear qnx); (try clear bn); (try clear q5); (try clear q6); (try clear p77); (try clear p86); (try clear p147); (try clear hG6); simp only [vp_in_iff, Int32.lt_iff_toInt_lt, Int32.le_iff_toInt_le, ← Int32.toInt_inj, Int32.toInt_add, Int32.toInt_sub, Int32.toInt_mul, Int32.toInt_neg, pq_NuO, pq_NuI, pq_NuJ, pq_NuR, pq_shr6, pq_shr7, pq_shr8, lqm1, lq0, lq1, lq2, lq7, lq64, lq128, lq1024] at *; (try simp (disch := omega) only [pq_bm] at *); all_goals omega)); simp only [pq_IuO, pq_IuJ, pq_Iu, pq_JuO, pq_JuI, pq_Ju, pq_RuO, pq_RuJ, pq_RuI, if_true, if_false]; by_cases e : i = q.toNatClampNeg; (rw [e, pf_ulS]); (rw [pf_ulN e]; exact hzq i (by clear hzq; focus ((try clear ho); (try clear hag); (try clear hs0); (try clear hz); (try clear hzq); (try clear hz5); (try clear hph); (try clear hn1); (try clear K); (try clear ih); (try clear L39); (try clear L186); (try clear L196); (try clear L68); (try clear hG); (try clear hE); (try clear hE5); (try clear hfl); (try clear p5); (try clear qr); (try clear p302); (try clear hcs); (try clear b20); (try clear qse); (try clear qnx); (try clear bn); (try clear q5); (try clear q6); (try clear p77); (try clear p86); (try clear p147); (try clear hG6); simp only [vp_in_iff, Int32.lt_iff_toInt_lt, Int32.le_iff_toInt_le, ← Int32.toInt_inj, Int32.toInt_add, Int32.toInt_sub, Int32.toInt_mul, Int32.toInt_neg, pq_NuO, pq_NuI, pq_NuJ, pq_NuR, pq_shr6, pq_shr7, pq_shr8, lqm1, lq0, lq1, lq2, lq7, lq64, lq128, lq1024] at *; (try simp (disch := omega) only [pq_bm] at *); all_goals omega)))) (by focus ((try clear ho); (try clear hag); (try clear hs0); (try clear hz); (try clear hzq); (try clear hz5); (try clear hph); (try clear hn1); (try clear K); (try clear ih); (try clear L39); (try clear L186); (try clear L196); (try clear L68); (try clear hG); (try clear hE); (try clear hE5); (try clear hfl); (try clear p5); (try clear qr); (try clear p302); (try clear hcs); (try clear b20); (try clear qse); (try clear qnx); (try clear bn); (try clear q5); (try clear q6); (try clear p77); (try clear p86); (try clear p147); (try clear hG6); simp only [vp_in_iff, Int32.lt_iff_toInt_lt, Int32.le_iff_toInt_le, ← Int32.toInt_inj, Int32.toInt_add, Int32.toInt_sub, Int32.toInt_mul, Int32.toInt_neg, pq_NuO, pq_NuI, pq_NuJ, pq_NuR, pq_shr6, pq_shr7, pq_shr8, lqm1, lq0, lq1, lq2, lq7, lq64, lq128, lq1024] at *; (try simp (disch := omega) only [pq_bm] at *); all_goals omega)) (by focus ((try clear ho); (try clear hag); (try clear hs0); (try clear hz); (try clear hzq); (try clear hz5); (try clear hph); (try clear hn1); (try clear K); (try clear ih); (try clear L39); (try clear L186); (try clear L196); (try clear L68); (try clear hG); (try clear hE); (try clear hE5); (try clear hfl); (try clear p5); (try clear qr); (try clear p302); (try clear hcs); (try clear b20); (try clear qse); (try clear qnx); (try clear bn); (try clear q5); (try clear q6); (try clear p77); (try clear p86); (try clear p147); (try clear hG6); simp only [vp_in_iff, Int32.lt_iff_toInt_lt, Int32.le_iff_toInt_le, ← Int32.toInt_inj, Int32.toInt_add, Int32.toInt_sub, Int32.toInt_mul, Int32.toInt_neg, pq_NuO, pq_NuI, pq_NuJ, pq_NuR, pq_shr6, pq_shr7, pq_shr8, lqm1, lq0, lq1, lq2, lq7, lq64, lq128, lq1024] at *; (try simp (disch := omega) only [pq_bm] at *); all_goals omega)) (by focus ((try clear ho); (try clear hag); (try clear hs0); (try clear hz); (try clear hzq); (try clear hz5); (try clear hph); (try clear hn1); (try clear K); (try clear ih); (try clear L39); (try clear L186); (try clear L196); (try clear L68); (try clear hG); (try clear hE); (try clear hE5); (try clear hfl); (try clear p5); (try clear qr); (try clear p302); (try clear hcs); (try clear b20); (try clear qse); (try clear qnx); (try clear bn); (try clear q5); (try clear q6); (try clear p77); (try clear p86); (try clear p147); (try clear hG6); simp only [vp_in_iff, Int32.lt_iff_toInt_lt, Int32.le_iff_toInt_le, ← Int32.toInt_inj, Int32.toInt_add, Int32.toInt_sub, Int32.toInt_mul, Int32.toInt_neg, pq_NuO, pq_NuI, pq_NuJ, pq_NuR, pq_shr6, pq_shr7, pq_shr8, lqm1, lq0, lq1, lq2, lq7, lq64, lq128, lq1024] at *; (try simp (disch := omega) only [pq_bm] at *); all_goals omega)))
  have L186 : ∀ (S3 : HS) (sv bs : Int32) (g3a : pq_R S3 a 14) (g26 : hO S3 a 26 = .int 0) (hsv : sv = 0 ∨ sv = 1) (K : ∀ (S2 : HS) (hF2 : pq_Fr [(131, 0), (14, 20), (182, 0), (132, 0), (14, 23), (14, 24), (127, 0), (128, 0), (14, 26), (14, 31), (125, 0), (126, 0), (183, 0)] S S2) (hG2 : pq_Fr [(183, 0), (126, 0), (182, 0), (132, 0), (131, 0), (14, 20)] S3 S2) (q3 : hO S2 a 20 = .int 2) (q4 : hI S2 hd pf_h0 = 1) (q5 : ∀ i, i < 7 → hJ S2 se (7 + i) = 0) (q6 : ∀ i : Nat, (i : Int) < 128 * sv.toInt + 128 → hI S2 nx i = 1), pq_At p l e (pq_rm 3 0 0) s m args below meth c (pq_Z below args s D cy S 0 0 (fun v S2 => pq_Fr [(131, 0), (14, 20), (182, 0), (132, 0), (14, 23), (14, 24), (127, 0), (128, 0), (14, 26), (14, 31), (125, 0), (126, 0), (183, 0)] S S2 ∧ ∃ x : Int32, v = some (.int x) ∧ 0 ≤ x.toInt ∧ x.toInt ≤ 1 ∧ (x = 1 ∧ hO S2 a 20 = .int 2 ∧ hO S2 a 31 = .int 1 ∧ (hI S2 lb 0 = -1 ∧ hI S2 lb 1 = -1) ∧ (∀ i : Nat, i < 256 → hI S2 nx i = 1) ∧ hO S2 a 23 = .int (xs + 1 + 1) ∧ hI S2 st 0 = xs + 1))) D cy A 6 0 0 335 S2 [some (.ref a), some (.int sv), none, none, none, none] []) (fu : Nat) (S1 : HS) (b : Int32)  (hF : pq_Fr [(131, 0), (14, 20), (182, 0), (132, 0), (14, 23), (14, 24), (127, 0), (128, 0), (14, 26), (14, 31), (125, 0), (126, 0), (183, 0)] S S1) (hG : pq_Fr [(183, 0), (126, 0), (182, 0), (132, 0), (131, 0), (14, 20)] S3 S1) (hph : ((sv = 0 ∧ b = 0 ∧ hO S1 a 20 = .int 1 ∧ hI S1 hd pf_h0 = -1) ∨ (hO S1 a 20 = .int 2 ∧ hI S1 hd pf_h0 = 1 ∧ ∀ i, i < 7 → hJ S1 se (7 + i) = 0))) (hn1 : (∀ i : Nat, (i : Int) < 128 * sv.toInt + b.toInt → hI S1 nx i = 1)) (hb0 : 0 ≤ b.toInt) (hb1 : b.toInt ≤ 128), (128 - b.toInt).toNat < fu → pq_At p l e (pq_rm 3 0 0) s m args below meth c (pq_Z below args s D cy S 0 0 (fun v S2 => pq_Fr [(131, 0), (14, 20), (182, 0), (132, 0), (14, 23), (14, 24), (127, 0), (128, 0), (14, 26), (14, 31), (125, 0), (126, 0), (183, 0)] S S2 ∧ ∃ x : Int32, v = some (.int x) ∧ 0 ≤ x.toInt ∧ x.toInt ≤ 1 ∧ (x = 1 ∧ hO S2 a 20 = .int 2 ∧ hO S2 a 31 = .int 1 ∧ (hI S2 lb 0 = -1 ∧ hI S2 lb 1 = -1) ∧ (∀ i : Nat, i < 256 → hI S2 nx i = 1) ∧ hO S2 a 23 = .int (xs + 1 + 1) ∧ hI S2 st 0 = xs + 1))) D cy A 6 0 0 186 S1 [some (.ref a), some (.int sv), some (.int bs), some (.int b), none, none] [] := by
    intro S3 sv bs g3a g26 hsv K fu
    induction fu with
    | zero => intro S1 b hF hG hph hn1 hb0 hb1 hm; exact absurd hm (Nat.not_lt_zero _)
    | succ fu ih =>
      intro S1 b hF hG hph hn1 hb0 hb1 hm
      have haL := hF.R ha (by first | decide | omega)
      have f17L := hF.O ha (by decide) (by decide) f17
      have hseL := hF.R hse (by decide)
      have f19L := hF.O ha (by decide) (by decide) f19
      have hnxL := hF.R hnx (by decide)
      have f28L := hF.O ha (by decide) (by decide) f28
      have hbtL := hF.R hbt (by decide)
      have f29L := hF.O ha (by decide) (by decide) f29
      have hhdL := hF.R hhd (by decide)
      have f30L := hF.O ha (by decide) (by decide) f30
      have hacL := hF.R hac (by decide)
      have g26L := hG.O g3a (by decide) (by decide) g26
      have sb : 0 ≤ sv.toInt ∧ sv.toInt ≤ 1 := (by rcases hsv with e | e <;> rw [e] <;> decide)
      have nhn := pq_nrole hhdL hnxL (by decide)
      refine pq_iload_n F dX11_build_186 rfl rfl ?_
      refine pq_sipush (v := 128) F dX11_build_187 (by decide) ?_
      refine pq_icmp_ge (tgt := 335) F dX11_build_190 (by decide) (fun c190 => ?_) (fun c190 => ?_)
      · skip
        rcases hph with ⟨-, z, -, -⟩ | ⟨p3, p4, p5⟩; (exact False.elim (by rw [z] at c190; exact absurd c190 (by decide))); exact pq_fgm [true, true, false, false, false, false] (K _ hF hG p3 p4 p5 (fun i hi => hn1 i (by focus ((try clear ho); (try clear hag); (try clear hs0); (try clear hz); (try clear hzq); (try clear hz5); (try clear hph); (try clear hn1); (try clear K); (try clear ih); (try clear L39); (try clear L186); (try clear L196); (try clear L68); (try clear hG); (try clear hE); (try clear hE5); (try clear hfl); (try clear p5); (try clear qr); (try clear p302); (try clear hcs); (try clear b20); (try clear qse); (try clear qnx); (try clear bn); (try clear q5); (try clear q6); (try clear p77); (try clear p86); (try clear p147); (try clear hG6); simp only [vp_in_iff, Int32.lt_iff_toInt_lt, Int32.le_iff_toInt_le, ← Int32.toInt_inj, Int32.toInt_add, Int32.toInt_sub, Int32.toInt_mul, Int32.toInt_neg, pq_NuO, pq_NuI, pq_NuJ, pq_NuR, pq_shr6, pq_shr7, pq_shr8, lqm1, lq0, lq1, lq2, lq7, lq64, lq128, lq1024] at *; (try simp (disch := omega) only [pq_bm] at *); all_goals omega))))
      · skip
        refine pq_iconst (v := 0) F dX11_build_193 (by decide) ?_
        refine pq_istore F dX11_build_194 (by decide) ?_
        refine pq_fgm [true, true, true, true, true, false] (L196 S1 _ _ _ (fun S5 hF5 hE5 hz5 => ?_) 100 _ 0 hF pq_Fr.rf (fun i hi => absurd hi (Nat.not_lt_zero _)) (by focus ((try clear ho); (try clear hag); (try clear hs0); (try clear hz); (try clear hzq); (try clear hz5); (try clear hph); (try clear hn1); (try clear K); (try clear ih); (try clear L39); (try clear L186); (try clear L196); (try clear L68); (try clear hG); (try clear hE); (try clear hE5); (try clear hfl); (try clear p5); (try clear qr); (try clear p302); (try clear hcs); (try clear b20); (try clear qse); (try clear qnx); (try clear bn); (try clear q5); (try clear q6); (try clear p77); (try clear p86); (try clear p147); (try clear hG6); simp only [vp_in_iff, Int32.lt_iff_toInt_lt, Int32.le_iff_toInt_le, ← Int32.toInt_inj, Int32.toInt_add, Int32.toInt_sub, Int32.toInt_mul, Int32.toInt_neg, pq_NuO, pq_NuI, pq_NuJ, pq_NuR, pq_shr6, pq_shr7, pq_shr8, lqm1, lq0, lq1, lq2, lq7, lq64, lq128, lq1024] at *; (try simp (disch := omega) only [pq_bm] at *); all_goals omega)) (by focus ((try clear ho); (try clear hag); (try clear hs0); (try clear hz); (try clear hzq); (try clear hz5); (try clear hph); (try clear hn1); (try clear K); (try clear ih); (try clear L39); (try clear L186); (try clear L196); (try clear L68); (try clear hG); (try clear hE); (try clear hE5); (try clear hfl); (try clear p5); (try clear qr); (try clear p302); (try clear hcs); (try clear b20); (try clear qse); (try clear qnx); (try clear bn); (try clear q5); (try clear q6); (try clear p77); (try clear p86); (try clear p147); (try clear hG6); simp only [vp_in_iff, Int32.lt_iff_toInt_lt, Int32.le_iff_toInt_le, ← Int32.toInt_inj, Int32.toInt_add, Int32.toInt_sub, Int32.toInt_mul, Int32.toInt_neg, pq_NuO, pq_NuI, pq_NuJ, pq_NuR, pq_shr6, pq_shr7, pq_shr8, lqm1, lq0, lq1, lq2, lq7, lq64, lq128, lq1024] at *; (try simp (disch := omega) only [pq_bm] at *); all_goals omega)) (by focus ((try clear ho); (try clear hag); (try clear hs0); (try clear hz); (try clear hzq); (try clear hz5); (try clear hph); (try clear hn1); (try clear K); (try clear ih); (try clear L39); (try clear L186); (try clear L196); (try clear L68); (try clear hG); (try clear hE); (try clear hE5); (try clear hfl); (try clear p5); (try clear qr); (try clear p302); (try clear hcs); (try clear b20); (try clear qse); (try clear qnx); (try clear bn); (try clear q5); (try clear q6); (try clear p77); (try clear p86); (try clear p147); (try clear hG6); simp only [vp_in_iff, Int32.lt_iff_toInt_lt, Int32.le_iff_toInt_le, ← Int32.toInt_inj, Int32.toInt_add, Int32.toInt_sub, Int32.toInt_mul, Int32.toInt_neg, pq_NuO, pq_NuI, pq_NuJ, pq_NuR, pq_shr6, pq_shr7, pq_shr8, lqm1, lq0, lq1, lq2, lq7, lq64, lq128, lq1024] at *; (try simp (disch := omega) only [pq_bm] at *); all_goals omega)))
        have ha5 := hF5.R ha (by decide)
        have f17v := hF5.O ha (by decide) (by decide) f17
        have hsev := hF5.R hse (by decide)
        have f19v := hF5.O ha (by decide) (by decide) f19
        have hnxv := hF5.R hnx (by decide)
        have f28v := hF5.O ha (by decide) (by decide) f28
        have hbtv := hF5.R hbt (by decide)
        have f29v := hF5.O ha (by decide) (by decide) f29
        have hhdv := hF5.R hhd (by decide)
        have f30v := hF5.O ha (by decide) (by decide) f30
        have hacv := hF5.R hac (by decide)
        have g26v := hE5.O haL (by decide) (by decide) g26L
        refine pq_iconst (v := 0) F dX11_build_217 (by decide) ?_
        refine pq_istore F dX11_build_218 (by decide) ?_
        refine pq_iload F dX11_build_220 rfl ?_
        refine pq_aload_n F dX11_build_222 rfl rfl ?_
        refine pq_get F ha5 (by decide) lk_X11_127 g26v dX11_build_223 ?_
        refine pq_icmp_ge (tgt := 301) F dX11_build_226 (by decide) (fun c226 => ?_) (fun c226 => ?_)
        · skip
          rcases hph with ⟨p1, p2, p3, p4⟩ | ⟨p3, p4, p5⟩
          · skip
            refine pq_aload_n F dX11_build_301 rfl rfl ?_
            refine pq_callV (As := []) F (k_X11_stateN l D cy _ _ ?_ se bt f17v hsev f28v hbtv hd ac f29v hhdv f30v hacv hz5 (hE5.O haL (by decide) (by decide) p3) (by rw [hE5.I hhdL (by decide) (by decide)]; exact p4)) ml_X11_178 ha5 (by decide) rfl (Nat.le_of_ble_eq_true rfl) ⟨Nat.le_of_ble_eq_true rfl, Nat.le_of_ble_eq_true rfl⟩ ⟨by decide, by decide⟩ dX11_build_302 (fun v302 S302 w302 => ?_)
            · exact ha5
            obtain ⟨hF302, y302, rfl, p302⟩ := w302
            have ha5_302 := (hF302.1 _ _ ha5 (by decide)).1
            have hsev_302 := (hF302.1 _ _ hsev (by decide)).1
            have ec302_17_ha5_302 := hF302.O ha5 (by decide) (by decide) f17v
            have hnxv_302 := (hF302.1 _ _ hnxv (by decide)).1
            have ec302_19_ha5_302 := hF302.O ha5 (by decide) (by decide) f19v
            have hbtv_302 := (hF302.1 _ _ hbtv (by decide)).1
            have ec302_28_ha5_302 := hF302.O ha5 (by decide) (by decide) f28v
            have hhdv_302 := (hF302.1 _ _ hhdv (by decide)).1
            have ec302_29_ha5_302 := hF302.O ha5 (by decide) (by decide) f29v
            have hacv_302 := (hF302.1 _ _ hacv (by decide)).1
            have ec302_30_ha5_302 := hF302.O ha5 (by decide) (by decide) f30v
            have ec302_26_ha5_302 := hF302.O ha5 (by decide) (by decide) g26v
            obtain ⟨e1, q20, qh, qr⟩ := p302
            refine pq_istore F dX11_build_305 (by decide) ?_
            refine pq_iload F dX11_build_307 rfl ?_
            refine pq_iconst (v := -1) F dX11_build_309 (by decide) ?_
            refine pq_icmp_ne (tgt := 315) F dX11_build_310 (by decide) (fun c310 => ?_) (fun c310 => ?_)
            · skip
              refine pq_aload_n F dX11_build_315 rfl rfl ?_
              refine pq_get F ha5_302 (by decide) lk_X11_181 ec302_19_ha5_302 dX11_build_316 ?_
              refine pq_sipush (v := 128) F dX11_build_319 (by decide) ?_
              refine pq_iload_n F dX11_build_322 rfl rfl ?_
              refine pq_imul F dX11_build_323 ?_
              refine pq_iload_n F dX11_build_324 rfl rfl ?_
              refine pq_iadd F dX11_build_325 ?_
              refine pq_iload F dX11_build_326 rfl ?_
              refine pq_iast F hnxv_302 (by decide) (by decide) rfl (fun n1_328 n2_328 => (by focus ((try clear ho); (try clear hag); (try clear hs0); (try clear hz); (try clear hzq); (try clear hz5); (try clear hph); (try clear hn1); (try clear K); (try clear ih); (try clear L39); (try clear L186); (try clear L196); (try clear L68); (try clear hG); (try clear hE); (try clear hE5); (try clear hfl); (try clear p5); (try clear qr); (try clear p302); (try clear hcs); (try clear b20); (try clear qse); (try clear qnx); (try clear bn); (try clear q5); (try clear q6); (try clear p77); (try clear p86); (try clear p147); (try clear hG6); simp only [vp_in_iff, Int32.lt_iff_toInt_lt, Int32.le_iff_toInt_le, ← Int32.toInt_inj, Int32.toInt_add, Int32.toInt_sub, Int32.toInt_mul, Int32.toInt_neg, pq_NuO, pq_NuI, pq_NuJ, pq_NuR, pq_shr6, pq_shr7, pq_shr8, lqm1, lq0, lq1, lq2, lq7, lq64, lq128, lq1024] at *; (try simp (disch := omega) only [pq_bm] at *); all_goals omega))) (⟨(by focus ((try clear ho); (try clear hag); (try clear hs0); (try clear hz); (try clear hzq); (try clear hz5); (try clear hph); (try clear hn1); (try clear K); (try clear ih); (try clear L39); (try clear L186); (try clear L196); (try clear L68); (try clear hG); (try clear hE); (try clear hE5); (try clear hfl); (try clear p5); (try clear qr); (try clear p302); (try clear hcs); (try clear b20); (try clear qse); (try clear qnx); (try clear bn); (try clear q5); (try clear q6); (try clear p77); (try clear p86); (try clear p147); (try clear hG6); simp only [vp_in_iff, Int32.lt_iff_toInt_lt, Int32.le_iff_toInt_le, ← Int32.toInt_inj, Int32.toInt_add, Int32.toInt_sub, Int32.toInt_mul, Int32.toInt_neg, pq_NuO, pq_NuI, pq_NuJ, pq_NuR, pq_shr6, pq_shr7, pq_shr8, lqm1, lq0, lq1, lq2, lq7, lq64, lq128, lq1024] at *; (try simp (disch := omega) only [pq_bm] at *); all_goals omega)), (by focus ((try clear ho); (try clear hag); (try clear hs0); (try clear hz); (try clear hzq); (try clear hz5); (try clear hph); (try clear hn1); (try clear K); (try clear ih); (try clear L39); (try clear L186); (try clear L196); (try clear L68); (try clear hG); (try clear hE); (try clear hE5); (try clear hfl); (try clear p5); (try clear qr); (try clear p302); (try clear hcs); (try clear b20); (try clear qse); (try clear qnx); (try clear bn); (try clear q5); (try clear q6); (try clear p77); (try clear p86); (try clear p147); (try clear hG6); simp only [vp_in_iff, Int32.lt_iff_toInt_lt, Int32.le_iff_toInt_le, ← Int32.toInt_inj, Int32.toInt_add, Int32.toInt_sub, Int32.toInt_mul, Int32.toInt_neg, pq_NuO, pq_NuI, pq_NuJ, pq_NuR, pq_shr6, pq_shr7, pq_shr8, lqm1, lq0, lq1, lq2, lq7, lq64, lq128, lq1024] at *; (try simp (disch := omega) only [pq_bm] at *); all_goals omega))⟩) dX11_build_328 ?_
              refine pq_iinc (v := 1) F dX11_build_329 rfl (by decide) (by decide) ?_
              refine pq_goto (tgt := 186) F dX11_build_332 (by decide) ?_
              exact pq_fgm [true, true, true, true, false, false] (ih _ _ ((hF5.cm hF302 (by decide)).uI hnxv_302 (by first | decide | exact List.mem_cons_self)) (((hG.cm hE5 (by decide)).cm hF302 (by decide)).uI (hF302.R hnxv (by decide)) (by decide)) (Or.inr ⟨q20, (by simp only [pq_IuO, pq_IuJ, pq_Iu, pq_JuO, pq_JuI, pq_Ju, pq_RuO, pq_RuJ, pq_RuI, if_true, if_false, nhn]; exact qh), qr⟩) (by exact pf_nx (by focus ((try clear ho); (try clear hag); (try clear hs0); (try clear hz); (try clear hzq); (try clear hz5); (try clear hph); (try clear hn1); (try clear K); (try clear ih); (try clear L39); (try clear L186); (try clear L196); (try clear L68); (try clear hG); (try clear hE); (try clear hE5); (try clear hfl); (try clear p5); (try clear qr); (try clear p302); (try clear hcs); (try clear b20); (try clear qse); (try clear qnx); (try clear bn); (try clear q5); (try clear q6); (try clear p77); (try clear p86); (try clear p147); (try clear hG6); simp only [vp_in_iff, Int32.lt_iff_toInt_lt, Int32.le_iff_toInt_le, ← Int32.toInt_inj, Int32.toInt_add, Int32.toInt_sub, Int32.toInt_mul, Int32.toInt_neg, pq_NuO, pq_NuI, pq_NuJ, pq_NuR, pq_shr6, pq_shr7, pq_shr8, lqm1, lq0, lq1, lq2, lq7, lq64, lq128, lq1024] at *; (try simp (disch := omega) only [pq_bm] at *); all_goals omega)) e1 (fun i hi => (congrFun ((hF302.I hnxv (by decide) (by decide)).trans (hE5.I hnxL (by decide) (by decide))) i).trans (hn1 i hi)) (by have z := pq_cl (x := 128 * sv + b) (by focus ((try clear ho); (try clear hag); (try clear hs0); (try clear hz); (try clear hzq); (try clear hz5); (try clear hph); (try clear hn1); (try clear K); (try clear ih); (try clear L39); (try clear L186); (try clear L196); (try clear L68); (try clear hG); (try clear hE); (try clear hE5); (try clear hfl); (try clear p5); (try clear qr); (try clear p302); (try clear hcs); (try clear b20); (try clear qse); (try clear qnx); (try clear bn); (try clear q5); (try clear q6); (try clear p77); (try clear p86); (try clear p147); (try clear hG6); simp only [vp_in_iff, Int32.lt_iff_toInt_lt, Int32.le_iff_toInt_le, ← Int32.toInt_inj, Int32.toInt_add, Int32.toInt_sub, Int32.toInt_mul, Int32.toInt_neg, pq_NuO, pq_NuI, pq_NuJ, pq_NuR, pq_shr6, pq_shr7, pq_shr8, lqm1, lq0, lq1, lq2, lq7, lq64, lq128, lq1024] at *; (try simp (disch := omega) only [pq_bm] at *); all_goals omega)); focus ((try clear ho); (try clear hag); (try clear hs0); (try clear hz); (try clear hzq); (try clear hz5); (try clear hph); (try clear hn1); (try clear K); (try clear ih); (try clear L39); (try clear L186); (try clear L196); (try clear L68); (try clear hG); (try clear hE); (try clear hE5); (try clear hfl); (try clear p5); (try clear qr); (try clear p302); (try clear hcs); (try clear b20); (try clear qse); (try clear qnx); (try clear bn); (try clear q5); (try clear q6); (try clear p77); (try clear p86); (try clear p147); (try clear hG6); simp only [vp_in_iff, Int32.lt_iff_toInt_lt, Int32.le_iff_toInt_le, ← Int32.toInt_inj, Int32.toInt_add, Int32.toInt_sub, Int32.toInt_mul, Int32.toInt_neg, pq_NuO, pq_NuI, pq_NuJ, pq_NuR, pq_shr6, pq_shr7, pq_shr8, lqm1, lq0, lq1, lq2, lq7, lq64, lq128, lq1024] at *; (try simp (disch := omega) only [pq_bm] at *); all_goals omega))) (by focus ((try clear ho); (try clear hag); (try clear hs0); (try clear hz); (try clear hzq); (try clear hz5); (try clear hph); (try clear hn1); (try clear K); (try clear ih); (try clear L39); (try clear L186); (try clear L196); (try clear L68); (try clear hG); (try clear hE); (try clear hE5); (try clear hfl); (try clear p5); (try clear qr); (try clear p302); (try clear hcs); (try clear b20); (try clear qse); (try clear qnx); (try clear bn); (try clear q5); (try clear q6); (try clear p77); (try clear p86); (try clear p147); (try clear hG6); simp only [vp_in_iff, Int32.lt_iff_toInt_lt, Int32.le_iff_toInt_le, ← Int32.toInt_inj, Int32.toInt_add, Int32.toInt_sub, Int32.toInt_mul, Int32.toInt_neg, pq_NuO, pq_NuI, pq_NuJ, pq_NuR, pq_shr6, pq_shr7, pq_shr8, lqm1, lq0, lq1, lq2, lq7, lq64, lq128, lq1024] at *; (try simp (disch := omega) only [pq_bm] at *); all_goals omega)) (by focus ((try clear ho); (try clear hag); (try clear hs0); (try clear hz); (try clear hzq); (try clear hz5); (try clear hph); (try clear hn1); (try clear K); (try clear ih); (try clear L39); (try clear L186); (try clear L196); (try clear L68); (try clear hG); (try clear hE); (try clear hE5); (try clear hfl); (try clear p5); (try clear qr); (try clear p302); (try clear hcs); (try clear b20); (try clear qse); (try clear qnx); (try clear bn); (try clear q5); (try clear q6); (try clear p77); (try clear p86); (try clear p147); (try clear hG6); simp only [vp_in_iff, Int32.lt_iff_toInt_lt, Int32.le_iff_toInt_le, ← Int32.toInt_inj, Int32.toInt_add, Int32.toInt_sub, Int32.toInt_mul, Int32.toInt_neg, pq_NuO, pq_NuI, pq_NuJ, pq_NuR, pq_shr6, pq_shr7, pq_shr8, lqm1, lq0, lq1, lq2, lq7, lq64, lq128, lq1024] at *; (try simp (disch := omega) only [pq_bm] at *); all_goals omega)) (by focus ((try clear ho); (try clear hag); (try clear hs0); (try clear hz); (try clear hzq); (try clear hz5); (try clear hph); (try clear hn1); (try clear K); (try clear ih); (try clear L39); (try clear L186); (try clear L196); (try clear L68); (try clear hG); (try clear hE); (try clear hE5); (try clear hfl); (try clear p5); (try clear qr); (try clear p302); (try clear hcs); (try clear b20); (try clear qse); (try clear qnx); (try clear bn); (try clear q5); (try clear q6); (try clear p77); (try clear p86); (try clear p147); (try clear hG6); simp only [vp_in_iff, Int32.lt_iff_toInt_lt, Int32.le_iff_toInt_le, ← Int32.toInt_inj, Int32.toInt_add, Int32.toInt_sub, Int32.toInt_mul, Int32.toInt_neg, pq_NuO, pq_NuI, pq_NuJ, pq_NuR, pq_shr6, pq_shr7, pq_shr8, lqm1, lq0, lq1, lq2, lq7, lq64, lq128, lq1024] at *; (try simp (disch := omega) only [pq_bm] at *); all_goals omega)))
            · exact absurd (c310.symm.trans e1) (by decide)
          · skip
            refine pq_aload_n F dX11_build_301 rfl rfl ?_
            refine pq_callV (As := []) F (k_X11_stateO l D cy _ _ ?_ se bt f17v hsev f28v hbtv hd ac f29v hhdv f30v hacv hz5 (by rw [hE5.I hhdL (by decide) (by decide)]; exact p4) (fun i hi => (congrFun (hE5.2.2 se 182 hseL (by decide) (by decide)).2.1 _).trans (p5 i hi))) ml_X11_178 ha5 (by decide) rfl (Nat.le_of_ble_eq_true rfl) ⟨Nat.le_of_ble_eq_true rfl, Nat.le_of_ble_eq_true rfl⟩ ⟨by decide, by decide⟩ dX11_build_302 (fun v302 S302 w302 => ?_)
            · exact ha5
            obtain ⟨u302, y302, rfl, p302⟩ := w302
            rw [u302]
            try rw [u302] at p302
            have e1 := p302
            refine pq_istore F dX11_build_305 (by decide) ?_
            refine pq_iload F dX11_build_307 rfl ?_
            refine pq_iconst (v := -1) F dX11_build_309 (by decide) ?_
            refine pq_icmp_ne (tgt := 315) F dX11_build_310 (by decide) (fun c310 => ?_) (fun c310 => ?_)
            · skip
              refine pq_aload_n F dX11_build_315 rfl rfl ?_
              refine pq_get F ha5 (by decide) lk_X11_181 f19v dX11_build_316 ?_
              refine pq_sipush (v := 128) F dX11_build_319 (by decide) ?_
              refine pq_iload_n F dX11_build_322 rfl rfl ?_
              refine pq_imul F dX11_build_323 ?_
              refine pq_iload_n F dX11_build_324 rfl rfl ?_
              refine pq_iadd F dX11_build_325 ?_
              refine pq_iload F dX11_build_326 rfl ?_
              refine pq_iast F hnxv (by decide) (by decide) rfl (fun n1_328 n2_328 => (by focus ((try clear ho); (try clear hag); (try clear hs0); (try clear hz); (try clear hzq); (try clear hz5); (try clear hph); (try clear hn1); (try clear K); (try clear ih); (try clear L39); (try clear L186); (try clear L196); (try clear L68); (try clear hG); (try clear hE); (try clear hE5); (try clear hfl); (try clear p5); (try clear qr); (try clear p302); (try clear hcs); (try clear b20); (try clear qse); (try clear qnx); (try clear bn); (try clear q5); (try clear q6); (try clear p77); (try clear p86); (try clear p147); (try clear hG6); simp only [vp_in_iff, Int32.lt_iff_toInt_lt, Int32.le_iff_toInt_le, ← Int32.toInt_inj, Int32.toInt_add, Int32.toInt_sub, Int32.toInt_mul, Int32.toInt_neg, pq_NuO, pq_NuI, pq_NuJ, pq_NuR, pq_shr6, pq_shr7, pq_shr8, lqm1, lq0, lq1, lq2, lq7, lq64, lq128, lq1024] at *; (try simp (disch := omega) only [pq_bm] at *); all_goals omega))) (⟨(by focus ((try clear ho); (try clear hag); (try clear hs0); (try clear hz); (try clear hzq); (try clear hz5); (try clear hph); (try clear hn1); (try clear K); (try clear ih); (try clear L39); (try clear L186); (try clear L196); (try clear L68); (try clear hG); (try clear hE); (try clear hE5); (try clear hfl); (try clear p5); (try clear qr); (try clear p302); (try clear hcs); (try clear b20); (try clear qse); (try clear qnx); (try clear bn); (try clear q5); (try clear q6); (try clear p77); (try clear p86); (try clear p147); (try clear hG6); simp only [vp_in_iff, Int32.lt_iff_toInt_lt, Int32.le_iff_toInt_le, ← Int32.toInt_inj, Int32.toInt_add, Int32.toInt_sub, Int32.toInt_mul, Int32.toInt_neg, pq_NuO, pq_NuI, pq_NuJ, pq_NuR, pq_shr6, pq_shr7, pq_shr8, lqm1, lq0, lq1, lq2, lq7, lq64, lq128, lq1024] at *; (try simp (disch := omega) only [pq_bm] at *); all_goals omega)), (by focus ((try clear ho); (try clear hag); (try clear hs0); (try clear hz); (try clear hzq); (try clear hz5); (try clear hph); (try clear hn1); (try clear K); (try clear ih); (try clear L39); (try clear L186); (try clear L196); (try clear L68); (try clear hG); (try clear hE); (try clear hE5); (try clear hfl); (try clear p5); (try clear qr); (try clear p302); (try clear hcs); (try clear b20); (try clear qse); (try clear qnx); (try clear bn); (try clear q5); (try clear q6); (try clear p77); (try clear p86); (try clear p147); (try clear hG6); simp only [vp_in_iff, Int32.lt_iff_toInt_lt, Int32.le_iff_toInt_le, ← Int32.toInt_inj, Int32.toInt_add, Int32.toInt_sub, Int32.toInt_mul, Int32.toInt_neg, pq_NuO, pq_NuI, pq_NuJ, pq_NuR, pq_shr6, pq_shr7, pq_shr8, lqm1, lq0, lq1, lq2, lq7, lq64, lq128, lq1024] at *; (try simp (disch := omega) only [pq_bm] at *); all_goals omega))⟩) dX11_build_328 ?_
              refine pq_iinc (v := 1) F dX11_build_329 rfl (by decide) (by decide) ?_
              refine pq_goto (tgt := 186) F dX11_build_332 (by decide) ?_
              exact pq_fgm [true, true, true, true, false, false] (ih _ _ (hF5.uI hnxv (by first | decide | exact List.mem_cons_self)) ((hG.cm hE5 (by decide)).uI hnxv (by decide)) (Or.inr ⟨hE5.O haL (by decide) (by decide) p3, (by simp only [pq_IuO, pq_IuJ, pq_Iu, pq_JuO, pq_JuI, pq_Ju, pq_RuO, pq_RuJ, pq_RuI, if_true, if_false, nhn]; rw [hE5.I hhdL (by decide) (by decide)]; exact p4), fun i hi => (congrFun (hE5.2.2 se 182 hseL (by decide) (by decide)).2.1 _).trans (p5 i hi)⟩) (by exact pf_nx (by focus ((try clear ho); (try clear hag); (try clear hs0); (try clear hz); (try clear hzq); (try clear hz5); (try clear hph); (try clear hn1); (try clear K); (try clear ih); (try clear L39); (try clear L186); (try clear L196); (try clear L68); (try clear hG); (try clear hE); (try clear hE5); (try clear hfl); (try clear p5); (try clear qr); (try clear p302); (try clear hcs); (try clear b20); (try clear qse); (try clear qnx); (try clear bn); (try clear q5); (try clear q6); (try clear p77); (try clear p86); (try clear p147); (try clear hG6); simp only [vp_in_iff, Int32.lt_iff_toInt_lt, Int32.le_iff_toInt_le, ← Int32.toInt_inj, Int32.toInt_add, Int32.toInt_sub, Int32.toInt_mul, Int32.toInt_neg, pq_NuO, pq_NuI, pq_NuJ, pq_NuR, pq_shr6, pq_shr7, pq_shr8, lqm1, lq0, lq1, lq2, lq7, lq64, lq128, lq1024] at *; (try simp (disch := omega) only [pq_bm] at *); all_goals omega)) e1 (fun i hi => (congrFun (hE5.I hnxL (by decide) (by decide)) i).trans (hn1 i hi)) (by have z := pq_cl (x := 128 * sv + b) (by focus ((try clear ho); (try clear hag); (try clear hs0); (try clear hz); (try clear hzq); (try clear hz5); (try clear hph); (try clear hn1); (try clear K); (try clear ih); (try clear L39); (try clear L186); (try clear L196); (try clear L68); (try clear hG); (try clear hE); (try clear hE5); (try clear hfl); (try clear p5); (try clear qr); (try clear p302); (try clear hcs); (try clear b20); (try clear qse); (try clear qnx); (try clear bn); (try clear q5); (try clear q6); (try clear p77); (try clear p86); (try clear p147); (try clear hG6); simp only [vp_in_iff, Int32.lt_iff_toInt_lt, Int32.le_iff_toInt_le, ← Int32.toInt_inj, Int32.toInt_add, Int32.toInt_sub, Int32.toInt_mul, Int32.toInt_neg, pq_NuO, pq_NuI, pq_NuJ, pq_NuR, pq_shr6, pq_shr7, pq_shr8, lqm1, lq0, lq1, lq2, lq7, lq64, lq128, lq1024] at *; (try simp (disch := omega) only [pq_bm] at *); all_goals omega)); focus ((try clear ho); (try clear hag); (try clear hs0); (try clear hz); (try clear hzq); (try clear hz5); (try clear hph); (try clear hn1); (try clear K); (try clear ih); (try clear L39); (try clear L186); (try clear L196); (try clear L68); (try clear hG); (try clear hE); (try clear hE5); (try clear hfl); (try clear p5); (try clear qr); (try clear p302); (try clear hcs); (try clear b20); (try clear qse); (try clear qnx); (try clear bn); (try clear q5); (try clear q6); (try clear p77); (try clear p86); (try clear p147); (try clear hG6); simp only [vp_in_iff, Int32.lt_iff_toInt_lt, Int32.le_iff_toInt_le, ← Int32.toInt_inj, Int32.toInt_add, Int32.toInt_sub, Int32.toInt_mul, Int32.toInt_neg, pq_NuO, pq_NuI, pq_NuJ, pq_NuR, pq_shr6, pq_shr7, pq_shr8, lqm1, lq0, lq1, lq2, lq7, lq64, lq128, lq1024] at *; (try simp (disch := omega) only [pq_bm] at *); all_goals omega))) (by focus ((try clear ho); (try clear hag); (try clear hs0); (try clear hz); (try clear hzq); (try clear hz5); (try clear hph); (try clear hn1); (try clear K); (try clear ih); (try clear L39); (try clear L186); (try clear L196); (try clear L68); (try clear hG); (try clear hE); (try clear hE5); (try clear hfl); (try clear p5); (try clear qr); (try clear p302); (try clear hcs); (try clear b20); (try clear qse); (try clear qnx); (try clear bn); (try clear q5); (try clear q6); (try clear p77); (try clear p86); (try clear p147); (try clear hG6); simp only [vp_in_iff, Int32.lt_iff_toInt_lt, Int32.le_iff_toInt_le, ← Int32.toInt_inj, Int32.toInt_add, Int32.toInt_sub, Int32.toInt_mul, Int32.toInt_neg, pq_NuO, pq_NuI, pq_NuJ, pq_NuR, pq_shr6, pq_shr7, pq_shr8, lqm1, lq0, lq1, lq2, lq7, lq64, lq128, lq1024] at *; (try simp (disch := omega) only [pq_bm] at *); all_goals omega)) (by focus ((try clear ho); (try clear hag); (try clear hs0); (try clear hz); (try clear hzq); (try clear hz5); (try clear hph); (try clear hn1); (try clear K); (try clear ih); (try clear L39); (try clear L186); (try clear L196); (try clear L68); (try clear hG); (try clear hE); (try clear hE5); (try clear hfl); (try clear p5); (try clear qr); (try clear p302); (try clear hcs); (try clear b20); (try clear qse); (try clear qnx); (try clear bn); (try clear q5); (try clear q6); (try clear p77); (try clear p86); (try clear p147); (try clear hG6); simp only [vp_in_iff, Int32.lt_iff_toInt_lt, Int32.le_iff_toInt_le, ← Int32.toInt_inj, Int32.toInt_add, Int32.toInt_sub, Int32.toInt_mul, Int32.toInt_neg, pq_NuO, pq_NuI, pq_NuJ, pq_NuR, pq_shr6, pq_shr7, pq_shr8, lqm1, lq0, lq1, lq2, lq7, lq64, lq128, lq1024] at *; (try simp (disch := omega) only [pq_bm] at *); all_goals omega)) (by focus ((try clear ho); (try clear hag); (try clear hs0); (try clear hz); (try clear hzq); (try clear hz5); (try clear hph); (try clear hn1); (try clear K); (try clear ih); (try clear L39); (try clear L186); (try clear L196); (try clear L68); (try clear hG); (try clear hE); (try clear hE5); (try clear hfl); (try clear p5); (try clear qr); (try clear p302); (try clear hcs); (try clear b20); (try clear qse); (try clear qnx); (try clear bn); (try clear q5); (try clear q6); (try clear p77); (try clear p86); (try clear p147); (try clear hG6); simp only [vp_in_iff, Int32.lt_iff_toInt_lt, Int32.le_iff_toInt_le, ← Int32.toInt_inj, Int32.toInt_add, Int32.toInt_sub, Int32.toInt_mul, Int32.toInt_neg, pq_NuO, pq_NuI, pq_NuJ, pq_NuR, pq_shr6, pq_shr7, pq_shr8, lqm1, lq0, lq1, lq2, lq7, lq64, lq128, lq1024] at *; (try simp (disch := omega) only [pq_bm] at *); all_goals omega)))
            · exact absurd (c310.symm.trans e1) (by decide)
        · exact False.elim (by focus ((try clear ho); (try clear hag); (try clear hs0); (try clear hz); (try clear hzq); (try clear hz5); (try clear hph); (try clear hn1); (try clear K); (try clear ih); (try clear L39); (try clear L186); (try clear L196); (try clear L68); (try clear hG); (try clear hE); (try clear hE5); (try clear hfl); (try clear p5); (try clear qr); (try clear p302); (try clear hcs); (try clear b20); (try clear qse); (try clear qnx); (try clear bn); (try clear q5); (try clear q6); (try clear p77); (try clear p86); (try clear p147); (try clear hG6); simp only [vp_in_iff, Int32.lt_iff_toInt_lt, Int32.le_iff_toInt_le, ← Int32.toInt_inj, Int32.toInt_add, Int32.toInt_sub, Int32.toInt_mul, Int32.toInt_neg, pq_NuO, pq_NuI, pq_NuJ, pq_NuR, pq_shr6, pq_shr7, pq_shr8, lqm1, lq0, lq1, lq2, lq7, lq64, lq128, lq1024] at *; (try simp (disch := omega) only [pq_bm] at *); all_goals omega))
  have L68 : ∀  (fu : Nat) (S1 : HS) (sv : Int32)  (hF : pq_Fr [(131, 0), (14, 20), (182, 0), (132, 0), (14, 23), (14, 24), (127, 0), (128, 0), (14, 26), (14, 31), (125, 0), (126, 0), (183, 0)] S S1) (hcs : ((sv = 0 ∧ hO S1 a 20 = .int 1 ∧ hI S1 hd pf_h0 = -1 ∧ hO S1 a 23 = .int xs ∧ (hI S1 st 0).toInt ≤ xs.toInt) ∨ (sv = 1 ∧ (hO S1 a 20 = .int 2 ∧ hI S1 hd pf_h0 = 1 ∧ ∀ i, i < 7 → hJ S1 se (7 + i) = 0) ∧ hO S1 a 31 = .int 1 ∧ hI S1 lb 0 = -1 ∧ (∀ i : Nat, (i : Int) < 128 → hI S1 nx i = 1) ∧ hO S1 a 23 = .int (xs + 1) ∧ hI S1 st 0 = xs + 1) ∨ (sv = 2 ∧ hO S1 a 20 = .int 2 ∧ hO S1 a 31 = .int 1 ∧ (hI S1 lb 0 = -1 ∧ hI S1 lb 1 = -1) ∧ (∀ i : Nat, (i : Int) < 256 → hI S1 nx i = 1) ∧ hO S1 a 23 = .int (xs + 1 + 1) ∧ hI S1 st 0 = xs + 1))), (2 - sv.toInt).toNat < fu → pq_At p l e (pq_rm 3 0 0) s m args below meth c (pq_Z below args s D cy S 0 0 (fun v S2 => pq_Fr [(131, 0), (14, 20), (182, 0), (132, 0), (14, 23), (14, 24), (127, 0), (128, 0), (14, 26), (14, 31), (125, 0), (126, 0), (183, 0)] S S2 ∧ ∃ x : Int32, v = some (.int x) ∧ 0 ≤ x.toInt ∧ x.toInt ≤ 1 ∧ (x = 1 ∧ hO S2 a 20 = .int 2 ∧ hO S2 a 31 = .int 1 ∧ (hI S2 lb 0 = -1 ∧ hI S2 lb 1 = -1) ∧ (∀ i : Nat, i < 256 → hI S2 nx i = 1) ∧ hO S2 a 23 = .int (xs + 1 + 1) ∧ hI S2 st 0 = xs + 1))) D cy A 6 0 0 68 S1 [some (.ref a), some (.int sv), none, none, none, none] [] := by
    intro  fu
    induction fu with
    | zero => intro S1 sv hF hcs hm; exact absurd hm (Nat.not_lt_zero _)
    | succ fu ih =>
      intro S1 sv hF hcs hm
      have haL := hF.R ha (by first | decide | omega)
      have f4L := hF.O ha (by decide) (by decide) f4
      have haoL := hF.R hao (by decide)
      have f5L := hF.O ha (by decide) (by decide) f5
      have haaL := hF.R haa (by decide)
      have f17L := hF.O ha (by decide) (by decide) f17
      have hseL := hF.R hse (by decide)
      have f18L := hF.O ha (by decide) (by decide) f18
      have hlbL := hF.R hlb (by decide)
      have f19L := hF.O ha (by decide) (by decide) f19
      have hnxL := hF.R hnx (by decide)
      have f21L := hF.O ha (by decide) (by decide) f21
      have hstL := hF.R hst (by decide)
      have f22L := hF.O ha (by decide) (by decide) f22
      have hskL := hF.R hsk (by decide)
      have f28L := hF.O ha (by decide) (by decide) f28
      have hbtL := hF.R hbt (by decide)
      have f29L := hF.O ha (by decide) (by decide) f29
      have hhdL := hF.R hhd (by decide)
      have f30L := hF.O ha (by decide) (by decide) f30
      have hacL := hF.R hac (by decide)
      have f6L := hF.O ha (by decide) (by decide) f6
      have f9L := hF.O ha (by decide) (by decide) f9
      rcases hcs with ⟨rfl, b20, bh, b23, bs⟩ | ⟨rfl, b20, b31, bl, bn, b23, bs⟩ | ⟨rfl, b20, b31, bl, bn, b23, bs⟩
      · skip
        refine pq_iload_n F dX11_build_68 rfl rfl ?_
        refine pq_aload_n F dX11_build_69 rfl rfl ?_
        refine pq_get F haL (by decide) lk_X11_159 b20 dX11_build_70 ?_
        refine pq_icmp_ge (tgt := 341) F dX11_build_73 (by decide) (fun c73 => ?_) (fun c73 => ?_)
        · exact False.elim (by focus ((try clear ho); (try clear hag); (try clear hs0); (try clear hz); (try clear hzq); (try clear hz5); (try clear hph); (try clear hn1); (try clear K); (try clear ih); (try clear L39); (try clear L186); (try clear L196); (try clear L68); (try clear hG); (try clear hE); (try clear hE5); (try clear hfl); (try clear p5); (try clear qr); (try clear p302); (try clear hcs); (try clear b20); (try clear qse); (try clear qnx); (try clear bn); (try clear q5); (try clear q6); (try clear p77); (try clear p86); (try clear p147); (try clear hG6); simp only [vp_in_iff, Int32.lt_iff_toInt_lt, Int32.le_iff_toInt_le, ← Int32.toInt_inj, Int32.toInt_add, Int32.toInt_sub, Int32.toInt_mul, Int32.toInt_neg, pq_NuO, pq_NuI, pq_NuJ, pq_NuR, pq_shr6, pq_shr7, pq_shr8, lqm1, lq0, lq1, lq2, lq7, lq64, lq128, lq1024] at *; (try simp (disch := omega) only [pq_bm] at *); all_goals omega))
        · skip
          refine pq_aload_n F dX11_build_76 rfl rfl ?_
          refine pq_callV (As := []) F (k_X11_beginF l D cy _ _ ?_ st xs f21L hstL f6L b23) ml_X11_165 haL (by decide) rfl (Nat.le_of_ble_eq_true rfl) ⟨Nat.le_of_ble_eq_true rfl, Nat.le_of_ble_eq_true rfl⟩ ⟨by decide, by decide⟩ dX11_build_77 (fun v77 S77 w77 => ?_)
          · exact haL
          obtain ⟨rfl, hF77, p77⟩ := w77
          have haL_77 := (hF77.1 _ _ haL (by decide)).1
          have haoL_77 := (hF77.1 _ _ haoL (by decide)).1
          have ec77_4_haL_77 := hF77.O haL (by decide) (by decide) f4L
          have haaL_77 := (hF77.1 _ _ haaL (by decide)).1
          have ec77_5_haL_77 := hF77.O haL (by decide) (by decide) f5L
          have hseL_77 := (hF77.1 _ _ hseL (by decide)).1
          have ec77_17_haL_77 := hF77.O haL (by decide) (by decide) f17L
          have hlbL_77 := (hF77.1 _ _ hlbL (by decide)).1
          have ec77_18_haL_77 := hF77.O haL (by decide) (by decide) f18L
          have hnxL_77 := (hF77.1 _ _ hnxL (by decide)).1
          have ec77_19_haL_77 := hF77.O haL (by decide) (by decide) f19L
          have hstL_77 := (hF77.1 _ _ hstL (by decide)).1
          have ec77_21_haL_77 := hF77.O haL (by decide) (by decide) f21L
          have hskL_77 := (hF77.1 _ _ hskL (by decide)).1
          have ec77_22_haL_77 := hF77.O haL (by decide) (by decide) f22L
          have hbtL_77 := (hF77.1 _ _ hbtL (by decide)).1
          have ec77_28_haL_77 := hF77.O haL (by decide) (by decide) f28L
          have hhdL_77 := (hF77.1 _ _ hhdL (by decide)).1
          have ec77_29_haL_77 := hF77.O haL (by decide) (by decide) f29L
          have hacL_77 := (hF77.1 _ _ hacL (by decide)).1
          have ec77_30_haL_77 := hF77.O haL (by decide) (by decide) f30L
          have ec77_6_haL_77 := hF77.O haL (by decide) (by decide) f6L
          have ec77_9_haL_77 := hF77.O haL (by decide) (by decide) f9L
          have ec77_20_haL_77 := hF77.O haL (by decide) (by decide) b20
          have a77 := hF77.R haL (by decide)
          have f47 := hF77.O haL (by decide) (by decide) f4L
          have hao7 := hF77.R haoL (by decide)
          have f57 := hF77.O haL (by decide) (by decide) f5L
          have haa7 := hF77.R haaL (by decide)
          have f177 := hF77.O haL (by decide) (by decide) f17L
          have hse7 := hF77.R hseL (by decide)
          have f187 := hF77.O haL (by decide) (by decide) f18L
          have hlb7 := hF77.R hlbL (by decide)
          have f197 := hF77.O haL (by decide) (by decide) f19L
          have hnx7 := hF77.R hnxL (by decide)
          have f217 := hF77.O haL (by decide) (by decide) f21L
          have hst7 := hF77.R hstL (by decide)
          have f227 := hF77.O haL (by decide) (by decide) f22L
          have hsk7 := hF77.R hskL (by decide)
          have f287 := hF77.O haL (by decide) (by decide) f28L
          have hbt7 := hF77.R hbtL (by decide)
          have f297 := hF77.O haL (by decide) (by decide) f29L
          have hhd7 := hF77.R hhdL (by decide)
          have f307 := hF77.O haL (by decide) (by decide) f30L
          have hac7 := hF77.R hacL (by decide)
          have f9s := hF77.O haL (by decide) (by decide) f9L
          refine pq_iload_n F dX11_build_80 rfl rfl ?_
          refine pq_if_ne (tgt := 92) F dX11_build_81 (by decide) (fun c81 => ?_) (fun c81 => ?_)
          · exact absurd rfl c81
          · skip
            refine pq_aload_n F dX11_build_84 rfl rfl ?_
            refine pq_iconst (v := 0) F dX11_build_85 (by decide) ?_
            refine pq_callV (As := [_]) F (k_X11_reachF l D cy _ _ ?_ _ ?_ ?_ st sk (xs + 1) 0 f217 hst7 f227 hsk7 p77.1 p77.2 ?_ ?_ (by rw [hF77.I hstL (by decide) (by decide)]; intro e9; have e8 : (hI S1 st 0).toInt = (xs + 1).toInt := congrArg Int32.toInt e9; have e7 : (xs + 1).toInt = xs.toInt + 1 := (by focus ((try clear ho); (try clear hag); (try clear hs0); (try clear hz); (try clear hzq); (try clear hz5); (try clear hph); (try clear hn1); (try clear K); (try clear ih); (try clear L39); (try clear L186); (try clear L196); (try clear L68); (try clear hG); (try clear hE); (try clear hE5); (try clear hfl); (try clear p5); (try clear qr); (try clear p302); (try clear hcs); (try clear b20); (try clear qse); (try clear qnx); (try clear bn); (try clear q5); (try clear q6); (try clear p77); (try clear p86); (try clear p147); (try clear hG6); simp only [vp_in_iff, Int32.lt_iff_toInt_lt, Int32.le_iff_toInt_le, ← Int32.toInt_inj, Int32.toInt_add, Int32.toInt_sub, Int32.toInt_mul, Int32.toInt_neg, pq_NuO, pq_NuI, pq_NuJ, pq_NuR, pq_shr6, pq_shr7, pq_shr8, lqm1, lq0, lq1, lq2, lq7, lq64, lq128, lq1024] at *; (try simp (disch := omega) only [pq_bm] at *); all_goals omega)); omega)) ml_X11_133 haL_77 (by decide) rfl (Nat.le_of_ble_eq_true rfl) ⟨Nat.le_of_ble_eq_true rfl, Nat.le_of_ble_eq_true rfl⟩ ⟨by decide, by decide⟩ dX11_build_86 (fun v86 S86 w86 => ?_)
            · exact haL_77
            · focus ((try clear ho); (try clear hag); (try clear hs0); (try clear hz); (try clear hzq); (try clear hz5); (try clear hph); (try clear hn1); (try clear K); (try clear ih); (try clear L39); (try clear L186); (try clear L196); (try clear L68); (try clear hG); (try clear hE); (try clear hE5); (try clear hfl); (try clear p5); (try clear qr); (try clear p302); (try clear hcs); (try clear b20); (try clear qse); (try clear qnx); (try clear bn); (try clear q5); (try clear q6); (try clear p77); (try clear p86); (try clear p147); (try clear hG6); simp only [vp_in_iff, Int32.lt_iff_toInt_lt, Int32.le_iff_toInt_le, ← Int32.toInt_inj, Int32.toInt_add, Int32.toInt_sub, Int32.toInt_mul, Int32.toInt_neg, pq_NuO, pq_NuI, pq_NuJ, pq_NuR, pq_shr6, pq_shr7, pq_shr8, lqm1, lq0, lq1, lq2, lq7, lq64, lq128, lq1024] at *; (try simp (disch := omega) only [pq_bm] at *); all_goals omega)
            · focus ((try clear ho); (try clear hag); (try clear hs0); (try clear hz); (try clear hzq); (try clear hz5); (try clear hph); (try clear hn1); (try clear K); (try clear ih); (try clear L39); (try clear L186); (try clear L196); (try clear L68); (try clear hG); (try clear hE); (try clear hE5); (try clear hfl); (try clear p5); (try clear qr); (try clear p302); (try clear hcs); (try clear b20); (try clear qse); (try clear qnx); (try clear bn); (try clear q5); (try clear q6); (try clear p77); (try clear p86); (try clear p147); (try clear hG6); simp only [vp_in_iff, Int32.lt_iff_toInt_lt, Int32.le_iff_toInt_le, ← Int32.toInt_inj, Int32.toInt_add, Int32.toInt_sub, Int32.toInt_mul, Int32.toInt_neg, pq_NuO, pq_NuI, pq_NuJ, pq_NuR, pq_shr6, pq_shr7, pq_shr8, lqm1, lq0, lq1, lq2, lq7, lq64, lq128, lq1024] at *; (try simp (disch := omega) only [pq_bm] at *); all_goals omega)
            · focus ((try clear ho); (try clear hag); (try clear hs0); (try clear hz); (try clear hzq); (try clear hz5); (try clear hph); (try clear hn1); (try clear K); (try clear ih); (try clear L39); (try clear L186); (try clear L196); (try clear L68); (try clear hG); (try clear hE); (try clear hE5); (try clear hfl); (try clear p5); (try clear qr); (try clear p302); (try clear hcs); (try clear b20); (try clear qse); (try clear qnx); (try clear bn); (try clear q5); (try clear q6); (try clear p77); (try clear p86); (try clear p147); (try clear hG6); simp only [vp_in_iff, Int32.lt_iff_toInt_lt, Int32.le_iff_toInt_le, ← Int32.toInt_inj, Int32.toInt_add, Int32.toInt_sub, Int32.toInt_mul, Int32.toInt_neg, pq_NuO, pq_NuI, pq_NuJ, pq_NuR, pq_shr6, pq_shr7, pq_shr8, lqm1, lq0, lq1, lq2, lq7, lq64, lq128, lq1024] at *; (try simp (disch := omega) only [pq_bm] at *); all_goals omega)
            · focus ((try clear ho); (try clear hag); (try clear hs0); (try clear hz); (try clear hzq); (try clear hz5); (try clear hph); (try clear hn1); (try clear K); (try clear ih); (try clear L39); (try clear L186); (try clear L196); (try clear L68); (try clear hG); (try clear hE); (try clear hE5); (try clear hfl); (try clear p5); (try clear qr); (try clear p302); (try clear hcs); (try clear b20); (try clear qse); (try clear qnx); (try clear bn); (try clear q5); (try clear q6); (try clear p77); (try clear p86); (try clear p147); (try clear hG6); simp only [vp_in_iff, Int32.lt_iff_toInt_lt, Int32.le_iff_toInt_le, ← Int32.toInt_inj, Int32.toInt_add, Int32.toInt_sub, Int32.toInt_mul, Int32.toInt_neg, pq_NuO, pq_NuI, pq_NuJ, pq_NuR, pq_shr6, pq_shr7, pq_shr8, lqm1, lq0, lq1, lq2, lq7, lq64, lq128, lq1024] at *; (try simp (disch := omega) only [pq_bm] at *); all_goals omega)
            obtain ⟨rfl, hF86, p86⟩ := w86
            have haL_86 := (hF86.1 _ _ haL_77 (by decide)).1
            have haoL_86 := (hF86.1 _ _ haoL_77 (by decide)).1
            have ec86_4_haL_86 := hF86.O haL_77 (by decide) (by decide) ec77_4_haL_77
            have haaL_86 := (hF86.1 _ _ haaL_77 (by decide)).1
            have ec86_5_haL_86 := hF86.O haL_77 (by decide) (by decide) ec77_5_haL_77
            have hseL_86 := (hF86.1 _ _ hseL_77 (by decide)).1
            have ec86_17_haL_86 := hF86.O haL_77 (by decide) (by decide) ec77_17_haL_77
            have hlbL_86 := (hF86.1 _ _ hlbL_77 (by decide)).1
            have ec86_18_haL_86 := hF86.O haL_77 (by decide) (by decide) ec77_18_haL_77
            have hnxL_86 := (hF86.1 _ _ hnxL_77 (by decide)).1
            have ec86_19_haL_86 := hF86.O haL_77 (by decide) (by decide) ec77_19_haL_77
            have hstL_86 := (hF86.1 _ _ hstL_77 (by decide)).1
            have ec86_21_haL_86 := hF86.O haL_77 (by decide) (by decide) ec77_21_haL_77
            have hskL_86 := (hF86.1 _ _ hskL_77 (by decide)).1
            have ec86_22_haL_86 := hF86.O haL_77 (by decide) (by decide) ec77_22_haL_77
            have hbtL_86 := (hF86.1 _ _ hbtL_77 (by decide)).1
            have ec86_28_haL_86 := hF86.O haL_77 (by decide) (by decide) ec77_28_haL_77
            have hhdL_86 := (hF86.1 _ _ hhdL_77 (by decide)).1
            have ec86_29_haL_86 := hF86.O haL_77 (by decide) (by decide) ec77_29_haL_77
            have hacL_86 := (hF86.1 _ _ hacL_77 (by decide)).1
            have ec86_30_haL_86 := hF86.O haL_77 (by decide) (by decide) ec77_30_haL_77
            have ec86_6_haL_86 := hF86.O haL_77 (by decide) (by decide) ec77_6_haL_77
            have ec86_9_haL_86 := hF86.O haL_77 (by decide) (by decide) f9s
            have ec86_20_haL_86 := hF86.O haL_77 (by decide) (by decide) ec77_20_haL_77
            have a86 := hF86.R a77 (by decide)
            have f48 := hF86.O a77 (by decide) (by decide) f47
            have hao8 := hF86.R hao7 (by decide)
            have f58 := hF86.O a77 (by decide) (by decide) f57
            have haa8 := hF86.R haa7 (by decide)
            have f178 := hF86.O a77 (by decide) (by decide) f177
            have hse8 := hF86.R hse7 (by decide)
            have f188 := hF86.O a77 (by decide) (by decide) f187
            have hlb8 := hF86.R hlb7 (by decide)
            have f198 := hF86.O a77 (by decide) (by decide) f197
            have hnx8 := hF86.R hnx7 (by decide)
            have f218 := hF86.O a77 (by decide) (by decide) f217
            have hst8 := hF86.R hst7 (by decide)
            have f228 := hF86.O a77 (by decide) (by decide) f227
            have hsk8 := hF86.R hsk7 (by decide)
            have f288 := hF86.O a77 (by decide) (by decide) f287
            have hbt8 := hF86.R hbt7 (by decide)
            have f298 := hF86.O a77 (by decide) (by decide) f297
            have hhd8 := hF86.R hhd7 (by decide)
            have f308 := hF86.O a77 (by decide) (by decide) f307
            have hac8 := hF86.R hac7 (by decide)
            refine pq_goto (tgt := 146) F dX11_build_89 (by decide) ?_
            refine pq_aload_n F dX11_build_146 rfl rfl ?_
            refine pq_callV (As := []) F (k_X11_closureF l D cy _ _ ?_ sk ao aa p86.1 f228 hsk8 f48 hao8 f58 haa8 p86.2.1 (by rw [hF86.I hao7 (by decide) (by decide), hF77.I haoL (by decide) (by decide), hF.I hao (by decide) (by decide)]; exact ho)) ml_X11_168 haL_86 (by decide) rfl (Nat.le_of_ble_eq_true rfl) ⟨Nat.le_of_ble_eq_true rfl, Nat.le_of_ble_eq_true rfl⟩ ⟨by decide, by decide⟩ dX11_build_147 (fun v147 S147 w147 => ?_)
            · exact haL_86
            obtain ⟨hF147, y147, rfl, p147⟩ := w147
            have haL_147 := (hF147.1 _ _ haL_86 (by decide)).1
            have haoL_147 := (hF147.1 _ _ haoL_86 (by decide)).1
            have ec147_4_haL_147 := hF147.O haL_86 (by decide) (by decide) ec86_4_haL_86
            have haaL_147 := (hF147.1 _ _ haaL_86 (by decide)).1
            have ec147_5_haL_147 := hF147.O haL_86 (by decide) (by decide) ec86_5_haL_86
            have hseL_147 := (hF147.1 _ _ hseL_86 (by decide)).1
            have ec147_17_haL_147 := hF147.O haL_86 (by decide) (by decide) ec86_17_haL_86
            have hlbL_147 := (hF147.1 _ _ hlbL_86 (by decide)).1
            have ec147_18_haL_147 := hF147.O haL_86 (by decide) (by decide) ec86_18_haL_86
            have hnxL_147 := (hF147.1 _ _ hnxL_86 (by decide)).1
            have ec147_19_haL_147 := hF147.O haL_86 (by decide) (by decide) ec86_19_haL_86
            have hstL_147 := (hF147.1 _ _ hstL_86 (by decide)).1
            have ec147_21_haL_147 := hF147.O haL_86 (by decide) (by decide) ec86_21_haL_86
            have hskL_147 := (hF147.1 _ _ hskL_86 (by decide)).1
            have ec147_22_haL_147 := hF147.O haL_86 (by decide) (by decide) ec86_22_haL_86
            have hbtL_147 := (hF147.1 _ _ hbtL_86 (by decide)).1
            have ec147_28_haL_147 := hF147.O haL_86 (by decide) (by decide) ec86_28_haL_86
            have hhdL_147 := (hF147.1 _ _ hhdL_86 (by decide)).1
            have ec147_29_haL_147 := hF147.O haL_86 (by decide) (by decide) ec86_29_haL_86
            have hacL_147 := (hF147.1 _ _ hacL_86 (by decide)).1
            have ec147_30_haL_147 := hF147.O haL_86 (by decide) (by decide) ec86_30_haL_86
            have ec147_6_haL_147 := hF147.O haL_86 (by decide) (by decide) ec86_6_haL_86
            have ec147_9_haL_147 := hF147.O haL_86 (by decide) (by decide) ec86_9_haL_86
            have ec147_20_haL_147 := hF147.O haL_86 (by decide) (by decide) ec86_20_haL_86
            have a147 := hF147.R a86 (by decide)
            have f4q := hF147.O a86 (by decide) (by decide) f48
            have haoq := hF147.R hao8 (by decide)
            have f5q := hF147.O a86 (by decide) (by decide) f58
            have haaq := hF147.R haa8 (by decide)
            have f17q := hF147.O a86 (by decide) (by decide) f178
            have hseq := hF147.R hse8 (by decide)
            have f18q := hF147.O a86 (by decide) (by decide) f188
            have hlbq := hF147.R hlb8 (by decide)
            have f19q := hF147.O a86 (by decide) (by decide) f198
            have hnxq := hF147.R hnx8 (by decide)
            have f21q := hF147.O a86 (by decide) (by decide) f218
            have hstq := hF147.R hst8 (by decide)
            have f22q := hF147.O a86 (by decide) (by decide) f228
            have hskq := hF147.R hsk8 (by decide)
            have f28q := hF147.O a86 (by decide) (by decide) f288
            have hbtq := hF147.R hbt8 (by decide)
            have f29q := hF147.O a86 (by decide) (by decide) f298
            have hhdq := hF147.R hhd8 (by decide)
            have f30q := hF147.O a86 (by decide) (by decide) f308
            have hacq := hF147.R hac8 (by decide)
            have q23 := hF147.O a86 (by decide) (by decide) (hF86.O a77 (by decide) (by decide) p77.1)
            have q20 := hF147.O a86 (by decide) (by decide) (hF86.O a77 (by decide) (by decide) (hF77.O haL (by decide) (by decide) b20))
            have qhd : hI S147 hd pf_h0 = -1 := (congrFun ((hF147.I hhd8 (by decide) (by decide)).trans ((hF86.I hhd7 (by decide) (by decide)).trans (hF77.I hhdL (by decide) (by decide)))) _).trans bh
            have qst : hI S147 st 0 = xs + 1 := (congrFun (hF147.I hst8 (by decide) (by decide)) 0).trans p86.2.2
            have y0 : y147 = 0 := p147.1.trans ((congrFun ((hF86.I haa7 (by decide) (by decide)).trans ((hF77.I haaL (by decide) (by decide)).trans (hF.I haa (by decide) (by decide)))) 0).trans hag)
            refine pq_istore_n F dX11_build_150 rfl (by decide) ?_
            refine pq_iload_n F dX11_build_151 rfl rfl ?_
            refine pq_if_ne (tgt := 169) F dX11_build_152 (by decide) (fun c152 => ?_) (fun c152 => ?_)
            · exact absurd rfl c152
            · skip
              refine pq_aload_n F dX11_build_155 rfl rfl ?_
              refine pq_iload_n F dX11_build_156 rfl rfl ?_
              refine pq_iconst (v := -1) F dX11_build_157 (by decide) ?_
              refine pq_icmp_eq (tgt := 165) F dX11_build_158 (by decide) (fun c158 => ?_) (fun c158 => ?_)
              · exact absurd (c158.symm.trans y0) (by decide)
              · skip
                refine pq_iconst (v := 1) F dX11_build_161 (by decide) ?_
                refine pq_goto (tgt := 166) F dX11_build_162 (by decide) ?_
                refine pq_putZ F haL_147 (by decide) lp_X11_171 rfl (by focus ((try clear ho); (try clear hag); (try clear hs0); (try clear hz); (try clear hzq); (try clear hz5); (try clear hph); (try clear hn1); (try clear K); (try clear ih); (try clear L39); (try clear L186); (try clear L196); (try clear L68); (try clear hG); (try clear hE); (try clear hE5); (try clear hfl); (try clear p5); (try clear qr); (try clear p302); (try clear hcs); (try clear b20); (try clear qse); (try clear qnx); (try clear bn); (try clear q5); (try clear q6); (try clear p77); (try clear p86); (try clear p147); (try clear hG6); simp only [vp_in_iff, Int32.lt_iff_toInt_lt, Int32.le_iff_toInt_le, ← Int32.toInt_inj, Int32.toInt_add, Int32.toInt_sub, Int32.toInt_mul, Int32.toInt_neg, pq_NuO, pq_NuI, pq_NuJ, pq_NuR, pq_shr6, pq_shr7, pq_shr8, lqm1, lq0, lq1, lq2, lq7, lq64, lq128, lq1024] at *; (try simp (disch := omega) only [pq_bm] at *); all_goals omega)) (by focus ((try clear ho); (try clear hag); (try clear hs0); (try clear hz); (try clear hzq); (try clear hz5); (try clear hph); (try clear hn1); (try clear K); (try clear ih); (try clear L39); (try clear L186); (try clear L196); (try clear L68); (try clear hG); (try clear hE); (try clear hE5); (try clear hfl); (try clear p5); (try clear qr); (try clear p302); (try clear hcs); (try clear b20); (try clear qse); (try clear qnx); (try clear bn); (try clear q5); (try clear q6); (try clear p77); (try clear p86); (try clear p147); (try clear hG6); simp only [vp_in_iff, Int32.lt_iff_toInt_lt, Int32.le_iff_toInt_le, ← Int32.toInt_inj, Int32.toInt_add, Int32.toInt_sub, Int32.toInt_mul, Int32.toInt_neg, pq_NuO, pq_NuI, pq_NuJ, pq_NuR, pq_shr6, pq_shr7, pq_shr8, lqm1, lq0, lq1, lq2, lq7, lq64, lq128, lq1024] at *; (try simp (disch := omega) only [pq_bm] at *); all_goals omega)) dX11_build_166 ?_
                refine pq_aload_n F dX11_build_169 rfl rfl ?_
                refine pq_get F haL_147 (by decide) lk_X11_175 (pq_kp ec147_18_haL_147 (by decide)) dX11_build_170 ?_
                refine pq_iload_n F dX11_build_173 rfl rfl ?_
                refine pq_iload_n F dX11_build_174 rfl rfl ?_
                refine pq_if_ne (tgt := 182) F dX11_build_175 (by decide) (fun c175 => ?_) (fun c175 => ?_)
                · exact absurd rfl c175
                · skip
                  refine pq_iconst (v := -1) F dX11_build_178 (by decide) ?_
                  refine pq_goto (tgt := 183) F dX11_build_179 (by decide) ?_
                  refine pq_iast F hlbL_147 (by decide) (by decide) rfl (fun n1_183 n2_183 => (by focus ((try clear ho); (try clear hag); (try clear hs0); (try clear hz); (try clear hzq); (try clear hz5); (try clear hph); (try clear hn1); (try clear K); (try clear ih); (try clear L39); (try clear L186); (try clear L196); (try clear L68); (try clear hG); (try clear hE); (try clear hE5); (try clear hfl); (try clear p5); (try clear qr); (try clear p302); (try clear hcs); (try clear b20); (try clear qse); (try clear qnx); (try clear bn); (try clear q5); (try clear q6); (try clear p77); (try clear p86); (try clear p147); (try clear hG6); simp only [vp_in_iff, Int32.lt_iff_toInt_lt, Int32.le_iff_toInt_le, ← Int32.toInt_inj, Int32.toInt_add, Int32.toInt_sub, Int32.toInt_mul, Int32.toInt_neg, pq_NuO, pq_NuI, pq_NuJ, pq_NuR, pq_shr6, pq_shr7, pq_shr8, lqm1, lq0, lq1, lq2, lq7, lq64, lq128, lq1024] at *; (try simp (disch := omega) only [pq_bm] at *); all_goals omega))) (⟨pq_any1 _, pq_any2 _⟩) dX11_build_183 ?_
                  refine pq_iconst (v := 0) F dX11_build_184 (by decide) ?_
                  refine pq_istore_n F dX11_build_185 rfl (by decide) ?_
                  have nhl := pq_nrole hhdq hlbq (by decide)
                  have nnl := pq_nrole hnxq hlbq (by decide)
                  refine pq_fgm [true, true, true, true, false, false] (L186 _ _ _ (by exact (((pq_Fr.rf (M := [(14, 31), (125, 0)]) (S := S147)).uO (k := 31) (v := .int 1) a147 (by decide)).uI hlbq (by decide)).R a147 (by decide)) (by exact (((pq_Fr.rf (M := [(14, 31), (125, 0)]) (S := S147)).uO (k := 31) (v := .int 1) a147 (by decide)).uI hlbq (by decide)).O a147 (by decide) (by decide) p147.2) (by first | exact Or.inl rfl | exact Or.inr rfl) (fun S6 hF6 hG6 q3 q4 q5 q6 => ?_) 1000 _ 0 (((((hF.cm hF77 (by decide)).cm hF86 (by decide)).cm hF147 (by decide)).uO haL_147 (by decide)).uI hlbL_147 (by first | decide | exact List.mem_cons_self)) pq_Fr.rf (Or.inl ⟨rfl, rfl, (pq_kp q20 (by decide)), (by simp only [pq_IuO, pq_IuJ, pq_Iu, pq_JuO, pq_JuI, pq_Ju, pq_RuO, pq_RuJ, pq_RuI, if_true, if_false, nhl]; exact qhd)⟩) (fun i hi => absurd hi (by show ¬ (i : Int) < 128 * (0 : Int32).toInt + (0 : Int32).toInt; rw [lq0]; omega)) (by focus ((try clear ho); (try clear hag); (try clear hs0); (try clear hz); (try clear hzq); (try clear hz5); (try clear hph); (try clear hn1); (try clear K); (try clear ih); (try clear L39); (try clear L186); (try clear L196); (try clear L68); (try clear hG); (try clear hE); (try clear hE5); (try clear hfl); (try clear p5); (try clear qr); (try clear p302); (try clear hcs); (try clear b20); (try clear qse); (try clear qnx); (try clear bn); (try clear q5); (try clear q6); (try clear p77); (try clear p86); (try clear p147); (try clear hG6); simp only [vp_in_iff, Int32.lt_iff_toInt_lt, Int32.le_iff_toInt_le, ← Int32.toInt_inj, Int32.toInt_add, Int32.toInt_sub, Int32.toInt_mul, Int32.toInt_neg, pq_NuO, pq_NuI, pq_NuJ, pq_NuR, pq_shr6, pq_shr7, pq_shr8, lqm1, lq0, lq1, lq2, lq7, lq64, lq128, lq1024] at *; (try simp (disch := omega) only [pq_bm] at *); all_goals omega)) (by focus ((try clear ho); (try clear hag); (try clear hs0); (try clear hz); (try clear hzq); (try clear hz5); (try clear hph); (try clear hn1); (try clear K); (try clear ih); (try clear L39); (try clear L186); (try clear L196); (try clear L68); (try clear hG); (try clear hE); (try clear hE5); (try clear hfl); (try clear p5); (try clear qr); (try clear p302); (try clear hcs); (try clear b20); (try clear qse); (try clear qnx); (try clear bn); (try clear q5); (try clear q6); (try clear p77); (try clear p86); (try clear p147); (try clear hG6); simp only [vp_in_iff, Int32.lt_iff_toInt_lt, Int32.le_iff_toInt_le, ← Int32.toInt_inj, Int32.toInt_add, Int32.toInt_sub, Int32.toInt_mul, Int32.toInt_neg, pq_NuO, pq_NuI, pq_NuJ, pq_NuR, pq_shr6, pq_shr7, pq_shr8, lqm1, lq0, lq1, lq2, lq7, lq64, lq128, lq1024] at *; (try simp (disch := omega) only [pq_bm] at *); all_goals omega)) (by focus ((try clear ho); (try clear hag); (try clear hs0); (try clear hz); (try clear hzq); (try clear hz5); (try clear hph); (try clear hn1); (try clear K); (try clear ih); (try clear L39); (try clear L186); (try clear L196); (try clear L68); (try clear hG); (try clear hE); (try clear hE5); (try clear hfl); (try clear p5); (try clear qr); (try clear p302); (try clear hcs); (try clear b20); (try clear qse); (try clear qnx); (try clear bn); (try clear q5); (try clear q6); (try clear p77); (try clear p86); (try clear p147); (try clear hG6); simp only [vp_in_iff, Int32.lt_iff_toInt_lt, Int32.le_iff_toInt_le, ← Int32.toInt_inj, Int32.toInt_add, Int32.toInt_sub, Int32.toInt_mul, Int32.toInt_neg, pq_NuO, pq_NuI, pq_NuJ, pq_NuR, pq_shr6, pq_shr7, pq_shr8, lqm1, lq0, lq1, lq2, lq7, lq64, lq128, lq1024] at *; (try simp (disch := omega) only [pq_bm] at *); all_goals omega)))
                  have ha6 := hF6.R ha (by decide)
                  have w23 := hG6.O (show pq_R _ a 14 from (((pq_Fr.rf (M := [(14, 31), (125, 0)]) (S := S147)).uO (k := 31) (v := .int 1) a147 (by decide)).uI hlbq (by decide)).R a147 (by decide)) (by decide) (by decide) ((((pq_Fr.rf (M := [(14, 31), (125, 0)]) (S := S147)).uO (k := 31) (v := .int 1) a147 (by decide)).uI hlbq (by decide)).O a147 (by decide) (by decide) q23)
                  have w31 := hG6.O (show pq_R _ a 14 from (((pq_Fr.rf (M := [(14, 31), (125, 0)]) (S := S147)).uO (k := 31) (v := .int 1) a147 (by decide)).uI hlbq (by decide)).R a147 (by decide)) (by decide) (by decide) (show hO _ a 31 = .int 1 from pq_ks)
                  have wst : hI S6 st 0 = xs + 1 := (congrFun (hG6.I ((((pq_Fr.rf (M := [(14, 31), (125, 0)]) (S := S147)).uO (k := 31) (v := .int 1) a147 (by decide)).uI hlbq (by decide)).R hstq (by decide)) (by decide) (by decide)) 0).trans ((congrFun ((((pq_Fr.rf (M := [(14, 31), (125, 0)]) (S := S147)).uO (k := 31) (v := .int 1) a147 (by decide)).uI hlbq (by decide)).I hstq (by decide) (by decide)) 0).trans qst)
                  have wlb := hG6.I (show pq_R _ lb 125 from (((pq_Fr.rf (M := [(14, 31), (125, 0)]) (S := S147)).uO (k := 31) (v := .int 1) a147 (by decide)).uI hlbq (by decide)).R hlbq (by decide)) (by decide) (by decide)
                  refine pq_iinc (v := 1) F dX11_build_335 rfl (by decide) (by decide) ?_
                  refine pq_goto (tgt := 68) F dX11_build_338 (by decide) ?_
                  exact pq_fgm [true, true, false, false, false, false] (ih _ _ hF6 (Or.inr (Or.inl ⟨rfl, ⟨q3, q4, q5⟩, w31, (by rw [wlb]; simp only [pq_IuO, pq_IuJ, pq_Iu, pq_JuO, pq_JuI, pq_Ju, pq_RuO, pq_RuJ, pq_RuI, if_true, if_false]; exact pk_us), (fun i hi => q6 i (by have e0 : (0 : Int32).toInt = 0 := rfl; rw [e0]; omega)), w23, wst⟩)) (by focus ((try clear ho); (try clear hag); (try clear hs0); (try clear hz); (try clear hzq); (try clear hz5); (try clear hph); (try clear hn1); (try clear K); (try clear ih); (try clear L39); (try clear L186); (try clear L196); (try clear L68); (try clear hG); (try clear hE); (try clear hE5); (try clear hfl); (try clear p5); (try clear qr); (try clear p302); (try clear hcs); (try clear b20); (try clear qse); (try clear qnx); (try clear bn); (try clear q5); (try clear q6); (try clear p77); (try clear p86); (try clear p147); (try clear hG6); simp only [vp_in_iff, Int32.lt_iff_toInt_lt, Int32.le_iff_toInt_le, ← Int32.toInt_inj, Int32.toInt_add, Int32.toInt_sub, Int32.toInt_mul, Int32.toInt_neg, pq_NuO, pq_NuI, pq_NuJ, pq_NuR, pq_shr6, pq_shr7, pq_shr8, lqm1, lq0, lq1, lq2, lq7, lq64, lq128, lq1024] at *; (try simp (disch := omega) only [pq_bm] at *); all_goals omega)))
      · skip
        refine pq_iload_n F dX11_build_68 rfl rfl ?_
        refine pq_aload_n F dX11_build_69 rfl rfl ?_
        refine pq_get F haL (by decide) lk_X11_159 b20.1 dX11_build_70 ?_
        refine pq_icmp_ge (tgt := 341) F dX11_build_73 (by decide) (fun c73 => ?_) (fun c73 => ?_)
        · exact False.elim (by focus ((try clear ho); (try clear hag); (try clear hs0); (try clear hz); (try clear hzq); (try clear hz5); (try clear hph); (try clear hn1); (try clear K); (try clear ih); (try clear L39); (try clear L186); (try clear L196); (try clear L68); (try clear hG); (try clear hE); (try clear hE5); (try clear hfl); (try clear p5); (try clear qr); (try clear p302); (try clear hcs); (try clear b20); (try clear qse); (try clear qnx); (try clear bn); (try clear q5); (try clear q6); (try clear p77); (try clear p86); (try clear p147); (try clear hG6); simp only [vp_in_iff, Int32.lt_iff_toInt_lt, Int32.le_iff_toInt_le, ← Int32.toInt_inj, Int32.toInt_add, Int32.toInt_sub, Int32.toInt_mul, Int32.toInt_neg, pq_NuO, pq_NuI, pq_NuJ, pq_NuR, pq_shr6, pq_shr7, pq_shr8, lqm1, lq0, lq1, lq2, lq7, lq64, lq128, lq1024] at *; (try simp (disch := omega) only [pq_bm] at *); all_goals omega))
        · skip
          refine pq_aload_n F dX11_build_76 rfl rfl ?_
          refine pq_callV (As := []) F (k_X11_beginF l D cy _ _ ?_ st (xs + 1) f21L hstL f6L b23) ml_X11_165 haL (by decide) rfl (Nat.le_of_ble_eq_true rfl) ⟨Nat.le_of_ble_eq_true rfl, Nat.le_of_ble_eq_true rfl⟩ ⟨by decide, by decide⟩ dX11_build_77 (fun v77 S77 w77 => ?_)
          · exact haL
          obtain ⟨rfl, hF77, p77⟩ := w77
          have haL_77 := (hF77.1 _ _ haL (by decide)).1
          have haoL_77 := (hF77.1 _ _ haoL (by decide)).1
          have ec77_4_haL_77 := hF77.O haL (by decide) (by decide) f4L
          have haaL_77 := (hF77.1 _ _ haaL (by decide)).1
          have ec77_5_haL_77 := hF77.O haL (by decide) (by decide) f5L
          have hseL_77 := (hF77.1 _ _ hseL (by decide)).1
          have ec77_17_haL_77 := hF77.O haL (by decide) (by decide) f17L
          have hlbL_77 := (hF77.1 _ _ hlbL (by decide)).1
          have ec77_18_haL_77 := hF77.O haL (by decide) (by decide) f18L
          have hnxL_77 := (hF77.1 _ _ hnxL (by decide)).1
          have ec77_19_haL_77 := hF77.O haL (by decide) (by decide) f19L
          have hstL_77 := (hF77.1 _ _ hstL (by decide)).1
          have ec77_21_haL_77 := hF77.O haL (by decide) (by decide) f21L
          have hskL_77 := (hF77.1 _ _ hskL (by decide)).1
          have ec77_22_haL_77 := hF77.O haL (by decide) (by decide) f22L
          have hbtL_77 := (hF77.1 _ _ hbtL (by decide)).1
          have ec77_28_haL_77 := hF77.O haL (by decide) (by decide) f28L
          have hhdL_77 := (hF77.1 _ _ hhdL (by decide)).1
          have ec77_29_haL_77 := hF77.O haL (by decide) (by decide) f29L
          have hacL_77 := (hF77.1 _ _ hacL (by decide)).1
          have ec77_30_haL_77 := hF77.O haL (by decide) (by decide) f30L
          have ec77_6_haL_77 := hF77.O haL (by decide) (by decide) f6L
          have ec77_9_haL_77 := hF77.O haL (by decide) (by decide) f9L
          have ec77_20_haL_77 := hF77.O haL (by decide) (by decide) b20.1
          have a77 := hF77.R haL (by decide)
          have f47 := hF77.O haL (by decide) (by decide) f4L
          have hao7 := hF77.R haoL (by decide)
          have f57 := hF77.O haL (by decide) (by decide) f5L
          have haa7 := hF77.R haaL (by decide)
          have f177 := hF77.O haL (by decide) (by decide) f17L
          have hse7 := hF77.R hseL (by decide)
          have f187 := hF77.O haL (by decide) (by decide) f18L
          have hlb7 := hF77.R hlbL (by decide)
          have f197 := hF77.O haL (by decide) (by decide) f19L
          have hnx7 := hF77.R hnxL (by decide)
          have f217 := hF77.O haL (by decide) (by decide) f21L
          have hst7 := hF77.R hstL (by decide)
          have f227 := hF77.O haL (by decide) (by decide) f22L
          have hsk7 := hF77.R hskL (by decide)
          have f287 := hF77.O haL (by decide) (by decide) f28L
          have hbt7 := hF77.R hbtL (by decide)
          have f297 := hF77.O haL (by decide) (by decide) f29L
          have hhd7 := hF77.R hhdL (by decide)
          have f307 := hF77.O haL (by decide) (by decide) f30L
          have hac7 := hF77.R hacL (by decide)
          have f9s := hF77.O haL (by decide) (by decide) f9L
          refine pq_iload_n F dX11_build_80 rfl rfl ?_
          refine pq_if_ne (tgt := 92) F dX11_build_81 (by decide) (fun c81 => ?_) (fun c81 => ?_)
          · skip
            refine pq_iconst (v := 0) F dX11_build_92 (by decide) ?_
            refine pq_istore_n F dX11_build_93 rfl (by decide) ?_
            refine pq_iload_n F dX11_build_94 rfl rfl ?_
            refine pq_aload_n F dX11_build_95 rfl rfl ?_
            refine pq_get F haL_77 (by decide) lk_X11_102 f9s dX11_build_96 ?_
            refine pq_icmp_ge (tgt := 146) F dX11_build_99 (by decide) (fun c99 => ?_) (fun c99 => ?_)
            · skip
              refine pq_aload_n F dX11_build_146 rfl rfl ?_
              refine pq_callV (As := []) F (k_X11_closure0 l D cy _ _ ?_ p77.2) ml_X11_168 haL_77 (by decide) rfl (Nat.le_of_ble_eq_true rfl) ⟨Nat.le_of_ble_eq_true rfl, Nat.le_of_ble_eq_true rfl⟩ ⟨by decide, by decide⟩ dX11_build_147 (fun v147 S147 w147 => ?_)
              · exact haL_77
              obtain ⟨hF147, y147, rfl, p147⟩ := w147
              have haL_147 := (hF147.1 _ _ haL_77 (by decide)).1
              have haoL_147 := (hF147.1 _ _ haoL_77 (by decide)).1
              have ec147_4_haL_147 := hF147.O haL_77 (by decide) (by decide) ec77_4_haL_77
              have haaL_147 := (hF147.1 _ _ haaL_77 (by decide)).1
              have ec147_5_haL_147 := hF147.O haL_77 (by decide) (by decide) ec77_5_haL_77
              have hseL_147 := (hF147.1 _ _ hseL_77 (by decide)).1
              have ec147_17_haL_147 := hF147.O haL_77 (by decide) (by decide) ec77_17_haL_77
              have hlbL_147 := (hF147.1 _ _ hlbL_77 (by decide)).1
              have ec147_18_haL_147 := hF147.O haL_77 (by decide) (by decide) ec77_18_haL_77
              have hnxL_147 := (hF147.1 _ _ hnxL_77 (by decide)).1
              have ec147_19_haL_147 := hF147.O haL_77 (by decide) (by decide) ec77_19_haL_77
              have hstL_147 := (hF147.1 _ _ hstL_77 (by decide)).1
              have ec147_21_haL_147 := hF147.O haL_77 (by decide) (by decide) ec77_21_haL_77
              have hskL_147 := (hF147.1 _ _ hskL_77 (by decide)).1
              have ec147_22_haL_147 := hF147.O haL_77 (by decide) (by decide) ec77_22_haL_77
              have hbtL_147 := (hF147.1 _ _ hbtL_77 (by decide)).1
              have ec147_28_haL_147 := hF147.O haL_77 (by decide) (by decide) ec77_28_haL_77
              have hhdL_147 := (hF147.1 _ _ hhdL_77 (by decide)).1
              have ec147_29_haL_147 := hF147.O haL_77 (by decide) (by decide) ec77_29_haL_77
              have hacL_147 := (hF147.1 _ _ hacL_77 (by decide)).1
              have ec147_30_haL_147 := hF147.O haL_77 (by decide) (by decide) ec77_30_haL_77
              have ec147_6_haL_147 := hF147.O haL_77 (by decide) (by decide) ec77_6_haL_77
              have ec147_9_haL_147 := hF147.O haL_77 (by decide) (by decide) f9s
              have ec147_20_haL_147 := hF147.O haL_77 (by decide) (by decide) ec77_20_haL_77
              have a147 := hF147.R a77 (by decide)
              have f4q := hF147.O a77 (by decide) (by decide) f47
              have haoq := hF147.R hao7 (by decide)
              have f5q := hF147.O a77 (by decide) (by decide) f57
              have haaq := hF147.R haa7 (by decide)
              have f17q := hF147.O a77 (by decide) (by decide) f177
              have hseq := hF147.R hse7 (by decide)
              have f18q := hF147.O a77 (by decide) (by decide) f187
              have hlbq := hF147.R hlb7 (by decide)
              have f19q := hF147.O a77 (by decide) (by decide) f197
              have hnxq := hF147.R hnx7 (by decide)
              have f21q := hF147.O a77 (by decide) (by decide) f217
              have hstq := hF147.R hst7 (by decide)
              have f22q := hF147.O a77 (by decide) (by decide) f227
              have hskq := hF147.R hsk7 (by decide)
              have f28q := hF147.O a77 (by decide) (by decide) f287
              have hbtq := hF147.R hbt7 (by decide)
              have f29q := hF147.O a77 (by decide) (by decide) f297
              have hhdq := hF147.R hhd7 (by decide)
              have f30q := hF147.O a77 (by decide) (by decide) f307
              have hacq := hF147.R hac7 (by decide)
              have y0 := p147.1
              have q23 := hF147.O a77 (by decide) (by decide) p77.1
              have q20 := hF147.O a77 (by decide) (by decide) (hF77.O haL (by decide) (by decide) b20.1)
              have q31 := hF147.O a77 (by decide) (by decide) (hF77.O haL (by decide) (by decide) b31)
              have qhd : hI S147 hd pf_h0 = 1 := (congrFun ((hF147.I hhd7 (by decide) (by decide)).trans (hF77.I hhdL (by decide) (by decide))) _).trans b20.2.1
              have qse : ∀ i, i < 7 → hJ S147 se (7 + i) = 0 := fun i hi => (congrFun ((hF147.2.2 se 182 hse7 (by decide) (by decide)).2.1.trans (hF77.2.2 se 182 hseL (by decide) (by decide)).2.1) _).trans (b20.2.2 i hi)
              have qst : hI S147 st 0 = xs + 1 := (congrFun ((hF147.I hst7 (by decide) (by decide)).trans (hF77.I hstL (by decide) (by decide))) 0).trans bs
              have qlb : hI S147 lb 0 = -1 := (congrFun ((hF147.I hlb7 (by decide) (by decide)).trans (hF77.I hlbL (by decide) (by decide))) 0).trans bl
              have qnx : ∀ i : Nat, (i : Int) < 128 → hI S147 nx i = 1 := fun i hi => (congrFun ((hF147.I hnx7 (by decide) (by decide)).trans (hF77.I hnxL (by decide) (by decide))) i).trans (bn i hi)
              refine pq_istore_n F dX11_build_150 rfl (by decide) ?_
              refine pq_iload_n F dX11_build_151 rfl rfl ?_
              refine pq_if_ne (tgt := 169) F dX11_build_152 (by decide) (fun c152 => ?_) (fun c152 => ?_)
              · skip
                refine pq_aload_n F dX11_build_169 rfl rfl ?_
                refine pq_get F haL_147 (by decide) lk_X11_175 ec147_18_haL_147 dX11_build_170 ?_
                refine pq_iload_n F dX11_build_173 rfl rfl ?_
                refine pq_iload_n F dX11_build_174 rfl rfl ?_
                refine pq_if_ne (tgt := 182) F dX11_build_175 (by decide) (fun c175 => ?_) (fun c175 => ?_)
                · skip
                  refine pq_iload_n F dX11_build_182 rfl rfl ?_
                  refine pq_iast F hlbL_147 (by decide) (by decide) rfl (fun n1_183 n2_183 => (by focus ((try clear ho); (try clear hag); (try clear hs0); (try clear hz); (try clear hzq); (try clear hz5); (try clear hph); (try clear hn1); (try clear K); (try clear ih); (try clear L39); (try clear L186); (try clear L196); (try clear L68); (try clear hG); (try clear hE); (try clear hE5); (try clear hfl); (try clear p5); (try clear qr); (try clear p302); (try clear hcs); (try clear b20); (try clear qse); (try clear qnx); (try clear bn); (try clear q5); (try clear q6); (try clear p77); (try clear p86); (try clear p147); (try clear hG6); simp only [vp_in_iff, Int32.lt_iff_toInt_lt, Int32.le_iff_toInt_le, ← Int32.toInt_inj, Int32.toInt_add, Int32.toInt_sub, Int32.toInt_mul, Int32.toInt_neg, pq_NuO, pq_NuI, pq_NuJ, pq_NuR, pq_shr6, pq_shr7, pq_shr8, lqm1, lq0, lq1, lq2, lq7, lq64, lq128, lq1024] at *; (try simp (disch := omega) only [pq_bm] at *); all_goals omega))) (⟨pq_any1 _, pq_any2 _⟩) dX11_build_183 ?_
                  refine pq_iconst (v := 0) F dX11_build_184 (by decide) ?_
                  refine pq_istore_n F dX11_build_185 rfl (by decide) ?_
                  have nhl := pq_nrole hhdq hlbq (by decide)
                  have nnl := pq_nrole hnxq hlbq (by decide)
                  refine pq_fgm [true, true, true, true, false, false] (L186 _ _ _ (by exact ((pq_Fr.rf (M := [(14, 31), (125, 0)]) (S := S147)).uI hlbq (by decide)).R a147 (by decide)) (by exact ((pq_Fr.rf (M := [(14, 31), (125, 0)]) (S := S147)).uI hlbq (by decide)).O a147 (by decide) (by decide) p147.2) (by first | exact Or.inl rfl | exact Or.inr rfl) (fun S6 hF6 hG6 q3 q4 q5 q6 => ?_) 1000 _ 0 (((hF.cm hF77 (by decide)).cm hF147 (by decide)).uI hlbL_147 (by first | decide | exact List.mem_cons_self)) pq_Fr.rf (Or.inr ⟨q20, (by simp only [pq_IuO, pq_IuJ, pq_Iu, pq_JuO, pq_JuI, pq_Ju, pq_RuO, pq_RuJ, pq_RuI, if_true, if_false, nhl]; exact qhd), qse⟩) (fun i hi => by simp only [pq_IuO, pq_IuJ, pq_Iu, pq_JuO, pq_JuI, pq_Ju, pq_RuO, pq_RuJ, pq_RuI, if_true, if_false, nnl]; exact qnx i (by have e1 : (0 + 1 : Int32).toInt = 1 := rfl; rw [lq0] at hi; first | omega | (simp only [e1] at hi; omega))) (by focus ((try clear ho); (try clear hag); (try clear hs0); (try clear hz); (try clear hzq); (try clear hz5); (try clear hph); (try clear hn1); (try clear K); (try clear ih); (try clear L39); (try clear L186); (try clear L196); (try clear L68); (try clear hG); (try clear hE); (try clear hE5); (try clear hfl); (try clear p5); (try clear qr); (try clear p302); (try clear hcs); (try clear b20); (try clear qse); (try clear qnx); (try clear bn); (try clear q5); (try clear q6); (try clear p77); (try clear p86); (try clear p147); (try clear hG6); simp only [vp_in_iff, Int32.lt_iff_toInt_lt, Int32.le_iff_toInt_le, ← Int32.toInt_inj, Int32.toInt_add, Int32.toInt_sub, Int32.toInt_mul, Int32.toInt_neg, pq_NuO, pq_NuI, pq_NuJ, pq_NuR, pq_shr6, pq_shr7, pq_shr8, lqm1, lq0, lq1, lq2, lq7, lq64, lq128, lq1024] at *; (try simp (disch := omega) only [pq_bm] at *); all_goals omega)) (by focus ((try clear ho); (try clear hag); (try clear hs0); (try clear hz); (try clear hzq); (try clear hz5); (try clear hph); (try clear hn1); (try clear K); (try clear ih); (try clear L39); (try clear L186); (try clear L196); (try clear L68); (try clear hG); (try clear hE); (try clear hE5); (try clear hfl); (try clear p5); (try clear qr); (try clear p302); (try clear hcs); (try clear b20); (try clear qse); (try clear qnx); (try clear bn); (try clear q5); (try clear q6); (try clear p77); (try clear p86); (try clear p147); (try clear hG6); simp only [vp_in_iff, Int32.lt_iff_toInt_lt, Int32.le_iff_toInt_le, ← Int32.toInt_inj, Int32.toInt_add, Int32.toInt_sub, Int32.toInt_mul, Int32.toInt_neg, pq_NuO, pq_NuI, pq_NuJ, pq_NuR, pq_shr6, pq_shr7, pq_shr8, lqm1, lq0, lq1, lq2, lq7, lq64, lq128, lq1024] at *; (try simp (disch := omega) only [pq_bm] at *); all_goals omega)) (by focus ((try clear ho); (try clear hag); (try clear hs0); (try clear hz); (try clear hzq); (try clear hz5); (try clear hph); (try clear hn1); (try clear K); (try clear ih); (try clear L39); (try clear L186); (try clear L196); (try clear L68); (try clear hG); (try clear hE); (try clear hE5); (try clear hfl); (try clear p5); (try clear qr); (try clear p302); (try clear hcs); (try clear b20); (try clear qse); (try clear qnx); (try clear bn); (try clear q5); (try clear q6); (try clear p77); (try clear p86); (try clear p147); (try clear hG6); simp only [vp_in_iff, Int32.lt_iff_toInt_lt, Int32.le_iff_toInt_le, ← Int32.toInt_inj, Int32.toInt_add, Int32.toInt_sub, Int32.toInt_mul, Int32.toInt_neg, pq_NuO, pq_NuI, pq_NuJ, pq_NuR, pq_shr6, pq_shr7, pq_shr8, lqm1, lq0, lq1, lq2, lq7, lq64, lq128, lq1024] at *; (try simp (disch := omega) only [pq_bm] at *); all_goals omega)))
                  have ha6 := hF6.R ha (by decide)
                  have w23 := hG6.O (show pq_R _ a 14 from ((pq_Fr.rf (M := [(14, 31), (125, 0)]) (S := S147)).uI hlbq (by decide)).R a147 (by decide)) (by decide) (by decide) (((pq_Fr.rf (M := [(14, 31), (125, 0)]) (S := S147)).uI hlbq (by decide)).O a147 (by decide) (by decide) q23)
                  have w31 := hG6.O (show pq_R _ a 14 from ((pq_Fr.rf (M := [(14, 31), (125, 0)]) (S := S147)).uI hlbq (by decide)).R a147 (by decide)) (by decide) (by decide) (show hO _ a 31 = .int 1 from q31)
                  have wst : hI S6 st 0 = xs + 1 := (congrFun (hG6.I (((pq_Fr.rf (M := [(14, 31), (125, 0)]) (S := S147)).uI hlbq (by decide)).R hstq (by decide)) (by decide) (by decide)) 0).trans ((congrFun (((pq_Fr.rf (M := [(14, 31), (125, 0)]) (S := S147)).uI hlbq (by decide)).I hstq (by decide) (by decide)) 0).trans qst)
                  have wlb := hG6.I (show pq_R _ lb 125 from ((pq_Fr.rf (M := [(14, 31), (125, 0)]) (S := S147)).uI hlbq (by decide)).R hlbq (by decide)) (by decide) (by decide)
                  refine pq_iinc (v := 1) F dX11_build_335 rfl (by decide) (by decide) ?_
                  refine pq_goto (tgt := 68) F dX11_build_338 (by decide) ?_
                  exact pq_fgm [true, true, false, false, false, false] (ih _ _ hF6 (Or.inr (Or.inr ⟨rfl, q3, w31, ⟨(by rw [wlb]; simp only [pq_IuO, pq_IuJ, pq_Iu, pq_JuO, pq_JuI, pq_Ju, pq_RuO, pq_RuJ, pq_RuI, if_true, if_false]; exact (pk_un (by decide)).trans qlb), (by rw [wlb]; simp only [pq_IuO, pq_IuJ, pq_Iu, pq_JuO, pq_JuI, pq_Ju, pq_RuO, pq_RuJ, pq_RuI, if_true, if_false]; exact pk_us.trans y0)⟩, (fun i hi => q6 i (by have e1 : (1 : Int32).toInt = 1 := rfl; rw [e1]; omega)), w23, wst⟩)) (by focus ((try clear ho); (try clear hag); (try clear hs0); (try clear hz); (try clear hzq); (try clear hz5); (try clear hph); (try clear hn1); (try clear K); (try clear ih); (try clear L39); (try clear L186); (try clear L196); (try clear L68); (try clear hG); (try clear hE); (try clear hE5); (try clear hfl); (try clear p5); (try clear qr); (try clear p302); (try clear hcs); (try clear b20); (try clear qse); (try clear qnx); (try clear bn); (try clear q5); (try clear q6); (try clear p77); (try clear p86); (try clear p147); (try clear hG6); simp only [vp_in_iff, Int32.lt_iff_toInt_lt, Int32.le_iff_toInt_le, ← Int32.toInt_inj, Int32.toInt_add, Int32.toInt_sub, Int32.toInt_mul, Int32.toInt_neg, pq_NuO, pq_NuI, pq_NuJ, pq_NuR, pq_shr6, pq_shr7, pq_shr8, lqm1, lq0, lq1, lq2, lq7, lq64, lq128, lq1024] at *; (try simp (disch := omega) only [pq_bm] at *); all_goals omega)))
                · exact absurd c175 (by decide)
              · exact absurd c152 (by decide)
            · exact False.elim (by focus ((try clear ho); (try clear hag); (try clear hs0); (try clear hz); (try clear hzq); (try clear hz5); (try clear hph); (try clear hn1); (try clear K); (try clear ih); (try clear L39); (try clear L186); (try clear L196); (try clear L68); (try clear hG); (try clear hE); (try clear hE5); (try clear hfl); (try clear p5); (try clear qr); (try clear p302); (try clear hcs); (try clear b20); (try clear qse); (try clear qnx); (try clear bn); (try clear q5); (try clear q6); (try clear p77); (try clear p86); (try clear p147); (try clear hG6); simp only [vp_in_iff, Int32.lt_iff_toInt_lt, Int32.le_iff_toInt_le, ← Int32.toInt_inj, Int32.toInt_add, Int32.toInt_sub, Int32.toInt_mul, Int32.toInt_neg, pq_NuO, pq_NuI, pq_NuJ, pq_NuR, pq_shr6, pq_shr7, pq_shr8, lqm1, lq0, lq1, lq2, lq7, lq64, lq128, lq1024] at *; (try simp (disch := omega) only [pq_bm] at *); all_goals omega))
          · exact absurd c81 (by decide)
      · skip
        refine pq_iload_n F dX11_build_68 rfl rfl ?_
        refine pq_aload_n F dX11_build_69 rfl rfl ?_
        refine pq_get F haL (by decide) lk_X11_159 b20 dX11_build_70 ?_
        refine pq_icmp_ge (tgt := 341) F dX11_build_73 (by decide) (fun c73 => ?_) (fun c73 => ?_)
        · skip
          refine pq_iconst (v := 1) F dX11_build_341 (by decide) ?_
          exact pq_zret F hr hlk hA rfl (Nat.le_refl _) (Nat.le_refl _) (⟨hF, 1, rfl, (by focus ((try clear ho); (try clear hag); (try clear hs0); (try clear hz); (try clear hzq); (try clear hz5); (try clear hph); (try clear hn1); (try clear K); (try clear ih); (try clear L39); (try clear L186); (try clear L196); (try clear L68); (try clear hG); (try clear hE); (try clear hE5); (try clear hfl); (try clear p5); (try clear qr); (try clear p302); (try clear hcs); (try clear b20); (try clear qse); (try clear qnx); (try clear bn); (try clear q5); (try clear q6); (try clear p77); (try clear p86); (try clear p147); (try clear hG6); simp only [vp_in_iff, Int32.lt_iff_toInt_lt, Int32.le_iff_toInt_le, ← Int32.toInt_inj, Int32.toInt_add, Int32.toInt_sub, Int32.toInt_mul, Int32.toInt_neg, pq_NuO, pq_NuI, pq_NuJ, pq_NuR, pq_shr6, pq_shr7, pq_shr8, lqm1, lq0, lq1, lq2, lq7, lq64, lq128, lq1024] at *; (try simp (disch := omega) only [pq_bm] at *); all_goals omega)), (by focus ((try clear ho); (try clear hag); (try clear hs0); (try clear hz); (try clear hzq); (try clear hz5); (try clear hph); (try clear hn1); (try clear K); (try clear ih); (try clear L39); (try clear L186); (try clear L196); (try clear L68); (try clear hG); (try clear hE); (try clear hE5); (try clear hfl); (try clear p5); (try clear qr); (try clear p302); (try clear hcs); (try clear b20); (try clear qse); (try clear qnx); (try clear bn); (try clear q5); (try clear q6); (try clear p77); (try clear p86); (try clear p147); (try clear hG6); simp only [vp_in_iff, Int32.lt_iff_toInt_lt, Int32.le_iff_toInt_le, ← Int32.toInt_inj, Int32.toInt_add, Int32.toInt_sub, Int32.toInt_mul, Int32.toInt_neg, pq_NuO, pq_NuI, pq_NuJ, pq_NuR, pq_shr6, pq_shr7, pq_shr8, lqm1, lq0, lq1, lq2, lq7, lq64, lq128, lq1024] at *; (try simp (disch := omega) only [pq_bm] at *); all_goals omega)), rfl, b20, b31, bl, (fun i hi => bn i (Int.ofNat_lt.mpr hi)), b23, bs⟩) dX11_build_342
        · exact False.elim (by focus ((try clear ho); (try clear hag); (try clear hs0); (try clear hz); (try clear hzq); (try clear hz5); (try clear hph); (try clear hn1); (try clear K); (try clear ih); (try clear L39); (try clear L186); (try clear L196); (try clear L68); (try clear hG); (try clear hE); (try clear hE5); (try clear hfl); (try clear p5); (try clear qr); (try clear p302); (try clear hcs); (try clear b20); (try clear qse); (try clear qnx); (try clear bn); (try clear q5); (try clear q6); (try clear p77); (try clear p86); (try clear p147); (try clear hG6); simp only [vp_in_iff, Int32.lt_iff_toInt_lt, Int32.le_iff_toInt_le, ← Int32.toInt_inj, Int32.toInt_add, Int32.toInt_sub, Int32.toInt_mul, Int32.toInt_neg, pq_NuO, pq_NuI, pq_NuJ, pq_NuR, pq_shr6, pq_shr7, pq_shr8, lqm1, lq0, lq1, lq2, lq7, lq64, lq128, lq1024] at *; (try simp (disch := omega) only [pq_bm] at *); all_goals omega))
  have L39 : ∀  (fu : Nat) (S1 : HS) (q : Int32)  (hF : pq_Fr [(131, 0), (14, 20), (182, 0), (132, 0), (14, 23), (14, 24), (127, 0), (128, 0), (14, 26), (14, 31), (125, 0), (126, 0), (183, 0)] S S1) (hG : pq_Fr [(131, 0)] S S1) (hfl : ∀ j : Nat, (j : Int) < q.toInt → hI S1 hd j = -1) (hq0 : 0 ≤ q.toInt) (hq1 : q.toInt ≤ 1024), (1024 - q.toInt).toNat < fu → pq_At p l e (pq_rm 3 0 0) s m args below meth c (pq_Z below args s D cy S 0 0 (fun v S2 => pq_Fr [(131, 0), (14, 20), (182, 0), (132, 0), (14, 23), (14, 24), (127, 0), (128, 0), (14, 26), (14, 31), (125, 0), (126, 0), (183, 0)] S S2 ∧ ∃ x : Int32, v = some (.int x) ∧ 0 ≤ x.toInt ∧ x.toInt ≤ 1 ∧ (x = 1 ∧ hO S2 a 20 = .int 2 ∧ hO S2 a 31 = .int 1 ∧ (hI S2 lb 0 = -1 ∧ hI S2 lb 1 = -1) ∧ (∀ i : Nat, i < 256 → hI S2 nx i = 1) ∧ hO S2 a 23 = .int (xs + 1 + 1) ∧ hI S2 st 0 = xs + 1))) D cy A 6 0 0 39 S1 [some (.ref a), some (.int q), none, none, none, none] [] := by
    intro  fu
    induction fu with
    | zero => intro S1 q hF hG hfl hq0 hq1 hm; exact absurd hm (Nat.not_lt_zero _)
    | succ fu ih =>
      intro S1 q hF hG hfl hq0 hq1 hm
      have haL := hF.R ha (by first | decide | omega)
      have f29L := hF.O ha (by decide) (by decide) f29
      have hhdL := hF.R hhd (by decide)
      refine pq_iload_n F dX11_build_39 rfl rfl ?_
      refine pq_aload_n F dX11_build_40 rfl rfl ?_
      refine pq_get F haL (by decide) lk_X11_150 f29L dX11_build_41 ?_
      refine pq_alen F hhdL (by decide) rfl dX11_build_44 (fun l44 u44 => ?_)
      have nq44 := nI_toInt (n := hN _ hd) (Nat.lt_of_le_of_lt u44 (by decide))
      refine pq_icmp_ge (tgt := 61) F dX11_build_45 (by decide) (fun c45 => ?_) (fun c45 => ?_)
      · skip
        refine pq_aload_n F dX11_build_61 rfl rfl ?_
        refine pq_iconst (v := 1) F dX11_build_62 (by decide) ?_
        refine pq_putI F haL (by decide) lp_X11_159 rfl (by focus ((try clear ho); (try clear hag); (try clear hs0); (try clear hz); (try clear hzq); (try clear hz5); (try clear hph); (try clear hn1); (try clear K); (try clear ih); (try clear L39); (try clear L186); (try clear L196); (try clear L68); (try clear hG); (try clear hE); (try clear hE5); (try clear hfl); (try clear p5); (try clear qr); (try clear p302); (try clear hcs); (try clear b20); (try clear qse); (try clear qnx); (try clear bn); (try clear q5); (try clear q6); (try clear p77); (try clear p86); (try clear p147); (try clear hG6); simp only [vp_in_iff, Int32.lt_iff_toInt_lt, Int32.le_iff_toInt_le, ← Int32.toInt_inj, Int32.toInt_add, Int32.toInt_sub, Int32.toInt_mul, Int32.toInt_neg, pq_NuO, pq_NuI, pq_NuJ, pq_NuR, pq_shr6, pq_shr7, pq_shr8, lqm1, lq0, lq1, lq2, lq7, lq64, lq128, lq1024] at *; (try simp (disch := omega) only [pq_bm] at *); all_goals omega)) (by focus ((try clear ho); (try clear hag); (try clear hs0); (try clear hz); (try clear hzq); (try clear hz5); (try clear hph); (try clear hn1); (try clear K); (try clear ih); (try clear L39); (try clear L186); (try clear L196); (try clear L68); (try clear hG); (try clear hE); (try clear hE5); (try clear hfl); (try clear p5); (try clear qr); (try clear p302); (try clear hcs); (try clear b20); (try clear qse); (try clear qnx); (try clear bn); (try clear q5); (try clear q6); (try clear p77); (try clear p86); (try clear p147); (try clear hG6); simp only [vp_in_iff, Int32.lt_iff_toInt_lt, Int32.le_iff_toInt_le, ← Int32.toInt_inj, Int32.toInt_add, Int32.toInt_sub, Int32.toInt_mul, Int32.toInt_neg, pq_NuO, pq_NuI, pq_NuJ, pq_NuR, pq_shr6, pq_shr7, pq_shr8, lqm1, lq0, lq1, lq2, lq7, lq64, lq128, lq1024] at *; (try simp (disch := omega) only [pq_bm] at *); all_goals omega)) dX11_build_63 ?_
        refine pq_iconst (v := 0) F dX11_build_66 (by decide) ?_
        refine pq_istore_n F dX11_build_67 rfl (by decide) ?_
        exact pq_fgm [true, true, false, false, false, false] (L68 10 _ 0 (hF.uO haL (by decide)) (Or.inl ⟨rfl, pq_ks, (by show hI S1 hd pf_h0 = -1; exact hfl _ (by have e5 : q.toInt = 1024 := (by focus ((try clear ho); (try clear hag); (try clear hs0); (try clear hz); (try clear hzq); (try clear hz5); (try clear hph); (try clear hn1); (try clear K); (try clear ih); (try clear L39); (try clear L186); (try clear L196); (try clear L68); (try clear hG); (try clear hE); (try clear hE5); (try clear hfl); (try clear p5); (try clear qr); (try clear p302); (try clear hcs); (try clear b20); (try clear qse); (try clear qnx); (try clear bn); (try clear q5); (try clear q6); (try clear p77); (try clear p86); (try clear p147); (try clear hG6); simp only [vp_in_iff, Int32.lt_iff_toInt_lt, Int32.le_iff_toInt_le, ← Int32.toInt_inj, Int32.toInt_add, Int32.toInt_sub, Int32.toInt_mul, Int32.toInt_neg, pq_NuO, pq_NuI, pq_NuJ, pq_NuR, pq_shr6, pq_shr7, pq_shr8, lqm1, lq0, lq1, lq2, lq7, lq64, lq128, lq1024] at *; (try simp (disch := omega) only [pq_bm] at *); all_goals omega)); rw [e5]; exact Int.ofNat_lt.mpr (Nat.lt_of_lt_of_le pf_h0lt (Nat.le_refl _)))), (pq_kp (hG.O ha (by decide) (by decide) f23) (by decide)), (by show (hI S1 st 0).toInt ≤ xs.toInt; rw [hG.I hst (by decide) (by decide)]; exact hs0)⟩) (by decide))
      · skip
        refine pq_aload_n F dX11_build_48 rfl rfl ?_
        refine pq_get F haL (by decide) lk_X11_150 f29L dX11_build_49 ?_
        refine pq_iload_n F dX11_build_52 rfl rfl ?_
        refine pq_iconst (v := -1) F dX11_build_53 (by decide) ?_
        refine pq_iast F hhdL (by decide) (by decide) rfl (fun n1_54 n2_54 => (by focus ((try clear ho); (try clear hag); (try clear hs0); (try clear hz); (try clear hzq); (try clear hz5); (try clear hph); (try clear hn1); (try clear K); (try clear ih); (try clear L39); (try clear L186); (try clear L196); (try clear L68); (try clear hG); (try clear hE); (try clear hE5); (try clear hfl); (try clear p5); (try clear qr); (try clear p302); (try clear hcs); (try clear b20); (try clear qse); (try clear qnx); (try clear bn); (try clear q5); (try clear q6); (try clear p77); (try clear p86); (try clear p147); (try clear hG6); simp only [vp_in_iff, Int32.lt_iff_toInt_lt, Int32.le_iff_toInt_le, ← Int32.toInt_inj, Int32.toInt_add, Int32.toInt_sub, Int32.toInt_mul, Int32.toInt_neg, pq_NuO, pq_NuI, pq_NuJ, pq_NuR, pq_shr6, pq_shr7, pq_shr8, lqm1, lq0, lq1, lq2, lq7, lq64, lq128, lq1024] at *; (try simp (disch := omega) only [pq_bm] at *); all_goals omega))) (⟨(by focus ((try clear ho); (try clear hag); (try clear hs0); (try clear hz); (try clear hzq); (try clear hz5); (try clear hph); (try clear hn1); (try clear K); (try clear ih); (try clear L39); (try clear L186); (try clear L196); (try clear L68); (try clear hG); (try clear hE); (try clear hE5); (try clear hfl); (try clear p5); (try clear qr); (try clear p302); (try clear hcs); (try clear b20); (try clear qse); (try clear qnx); (try clear bn); (try clear q5); (try clear q6); (try clear p77); (try clear p86); (try clear p147); (try clear hG6); simp only [vp_in_iff, Int32.lt_iff_toInt_lt, Int32.le_iff_toInt_le, ← Int32.toInt_inj, Int32.toInt_add, Int32.toInt_sub, Int32.toInt_mul, Int32.toInt_neg, pq_NuO, pq_NuI, pq_NuJ, pq_NuR, pq_shr6, pq_shr7, pq_shr8, lqm1, lq0, lq1, lq2, lq7, lq64, lq128, lq1024] at *; (try simp (disch := omega) only [pq_bm] at *); all_goals omega)), (by focus ((try clear ho); (try clear hag); (try clear hs0); (try clear hz); (try clear hzq); (try clear hz5); (try clear hph); (try clear hn1); (try clear K); (try clear ih); (try clear L39); (try clear L186); (try clear L196); (try clear L68); (try clear hG); (try clear hE); (try clear hE5); (try clear hfl); (try clear p5); (try clear qr); (try clear p302); (try clear hcs); (try clear b20); (try clear qse); (try clear qnx); (try clear bn); (try clear q5); (try clear q6); (try clear p77); (try clear p86); (try clear p147); (try clear hG6); simp only [vp_in_iff, Int32.lt_iff_toInt_lt, Int32.le_iff_toInt_le, ← Int32.toInt_inj, Int32.toInt_add, Int32.toInt_sub, Int32.toInt_mul, Int32.toInt_neg, pq_NuO, pq_NuI, pq_NuJ, pq_NuR, pq_shr6, pq_shr7, pq_shr8, lqm1, lq0, lq1, lq2, lq7, lq64, lq128, lq1024] at *; (try simp (disch := omega) only [pq_bm] at *); all_goals omega))⟩) dX11_build_54 ?_
        refine pq_iinc (v := 1) F dX11_build_55 rfl (by decide) (by decide) ?_
        refine pq_goto (tgt := 39) F dX11_build_58 (by decide) ?_
        exact pq_fgm [true, true, false, false, false, false] (ih _ _ (hF.uI hhdL (by first | decide | exact List.mem_cons_self)) (hG.uI hhdL (by first | decide | exact List.mem_cons_self)) (fun j hj => (by simp only [pq_IuO, pq_IuJ, pq_Iu, pq_JuO, pq_JuI, pq_Ju, pq_RuO, pq_RuJ, pq_RuI, if_true, if_false]; have cq := pq_cl hq0; by_cases e : j = q.toNatClampNeg; (rw [e, pk_us]); (rw [pk_un e]; exact hfl j (by clear hfl; focus ((try clear ho); (try clear hag); (try clear hs0); (try clear hz); (try clear hzq); (try clear hz5); (try clear hph); (try clear hn1); (try clear K); (try clear ih); (try clear L39); (try clear L186); (try clear L196); (try clear L68); (try clear hG); (try clear hE); (try clear hE5); (try clear hfl); (try clear p5); (try clear qr); (try clear p302); (try clear hcs); (try clear b20); (try clear qse); (try clear qnx); (try clear bn); (try clear q5); (try clear q6); (try clear p77); (try clear p86); (try clear p147); (try clear hG6); simp only [vp_in_iff, Int32.lt_iff_toInt_lt, Int32.le_iff_toInt_le, ← Int32.toInt_inj, Int32.toInt_add, Int32.toInt_sub, Int32.toInt_mul, Int32.toInt_neg, pq_NuO, pq_NuI, pq_NuJ, pq_NuR, pq_shr6, pq_shr7, pq_shr8, lqm1, lq0, lq1, lq2, lq7, lq64, lq128, lq1024] at *; (try simp (disch := omega) only [pq_bm] at *); all_goals omega))))) (by focus ((try clear ho); (try clear hag); (try clear hs0); (try clear hz); (try clear hzq); (try clear hz5); (try clear hph); (try clear hn1); (try clear K); (try clear ih); (try clear L39); (try clear L186); (try clear L196); (try clear L68); (try clear hG); (try clear hE); (try clear hE5); (try clear hfl); (try clear p5); (try clear qr); (try clear p302); (try clear hcs); (try clear b20); (try clear qse); (try clear qnx); (try clear bn); (try clear q5); (try clear q6); (try clear p77); (try clear p86); (try clear p147); (try clear hG6); simp only [vp_in_iff, Int32.lt_iff_toInt_lt, Int32.le_iff_toInt_le, ← Int32.toInt_inj, Int32.toInt_add, Int32.toInt_sub, Int32.toInt_mul, Int32.toInt_neg, pq_NuO, pq_NuI, pq_NuJ, pq_NuR, pq_shr6, pq_shr7, pq_shr8, lqm1, lq0, lq1, lq2, lq7, lq64, lq128, lq1024] at *; (try simp (disch := omega) only [pq_bm] at *); all_goals omega)) (by focus ((try clear ho); (try clear hag); (try clear hs0); (try clear hz); (try clear hzq); (try clear hz5); (try clear hph); (try clear hn1); (try clear K); (try clear ih); (try clear L39); (try clear L186); (try clear L196); (try clear L68); (try clear hG); (try clear hE); (try clear hE5); (try clear hfl); (try clear p5); (try clear qr); (try clear p302); (try clear hcs); (try clear b20); (try clear qse); (try clear qnx); (try clear bn); (try clear q5); (try clear q6); (try clear p77); (try clear p86); (try clear p147); (try clear hG6); simp only [vp_in_iff, Int32.lt_iff_toInt_lt, Int32.le_iff_toInt_le, ← Int32.toInt_inj, Int32.toInt_add, Int32.toInt_sub, Int32.toInt_mul, Int32.toInt_neg, pq_NuO, pq_NuI, pq_NuJ, pq_NuR, pq_shr6, pq_shr7, pq_shr8, lqm1, lq0, lq1, lq2, lq7, lq64, lq128, lq1024] at *; (try simp (disch := omega) only [pq_bm] at *); all_goals omega)) (by focus ((try clear ho); (try clear hag); (try clear hs0); (try clear hz); (try clear hzq); (try clear hz5); (try clear hph); (try clear hn1); (try clear K); (try clear ih); (try clear L39); (try clear L186); (try clear L196); (try clear L68); (try clear hG); (try clear hE); (try clear hE5); (try clear hfl); (try clear p5); (try clear qr); (try clear p302); (try clear hcs); (try clear b20); (try clear qse); (try clear qnx); (try clear bn); (try clear q5); (try clear q6); (try clear p77); (try clear p86); (try clear p147); (try clear hG6); simp only [vp_in_iff, Int32.lt_iff_toInt_lt, Int32.le_iff_toInt_le, ← Int32.toInt_inj, Int32.toInt_add, Int32.toInt_sub, Int32.toInt_mul, Int32.toInt_neg, pq_NuO, pq_NuI, pq_NuJ, pq_NuR, pq_shr6, pq_shr7, pq_shr8, lqm1, lq0, lq1, lq2, lq7, lq64, lq128, lq1024] at *; (try simp (disch := omega) only [pq_bm] at *); all_goals omega)))
  refine pq_iconst (v := 0) F dX11_build_0 (by decide) ?_
  refine pq_istore_n F dX11_build_1 rfl (by decide) ?_
  refine pq_iload_n F dX11_build_2 rfl rfl ?_
  refine pq_aload_n F dX11_build_3 rfl rfl ?_
  refine pq_get F ha (by decide) lk_X11_7 f6 dX11_build_4 ?_
  refine pq_icmp_ge (tgt := 37) F dX11_build_7 (by decide) (fun c7 => ?_) (fun c7 => ?_)
  · exact False.elim (by focus ((try clear ho); (try clear hag); (try clear hs0); (try clear hz); (try clear hzq); (try clear hz5); (try clear hph); (try clear hn1); (try clear K); (try clear ih); (try clear L39); (try clear L186); (try clear L196); (try clear L68); (try clear hG); (try clear hE); (try clear hE5); (try clear hfl); (try clear p5); (try clear qr); (try clear p302); (try clear hcs); (try clear b20); (try clear qse); (try clear qnx); (try clear bn); (try clear q5); (try clear q6); (try clear p77); (try clear p86); (try clear p147); (try clear hG6); simp only [vp_in_iff, Int32.lt_iff_toInt_lt, Int32.le_iff_toInt_le, ← Int32.toInt_inj, Int32.toInt_add, Int32.toInt_sub, Int32.toInt_mul, Int32.toInt_neg, pq_NuO, pq_NuI, pq_NuJ, pq_NuR, pq_shr6, pq_shr7, pq_shr8, lqm1, lq0, lq1, lq2, lq7, lq64, lq128, lq1024] at *; (try simp (disch := omega) only [pq_bm] at *); all_goals omega))
  · skip
    refine pq_aload_n F dX11_build_10 rfl rfl ?_
    refine pq_get F ha (by decide) lk_X11_10 f4 dX11_build_11 ?_
    refine pq_iload_n F dX11_build_14 rfl rfl ?_
    refine pq_iald F hao (by decide) (by decide) rfl (fun n1_15 n2_15 => (by focus ((try clear ho); (try clear hag); (try clear hs0); (try clear hz); (try clear hzq); (try clear hz5); (try clear hph); (try clear hn1); (try clear K); (try clear ih); (try clear L39); (try clear L186); (try clear L196); (try clear L68); (try clear hG); (try clear hE); (try clear hE5); (try clear hfl); (try clear p5); (try clear qr); (try clear p302); (try clear hcs); (try clear b20); (try clear qse); (try clear qnx); (try clear bn); (try clear q5); (try clear q6); (try clear p77); (try clear p86); (try clear p147); (try clear hG6); simp only [vp_in_iff, Int32.lt_iff_toInt_lt, Int32.le_iff_toInt_le, ← Int32.toInt_inj, Int32.toInt_add, Int32.toInt_sub, Int32.toInt_mul, Int32.toInt_neg, pq_NuO, pq_NuI, pq_NuJ, pq_NuR, pq_shr6, pq_shr7, pq_shr8, lqm1, lq0, lq1, lq2, lq7, lq64, lq128, lq1024] at *; (try simp (disch := omega) only [pq_bm] at *); all_goals omega))) dX11_build_15 (fun x15 e15 l15 u15 => ?_)
    refine pq_if_ne (tgt := 31) F dX11_build_16 (by decide) (fun c16 => ?_) (fun c16 => ?_)
    · skip
      refine pq_iinc (v := 1) F dX11_build_31 rfl (by decide) (by decide) ?_
      refine pq_goto (tgt := 2) F dX11_build_34 (by decide) ?_
      refine pq_iload_n F dX11_build_2 rfl rfl ?_
      refine pq_aload_n F dX11_build_3 rfl rfl ?_
      refine pq_get F ha (by decide) lk_X11_7 f6 dX11_build_4 ?_
      refine pq_icmp_ge (tgt := 37) F dX11_build_7 (by decide) (fun c7 => ?_) (fun c7 => ?_)
      · skip
        refine pq_iconst (v := 0) F dX11_build_37 (by decide) ?_
        refine pq_istore_n F dX11_build_38 rfl (by decide) ?_
        exact pq_fgm [true, true, false, false, false, false] (L39 2000 _ 0 pq_Fr.rf pq_Fr.rf (fun j hj => absurd hj (by have : (0 : Int32).toInt = 0 := rfl; omega)) (by focus ((try clear ho); (try clear hag); (try clear hs0); (try clear hz); (try clear hzq); (try clear hz5); (try clear hph); (try clear hn1); (try clear K); (try clear ih); (try clear L39); (try clear L186); (try clear L196); (try clear L68); (try clear hG); (try clear hE); (try clear hE5); (try clear hfl); (try clear p5); (try clear qr); (try clear p302); (try clear hcs); (try clear b20); (try clear qse); (try clear qnx); (try clear bn); (try clear q5); (try clear q6); (try clear p77); (try clear p86); (try clear p147); (try clear hG6); simp only [vp_in_iff, Int32.lt_iff_toInt_lt, Int32.le_iff_toInt_le, ← Int32.toInt_inj, Int32.toInt_add, Int32.toInt_sub, Int32.toInt_mul, Int32.toInt_neg, pq_NuO, pq_NuI, pq_NuJ, pq_NuR, pq_shr6, pq_shr7, pq_shr8, lqm1, lq0, lq1, lq2, lq7, lq64, lq128, lq1024] at *; (try simp (disch := omega) only [pq_bm] at *); all_goals omega)) (by focus ((try clear ho); (try clear hag); (try clear hs0); (try clear hz); (try clear hzq); (try clear hz5); (try clear hph); (try clear hn1); (try clear K); (try clear ih); (try clear L39); (try clear L186); (try clear L196); (try clear L68); (try clear hG); (try clear hE); (try clear hE5); (try clear hfl); (try clear p5); (try clear qr); (try clear p302); (try clear hcs); (try clear b20); (try clear qse); (try clear qnx); (try clear bn); (try clear q5); (try clear q6); (try clear p77); (try clear p86); (try clear p147); (try clear hG6); simp only [vp_in_iff, Int32.lt_iff_toInt_lt, Int32.le_iff_toInt_le, ← Int32.toInt_inj, Int32.toInt_add, Int32.toInt_sub, Int32.toInt_mul, Int32.toInt_neg, pq_NuO, pq_NuI, pq_NuJ, pq_NuR, pq_shr6, pq_shr7, pq_shr8, lqm1, lq0, lq1, lq2, lq7, lq64, lq128, lq1024] at *; (try simp (disch := omega) only [pq_bm] at *); all_goals omega)) (by focus ((try clear ho); (try clear hag); (try clear hs0); (try clear hz); (try clear hzq); (try clear hz5); (try clear hph); (try clear hn1); (try clear K); (try clear ih); (try clear L39); (try clear L186); (try clear L196); (try clear L68); (try clear hG); (try clear hE); (try clear hE5); (try clear hfl); (try clear p5); (try clear qr); (try clear p302); (try clear hcs); (try clear b20); (try clear qse); (try clear qnx); (try clear bn); (try clear q5); (try clear q6); (try clear p77); (try clear p86); (try clear p147); (try clear hG6); simp only [vp_in_iff, Int32.lt_iff_toInt_lt, Int32.le_iff_toInt_le, ← Int32.toInt_inj, Int32.toInt_add, Int32.toInt_sub, Int32.toInt_mul, Int32.toInt_neg, pq_NuO, pq_NuI, pq_NuJ, pq_NuR, pq_shr6, pq_shr7, pq_shr8, lqm1, lq0, lq1, lq2, lq7, lq64, lq128, lq1024] at *; (try simp (disch := omega) only [pq_bm] at *); all_goals omega)))
      · exact False.elim (by focus ((try clear ho); (try clear hag); (try clear hs0); (try clear hz); (try clear hzq); (try clear hz5); (try clear hph); (try clear hn1); (try clear K); (try clear ih); (try clear L39); (try clear L186); (try clear L196); (try clear L68); (try clear hG); (try clear hE); (try clear hE5); (try clear hfl); (try clear p5); (try clear qr); (try clear p302); (try clear hcs); (try clear b20); (try clear qse); (try clear qnx); (try clear bn); (try clear q5); (try clear q6); (try clear p77); (try clear p86); (try clear p147); (try clear hG6); simp only [vp_in_iff, Int32.lt_iff_toInt_lt, Int32.le_iff_toInt_le, ← Int32.toInt_inj, Int32.toInt_add, Int32.toInt_sub, Int32.toInt_mul, Int32.toInt_neg, pq_NuO, pq_NuI, pq_NuJ, pq_NuR, pq_shr6, pq_shr7, pq_shr8, lqm1, lq0, lq1, lq2, lq7, lq64, lq128, lq1024] at *; (try simp (disch := omega) only [pq_bm] at *); all_goals omega))
    · exact absurd (c16.symm.trans (e15.trans ho)) (by decide)

