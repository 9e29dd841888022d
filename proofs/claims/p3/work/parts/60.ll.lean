/-! ===== the script: a row outside the pool, read alone ===== -/
section SL
variable {p : Program} {l : Launch} {e : Env} {R : Room} {s : State} {m : MethodId} {args : Array Value} {below : List Frame} {meth : Method} {c : Code} {Q : State → Prop} {D : va_G} {cy : Nat → ClassId} {A : Nat → Prop} {nL : Nat} {cc : ByteArray} {own : String} {cells slots pc : Nat} {S : HS} {lc : List (Option Value)} {st : List Value}
theorem pq_sld (F : pq_Fx p R s m args c D cy A cc nL own) {b L : Nat} {xs : Nat → Int32} (hX : va_X b L xs s s.heap) (hbl : b < s.heap.size) (hbA : ¬ A b) {i : Int32} (hin : vp_in i L) (hdg : decode cc pc = .ok (.iaload, 1)) (kk : ∀ x : Int32, x = xs i.toNatClampNeg → pq_At p l e R s m args below meth c Q D cy A nL cells slots (pc + 1) S lc (.int x :: st)) : pq_At p l e R s m args below meth c Q D cy A nL cells slots pc S lc (.int i :: .ref b :: st) :=
  fun H locs ls hT hP hD hS hl => va_sld F.1 F.2.1 hX hbl hbA hS hin hdg (kk _ rfl H locs ls hT hP hD hS hl)
theorem pq_slen (F : pq_Fx p R s m args c D cy A cc nL own) {b L : Nat} {xs : Nat → Int32} (hX : va_X b L xs s s.heap) (hbl : b < s.heap.size) (hbA : ¬ A b) (hL : L ≤ 384) (hdg : decode cc pc = .ok (.arraylength, 1)) (kk : ∀ x : Int32, x.toInt = (L : Int) → pq_At p l e R s m args below meth c Q D cy A nL cells slots (pc + 1) S lc (.int x :: st)) : pq_At p l e R s m args below meth c Q D cy A nL cells slots pc S lc (.ref b :: st) :=
  fun H locs ls hT hP hD hS hl => va_slen F.1 F.2.1 hX hbl hbA hS hdg (kk _ (nI_toInt (n := L) (by omega)) H locs ls hT hP hD hS hl)
end SL

theorem pq_lgc (x : Int64) : lg_cmp x x = 0 := by simp [lg_cmp]
set_option maxHeartbeats 4000000 in
set_option maxRecDepth 100000 in
theorem k_L_law (l : Launch) (D : va_G) (cy : Nat → ClassId) (hl0 : l.stackTraces = false) (S : HS) (b L : Nat) (xs : Nat → Int32) (hL : L ≤ 384) (hOct : ∀ (S : HS) (a : Nat) (ha : pq_R S a 13) (pi : Int32) (ou : Nat) (hou : pq_R S ou 186) (t : Int32) (np nq : Nat) (hIx : pq_Ix S a t np nq) (hol : hN S ou = 1), pq_CH l D cy yL_octet cL_octet 4 (some .int) [(0, 9, 12, 39)] 7 1 6 S [.ref a, .int pi, .ref ou] (fun v S2 => pq_Fr [(186, 0)] S S2 ∧ ∃ x : Int32, v = some (.int x) ∧ 0 ≤ x.toInt ∧ x.toInt ≤ 1 ∧ (pq_Ix S2 a t np nq)) pq_Dn) {p : Program} {e : Env} {s : State} {m : MethodId} {args : Array Value} {below : List Frame} {meth : Method} {c : Code} {A : Nat → Prop} (F : pq_Fx p room_1 s m args c D cy A cL_law 8 yL_law.cls) (hr : meth.sig.returnType = some .boolean) (hlk : meth.locks = false) (hA : A = va_A (pq_pl cy S) s.heap.size) (hEx : pq_Dn s ∧ va_Nc "java/lang/UnsupportedOperationException" "java/lang/IllegalArgumentException" s ∧ va_Nc "java/lang/IndexOutOfBoundsException" "java/lang/IllegalArgumentException" s ∧ va_Nc "java/lang/IndexOutOfBoundsException" "java/lang/UnsupportedOperationException" s) (hX : va_X b L xs s s.heap) (hbl : b < s.heap.size) (hbA : ¬ A b) : pq_At p l e room_1 s m args below meth c (pq_Z below args s D cy S 600128 7301098 (fun v S2 => pq_Fr [(12, 1), (104, 0), (186, 0), (9, 5), (9, 6), (9, 7), (9, 8), (9, 9), (5, 2), (190, 0), (191, 0), (195, 0), (194, 0), (8, 3), (230, 0), (231, 0), (13, 8), (6, 3), (156, 0), (157, 0), (158, 0), (11, 6), (198, 0), (199, 0), (167, 0), (11, 7), (11, 8), (11, 9), (166, 0), (197, 0), (7, 7), (159, 0), (192, 0), (193, 0), (161, 0), (162, 0), (160, 0), (150, 0), (151, 0), (3, 4), (3, 5), (3, 3), (3, 6), (3, 7), (206, 0), (152, 0), (153, 0), (154, 0), (33, 4), (33, 5), (33, 3), (33, 6), (33, 7), (207, 0), (155, 0), (10, 7), (10, 1), (163, 0), (10, 2), (10, 3), (10, 4), (10, 5), (10, 6), (103, 0), (164, 0), (165, 0), (196, 0), (189, 0), (4, 0), (4, 1), (200, 0), (122, 0), (123, 0), (124, 0), (14, 10), (14, 11), (14, 12), (14, 4), (14, 5), (14, 6), (120, 0), (121, 0), (14, 9), (180, 0), (181, 0), (130, 0), (131, 0), (14, 20), (132, 0), (14, 21), (14, 22), (14, 23), (14, 24), (127, 0), (128, 0), (129, 0), (14, 26), (14, 31), (125, 0), (126, 0), (182, 0), (183, 0), (133, 0), (134, 0), (135, 0), (14, 36), (201, 0), (202, 0), (136, 0), (137, 0), (14, 1), (14, 2), (14, 3), (100, 0), (184, 0), (185, 0), (14, 41), (101, 0), (102, 0), (138, 0), (139, 0)] S S2 ∧ ∃ x : Int32, v = some (.int x) ∧ 1 ≤ x.toInt ∧ x.toInt ≤ 1)) D cy A 8 0 0 0 S (pq_l0 [.ref b] 8) [] := by
  have lqm1 : (-1 : Int32).toInt = -1 := rfl
  have lq0 : (0 : Int32).toInt = 0 := rfl
  have lq1 : (1 : Int32).toInt = 1 := rfl
  have lq2 : (2 : Int32).toInt = 2 := rfl
  have lq3 : (3 : Int32).toInt = 3 := rfl
  have lq4 : (4 : Int32).toInt = 4 := rfl
  have lq5 : (5 : Int32).toInt = 5 := rfl
  have lq6 : (6 : Int32).toInt = 6 := rfl
  have lq15 : (15 : Int32).toInt = 15 := rfl
  have lq384 : (384 : Int32).toInt = 384 := rfl
  have L23 : ∀  (fu : Nat) (S1 : HS) (iv : Int32) (t : Int32) (np nq xx rr ou ao aa t2 k2 j tn kz cc zz : Nat) (hF : pq_Fr [(12, 1), (104, 0), (186, 0), (9, 5), (9, 6), (9, 7), (9, 8), (9, 9), (5, 2), (190, 0), (191, 0), (195, 0), (194, 0), (8, 3), (230, 0), (231, 0), (13, 8), (6, 3), (156, 0), (157, 0), (158, 0), (11, 6), (198, 0), (199, 0), (167, 0), (11, 7), (11, 8), (11, 9), (166, 0), (197, 0), (7, 7), (159, 0), (192, 0), (193, 0), (161, 0), (162, 0), (160, 0), (150, 0), (151, 0), (3, 4), (3, 5), (3, 3), (3, 6), (3, 7), (206, 0), (152, 0), (153, 0), (154, 0), (33, 4), (33, 5), (33, 3), (33, 6), (33, 7), (207, 0), (155, 0), (10, 7), (10, 1), (163, 0), (10, 2), (10, 3), (10, 4), (10, 5), (10, 6), (103, 0), (164, 0), (165, 0), (196, 0), (189, 0), (4, 0), (4, 1), (200, 0), (122, 0), (123, 0), (124, 0), (14, 10), (14, 11), (14, 12), (14, 4), (14, 5), (14, 6), (120, 0), (121, 0), (14, 9), (180, 0), (181, 0), (130, 0), (131, 0), (14, 20), (132, 0), (14, 21), (14, 22), (14, 23), (14, 24), (127, 0), (128, 0), (129, 0), (14, 26), (14, 31), (125, 0), (126, 0), (182, 0), (183, 0), (133, 0), (134, 0), (135, 0), (14, 36), (201, 0), (202, 0), (136, 0), (137, 0), (14, 1), (14, 2), (14, 3), (100, 0), (184, 0), (185, 0), (14, 41), (101, 0), (102, 0), (138, 0), (139, 0)] S S1) (hx1 : pq_R S1 xx 13) (hr1 : pq_R S1 rr 14) (ho1 : pq_R S1 ou 186) (hI1 : pq_Ix S1 xx t np nq) (hP1 : pq_Rp S1 rr ao aa t2 k2) (ht1 : hO S1 rr 1 = .int t) (hol1 : hN S1 ou = 1) (hnp : np ≤ 80804) (hnq : nq ≤ 1608) (hij : iv.toInt = 6 * (j : Int)) (hj : j ≤ 64) (htn : t.toInt = (tn : Int)) (htb : tn ≤ 2048) (hkz : kz = 77184 ∨ (tn = 0 ∧ kz = 0)) (hcc : cc + 10 * tn ≤ 200 + 360 * j) (hzz : zz + kz + 60 * tn ≤ 830000 + 82000 * j + 4 * np + 2 * nq), 64 - j < fu → pq_At p l e room_1 s m args below meth c (pq_Z below args s D cy S 600128 7301098 (fun v S2 => pq_Fr [(12, 1), (104, 0), (186, 0), (9, 5), (9, 6), (9, 7), (9, 8), (9, 9), (5, 2), (190, 0), (191, 0), (195, 0), (194, 0), (8, 3), (230, 0), (231, 0), (13, 8), (6, 3), (156, 0), (157, 0), (158, 0), (11, 6), (198, 0), (199, 0), (167, 0), (11, 7), (11, 8), (11, 9), (166, 0), (197, 0), (7, 7), (159, 0), (192, 0), (193, 0), (161, 0), (162, 0), (160, 0), (150, 0), (151, 0), (3, 4), (3, 5), (3, 3), (3, 6), (3, 7), (206, 0), (152, 0), (153, 0), (154, 0), (33, 4), (33, 5), (33, 3), (33, 6), (33, 7), (207, 0), (155, 0), (10, 7), (10, 1), (163, 0), (10, 2), (10, 3), (10, 4), (10, 5), (10, 6), (103, 0), (164, 0), (165, 0), (196, 0), (189, 0), (4, 0), (4, 1), (200, 0), (122, 0), (123, 0), (124, 0), (14, 10), (14, 11), (14, 12), (14, 4), (14, 5), (14, 6), (120, 0), (121, 0), (14, 9), (180, 0), (181, 0), (130, 0), (131, 0), (14, 20), (132, 0), (14, 21), (14, 22), (14, 23), (14, 24), (127, 0), (128, 0), (129, 0), (14, 26), (14, 31), (125, 0), (126, 0), (182, 0), (183, 0), (133, 0), (134, 0), (135, 0), (14, 36), (201, 0), (202, 0), (136, 0), (137, 0), (14, 1), (14, 2), (14, 3), (100, 0), (184, 0), (185, 0), (14, 41), (101, 0), (102, 0), (138, 0), (139, 0)] S S2 ∧ ∃ x : Int32, v = some (.int x) ∧ 1 ≤ x.toInt ∧ x.toInt ≤ 1)) D cy A 8 cc zz 23 S1 [some (.ref b), some (.ref xx), some (.ref rr), some (.ref ou), some (.int iv), none, none, none] [] := by
    intro  fu
    induction fu with
    | zero => intro S1 iv t np nq xx rr ou ao aa t2 k2 j tn kz cc zz hF hx1 hr1 ho1 hI1 hP1 ht1 hol1 hnp hnq hij hj htn htb hkz hcc hzz hm; exact absurd hm (Nat.not_lt_zero _)
    | succ fu ih =>
      intro S1 iv t np nq xx rr ou ao aa t2 k2 j tn kz cc zz hF hx1 hr1 ho1 hI1 hP1 ht1 hol1 hnp hnq hij hj htn htb hkz hcc hzz hm
      refine pq_iload F dL_law_23 rfl ?_
      refine pq_aload_n F dL_law_25 rfl rfl ?_
      refine pq_slen F hX hbl hbA hL dL_law_26 (fun x26 e26 => ?_)
      refine pq_bipush (v := 6) F dL_law_27 (by decide) ?_
      refine pq_isub F dL_law_29 ?_
      refine pq_icmp_gt (tgt := 423) F dL_law_30 (by decide) (fun c30 => ?_) (fun c30 => ?_)
      · skip
        refine pq_iconst (v := 1) F dL_law_423 (by decide) ?_
        exact pq_zret F hr hlk hA rfl (by show cc ≤ 600128; omega) (by show zz ≤ 7301098; omega) (⟨hF, 1, rfl, (by focus ((try clear hX); (try clear hI1); (try clear hP1); (try clear hOct); (try clear ih); (try clear ph); (try clear Rh); (try clear hIc); (try clear hPc); (try clear hEx); (try clear w160); (try clear w188); (try clear w244); (try clear Rq); simp only [vp_in_iff, Int32.lt_iff_toInt_lt, Int32.le_iff_toInt_le, ← Int32.toInt_inj, Int32.toInt_add, Int32.toInt_sub, Int32.toInt_mul, Int32.toInt_neg, pq_NuO, pq_NuI, pq_NuJ, pq_NuR, pq_shr6, pq_shr7, pq_shr8, lqm1, lq0, lq1, lq2, lq3, lq4, lq5, lq6, lq15, lq384] at *; (try simp (disch := omega) only [pq_bm] at *); all_goals omega)), (by focus ((try clear hX); (try clear hI1); (try clear hP1); (try clear hOct); (try clear ih); (try clear ph); (try clear Rh); (try clear hIc); (try clear hPc); (try clear hEx); (try clear w160); (try clear w188); (try clear w244); (try clear Rq); simp only [vp_in_iff, Int32.lt_iff_toInt_lt, Int32.le_iff_toInt_le, ← Int32.toInt_inj, Int32.toInt_add, Int32.toInt_sub, Int32.toInt_mul, Int32.toInt_neg, pq_NuO, pq_NuI, pq_NuJ, pq_NuR, pq_shr6, pq_shr7, pq_shr8, lqm1, lq0, lq1, lq2, lq3, lq4, lq5, lq6, lq15, lq384] at *; (try simp (disch := omega) only [pq_bm] at *); all_goals omega))⟩) dL_law_424
      · skip
        have hj2 : j + 1 ≤ 64 := (by focus ((try clear hX); (try clear hI1); (try clear hP1); (try clear hOct); (try clear ih); (try clear ph); (try clear Rh); (try clear hIc); (try clear hPc); (try clear hEx); (try clear w160); (try clear w188); (try clear w244); (try clear Rq); simp only [vp_in_iff, Int32.lt_iff_toInt_lt, Int32.le_iff_toInt_le, ← Int32.toInt_inj, Int32.toInt_add, Int32.toInt_sub, Int32.toInt_mul, Int32.toInt_neg, pq_NuO, pq_NuI, pq_NuJ, pq_NuR, pq_shr6, pq_shr7, pq_shr8, lqm1, lq0, lq1, lq2, lq3, lq4, lq5, lq6, lq15, lq384] at *; (try simp (disch := omega) only [pq_bm] at *); all_goals omega))
        refine pq_aload_n F dL_law_33 rfl rfl ?_
        refine pq_iload F dL_law_34 rfl ?_
        refine pq_sld F hX hbl hbA (by focus ((try clear hX); (try clear hI1); (try clear hP1); (try clear hOct); (try clear ih); (try clear ph); (try clear Rh); (try clear hIc); (try clear hPc); (try clear hEx); (try clear w160); (try clear w188); (try clear w244); (try clear Rq); simp only [vp_in_iff, Int32.lt_iff_toInt_lt, Int32.le_iff_toInt_le, ← Int32.toInt_inj, Int32.toInt_add, Int32.toInt_sub, Int32.toInt_mul, Int32.toInt_neg, pq_NuO, pq_NuI, pq_NuJ, pq_NuR, pq_shr6, pq_shr7, pq_shr8, lqm1, lq0, lq1, lq2, lq3, lq4, lq5, lq6, lq15, lq384] at *; (try simp (disch := omega) only [pq_bm] at *); all_goals omega)) dL_law_36 (fun x36 e36 => ?_)
        refine pq_bipush (v := 15) F dL_law_37 (by decide) ?_
        refine pq_iand F dL_law_39 ?_; generalize hsw : x36 &&& 15 = sw
        by_cases c40o : sw.toInt < 0 ∨ 8 < sw.toInt
        · refine pq_tabOut (tgt := 417) F dL_law_40 c40o (by decide) ?_
          refine pq_iinc (v := 6) F dL_law_417 rfl (by decide) (by decide) ?_
          refine pq_goto (tgt := 23) F dL_law_420 (by decide) ?_
          exact pq_fgm [true, true, true, true, true, false, false, false] (ih _ _ t np nq xx rr ou ao aa t2 k2 (j + 1) tn kz (cc + 0) (zz + 0) hF hx1 hr1 ho1 hI1 hP1 ht1 hol1 hnp hnq (by focus ((try clear hX); (try clear hI1); (try clear hP1); (try clear hOct); (try clear ih); (try clear ph); (try clear Rh); (try clear hIc); (try clear hPc); (try clear hEx); (try clear w160); (try clear w188); (try clear w244); (try clear Rq); simp only [vp_in_iff, Int32.lt_iff_toInt_lt, Int32.le_iff_toInt_le, ← Int32.toInt_inj, Int32.toInt_add, Int32.toInt_sub, Int32.toInt_mul, Int32.toInt_neg, pq_NuO, pq_NuI, pq_NuJ, pq_NuR, pq_shr6, pq_shr7, pq_shr8, lqm1, lq0, lq1, lq2, lq3, lq4, lq5, lq6, lq15, lq384] at *; (try simp (disch := omega) only [pq_bm] at *); all_goals omega)) (by omega) htn (by omega) hkz (by omega) (by omega) (by omega))
        by_cases c40_0 : sw.toInt = 0
        · refine pq_tabIn (tgt := 92) F dL_law_40 (by omega) (by omega) (by rw [c40_0]; rfl) (by decide) ?_
          refine pq_aload_n F dL_law_92 rfl rfl ?_
          refine pq_aload_n F dL_law_93 rfl rfl ?_
          refine pq_iload F dL_law_94 rfl ?_
          refine pq_iconst (v := 1) F dL_law_96 (by decide) ?_
          refine pq_iadd F dL_law_97 ?_
          refine pq_sld F hX hbl hbA (by focus ((try clear hX); (try clear hI1); (try clear hP1); (try clear hOct); (try clear ih); (try clear ph); (try clear Rh); (try clear hIc); (try clear hPc); (try clear hEx); (try clear w160); (try clear w188); (try clear w244); (try clear Rq); simp only [vp_in_iff, Int32.lt_iff_toInt_lt, Int32.le_iff_toInt_le, ← Int32.toInt_inj, Int32.toInt_add, Int32.toInt_sub, Int32.toInt_mul, Int32.toInt_neg, pq_NuO, pq_NuI, pq_NuJ, pq_NuR, pq_shr6, pq_shr7, pq_shr8, lqm1, lq0, lq1, lq2, lq3, lq4, lq5, lq6, lq15, lq384] at *; (try simp (disch := omega) only [pq_bm] at *); all_goals omega)) dL_law_98 (fun x98 e98 => ?_)
          refine pq_aload_n F dL_law_99 rfl rfl ?_
          refine pq_iload F dL_law_100 rfl ?_
          refine pq_iconst (v := 2) F dL_law_102 (by decide) ?_
          refine pq_iadd F dL_law_103 ?_
          refine pq_sld F hX hbl hbA (by focus ((try clear hX); (try clear hI1); (try clear hP1); (try clear hOct); (try clear ih); (try clear ph); (try clear Rh); (try clear hIc); (try clear hPc); (try clear hEx); (try clear w160); (try clear w188); (try clear w244); (try clear Rq); simp only [vp_in_iff, Int32.lt_iff_toInt_lt, Int32.le_iff_toInt_le, ← Int32.toInt_inj, Int32.toInt_add, Int32.toInt_sub, Int32.toInt_mul, Int32.toInt_neg, pq_NuO, pq_NuI, pq_NuJ, pq_NuR, pq_shr6, pq_shr7, pq_shr8, lqm1, lq0, lq1, lq2, lq3, lq4, lq5, lq6, lq15, lq384] at *; (try simp (disch := omega) only [pq_bm] at *); all_goals omega)) dL_law_104 (fun x104 e104 => ?_)
          refine pq_aload_n F dL_law_105 rfl rfl ?_
          refine pq_iload F dL_law_106 rfl ?_
          refine pq_iconst (v := 3) F dL_law_108 (by decide) ?_
          refine pq_iadd F dL_law_109 ?_
          refine pq_sld F hX hbl hbA (by focus ((try clear hX); (try clear hI1); (try clear hP1); (try clear hOct); (try clear ih); (try clear ph); (try clear Rh); (try clear hIc); (try clear hPc); (try clear hEx); (try clear w160); (try clear w188); (try clear w244); (try clear Rq); simp only [vp_in_iff, Int32.lt_iff_toInt_lt, Int32.le_iff_toInt_le, ← Int32.toInt_inj, Int32.toInt_add, Int32.toInt_sub, Int32.toInt_mul, Int32.toInt_neg, pq_NuO, pq_NuI, pq_NuJ, pq_NuR, pq_shr6, pq_shr7, pq_shr8, lqm1, lq0, lq1, lq2, lq3, lq4, lq5, lq6, lq15, lq384] at *; (try simp (disch := omega) only [pq_bm] at *); all_goals omega)) dL_law_110 (fun x110 e110 => ?_)
          refine pq_aload_n F dL_law_111 rfl rfl ?_
          refine pq_iload F dL_law_112 rfl ?_
          refine pq_iconst (v := 4) F dL_law_114 (by decide) ?_
          refine pq_iadd F dL_law_115 ?_
          refine pq_sld F hX hbl hbA (by focus ((try clear hX); (try clear hI1); (try clear hP1); (try clear hOct); (try clear ih); (try clear ph); (try clear Rh); (try clear hIc); (try clear hPc); (try clear hEx); (try clear w160); (try clear w188); (try clear w244); (try clear Rq); simp only [vp_in_iff, Int32.lt_iff_toInt_lt, Int32.le_iff_toInt_le, ← Int32.toInt_inj, Int32.toInt_add, Int32.toInt_sub, Int32.toInt_mul, Int32.toInt_neg, pq_NuO, pq_NuI, pq_NuJ, pq_NuR, pq_shr6, pq_shr7, pq_shr8, lqm1, lq0, lq1, lq2, lq3, lq4, lq5, lq6, lq15, lq384] at *; (try simp (disch := omega) only [pq_bm] at *); all_goals omega)) dL_law_116 (fun x116 e116 => ?_)
          refine pq_aload_n F dL_law_117 rfl rfl ?_
          refine pq_iload F dL_law_118 rfl ?_
          refine pq_iconst (v := 5) F dL_law_120 (by decide) ?_
          refine pq_iadd F dL_law_121 ?_
          refine pq_sld F hX hbl hbA (by focus ((try clear hX); (try clear hI1); (try clear hP1); (try clear hOct); (try clear ih); (try clear ph); (try clear Rh); (try clear hIc); (try clear hPc); (try clear hEx); (try clear w160); (try clear w188); (try clear w244); (try clear Rq); simp only [vp_in_iff, Int32.lt_iff_toInt_lt, Int32.le_iff_toInt_le, ← Int32.toInt_inj, Int32.toInt_add, Int32.toInt_sub, Int32.toInt_mul, Int32.toInt_neg, pq_NuO, pq_NuI, pq_NuJ, pq_NuR, pq_shr6, pq_shr7, pq_shr8, lqm1, lq0, lq1, lq2, lq3, lq4, lq5, lq6, lq15, lq384] at *; (try simp (disch := omega) only [pq_bm] at *); all_goals omega)) dL_law_122 (fun x122 e122 => ?_)
          refine pq_aload_n F dL_law_123 rfl rfl ?_
          (refine pq_callSH (As := [_, _, _, _, _, _, _]) F (k_L_feed l D cy hl0 _ _ (by exact hx1) _ _ _ _ _ _ (by exact ho1) t np nq (by exact hI1) (by exact hol1)) (pq_gt2 (i := 132) rfl rfl) (pq_gt1 (i := 0) rfl rfl) (pq_gt2 (i := 131) rfl rfl) (pq_gt2 (i := 130) rfl rfl) ⟨by decide, by decide, (show Option.map (fun d => d.parameters.length) (parseMethodDescriptor yL_feed.desc) = some 7 from by decide +kernel)⟩ (fun U9 h9 => hEx.1.warm h9) (fun a9 U9 g9 mk9 q9 => pq_Dn.same (u := U9) rfl q9) (Nat.le_of_ble_eq_true rfl) ⟨Nat.le_of_ble_eq_true rfl, Nat.le_of_ble_eq_true rfl⟩ ⟨(by show cc + 1 ≤ 600128; omega), (by show zz + 6 ≤ 7301098; omega)⟩ dL_law_124 (fun v124 S124 w124 => ?_); obtain ⟨hFh, yh, rfl, yh0, yh1, ph⟩ := w124; have xh := hFh.R hx1 (by decide); have rh := hFh.R hr1 (by decide); have oh := hFh.R ho1 (by decide); have olh : hN S124 ou = 1 := (hFh.1 ou 186 ho1 (by decide)).2.trans hol1; have Rh := hP1.fr hFh hr1 (by decide) (by decide) (by decide) (by decide); have Th := hFh.O hr1 (by decide) (by decide) ht1)
          refine pq_istore F dL_law_127 (by decide) ?_
          refine pq_aload_n F dL_law_129 rfl rfl ?_
          refine pq_aload_n F dL_law_130 rfl rfl ?_
          refine pq_iload F dL_law_131 rfl ?_
          refine pq_iconst (v := 1) F dL_law_133 (by decide) ?_
          refine pq_iadd F dL_law_134 ?_
          refine pq_sld F hX hbl hbA (by focus ((try clear hX); (try clear hI1); (try clear hP1); (try clear hOct); (try clear ih); (try clear ph); (try clear Rh); (try clear hIc); (try clear hPc); (try clear hEx); (try clear w160); (try clear w188); (try clear w244); (try clear Rq); simp only [vp_in_iff, Int32.lt_iff_toInt_lt, Int32.le_iff_toInt_le, ← Int32.toInt_inj, Int32.toInt_add, Int32.toInt_sub, Int32.toInt_mul, Int32.toInt_neg, pq_NuO, pq_NuI, pq_NuJ, pq_NuR, pq_shr6, pq_shr7, pq_shr8, lqm1, lq0, lq1, lq2, lq3, lq4, lq5, lq6, lq15, lq384] at *; (try simp (disch := omega) only [pq_bm] at *); all_goals omega)) dL_law_135 (fun x135 e135 => ?_)
          refine pq_aload_n F dL_law_136 rfl rfl ?_
          refine pq_iload F dL_law_137 rfl ?_
          refine pq_iconst (v := 2) F dL_law_139 (by decide) ?_
          refine pq_iadd F dL_law_140 ?_
          refine pq_sld F hX hbl hbA (by focus ((try clear hX); (try clear hI1); (try clear hP1); (try clear hOct); (try clear ih); (try clear ph); (try clear Rh); (try clear hIc); (try clear hPc); (try clear hEx); (try clear w160); (try clear w188); (try clear w244); (try clear Rq); simp only [vp_in_iff, Int32.lt_iff_toInt_lt, Int32.le_iff_toInt_le, ← Int32.toInt_inj, Int32.toInt_add, Int32.toInt_sub, Int32.toInt_mul, Int32.toInt_neg, pq_NuO, pq_NuI, pq_NuJ, pq_NuR, pq_shr6, pq_shr7, pq_shr8, lqm1, lq0, lq1, lq2, lq3, lq4, lq5, lq6, lq15, lq384] at *; (try simp (disch := omega) only [pq_bm] at *); all_goals omega)) dL_law_141 (fun x141 e141 => ?_)
          refine pq_aload_n F dL_law_142 rfl rfl ?_
          refine pq_iload F dL_law_143 rfl ?_
          refine pq_iconst (v := 3) F dL_law_145 (by decide) ?_
          refine pq_iadd F dL_law_146 ?_
          refine pq_sld F hX hbl hbA (by focus ((try clear hX); (try clear hI1); (try clear hP1); (try clear hOct); (try clear ih); (try clear ph); (try clear Rh); (try clear hIc); (try clear hPc); (try clear hEx); (try clear w160); (try clear w188); (try clear w244); (try clear Rq); simp only [vp_in_iff, Int32.lt_iff_toInt_lt, Int32.le_iff_toInt_le, ← Int32.toInt_inj, Int32.toInt_add, Int32.toInt_sub, Int32.toInt_mul, Int32.toInt_neg, pq_NuO, pq_NuI, pq_NuJ, pq_NuR, pq_shr6, pq_shr7, pq_shr8, lqm1, lq0, lq1, lq2, lq3, lq4, lq5, lq6, lq15, lq384] at *; (try simp (disch := omega) only [pq_bm] at *); all_goals omega)) dL_law_147 (fun x147 e147 => ?_)
          refine pq_aload_n F dL_law_148 rfl rfl ?_
          refine pq_iload F dL_law_149 rfl ?_
          refine pq_iconst (v := 4) F dL_law_151 (by decide) ?_
          refine pq_iadd F dL_law_152 ?_
          refine pq_sld F hX hbl hbA (by focus ((try clear hX); (try clear hI1); (try clear hP1); (try clear hOct); (try clear ih); (try clear ph); (try clear Rh); (try clear hIc); (try clear hPc); (try clear hEx); (try clear w160); (try clear w188); (try clear w244); (try clear Rq); simp only [vp_in_iff, Int32.lt_iff_toInt_lt, Int32.le_iff_toInt_le, ← Int32.toInt_inj, Int32.toInt_add, Int32.toInt_sub, Int32.toInt_mul, Int32.toInt_neg, pq_NuO, pq_NuI, pq_NuJ, pq_NuR, pq_shr6, pq_shr7, pq_shr8, lqm1, lq0, lq1, lq2, lq3, lq4, lq5, lq6, lq15, lq384] at *; (try simp (disch := omega) only [pq_bm] at *); all_goals omega)) dL_law_153 (fun x153 e153 => ?_)
          refine pq_aload_n F dL_law_154 rfl rfl ?_
          refine pq_iload F dL_law_155 rfl ?_
          refine pq_iconst (v := 5) F dL_law_157 (by decide) ?_
          refine pq_iadd F dL_law_158 ?_
          refine pq_sld F hX hbl hbA (by focus ((try clear hX); (try clear hI1); (try clear hP1); (try clear hOct); (try clear ih); (try clear ph); (try clear Rh); (try clear hIc); (try clear hPc); (try clear hEx); (try clear w160); (try clear w188); (try clear w244); (try clear Rq); simp only [vp_in_iff, Int32.lt_iff_toInt_lt, Int32.le_iff_toInt_le, ← Int32.toInt_inj, Int32.toInt_add, Int32.toInt_sub, Int32.toInt_mul, Int32.toInt_neg, pq_NuO, pq_NuI, pq_NuJ, pq_NuR, pq_shr6, pq_shr7, pq_shr8, lqm1, lq0, lq1, lq2, lq3, lq4, lq5, lq6, lq15, lq384] at *; (try simp (disch := omega) only [pq_bm] at *); all_goals omega)) dL_law_159 (fun x159 e159 => ?_)
          (refine pq_callV (As := [_, _, _, _, _]) F (k_X11_feed l D cy _ _ (by exact rh) _ _ _ _ _ t (by exact Th) (by omega) (by omega)) ml_L_54 rh (by decide) rfl (Nat.le_of_ble_eq_true rfl) ⟨Nat.le_of_ble_eq_true rfl, Nat.le_of_ble_eq_true rfl⟩ ⟨(by show cc + 1 + 0 ≤ 600128; omega), (by show zz + 6 + 0 ≤ 7301098; omega)⟩ dL_law_160 (fun v160 S160 w160 => ?_))
          rcases w160 with ⟨g1, hFq, g3, t3, rfl, g4, g5⟩ | ⟨g1, rfl, rfl⟩
          · skip
            have xq := hFq.R xh (by decide)
            have rq := hFq.R rh (by decide)
            have oq := hFq.R oh (by decide)
            have olq := (hFq.1 ou 186 oh (by decide)).2.trans olh
            obtain ⟨e9, h9, y9, hy9, hy9b, hI9⟩ := ph.resolve_right (fun z => absurd z.2.1 (by omega))
            subst e9
            have hyt : y9 = t3 := Int32.toInt_inj.mp (by omega)
            refine pq_istore F dL_law_163 (by decide) ?_
            refine pq_goto (tgt := 417) F dL_law_165 (by decide) ?_
            refine pq_iinc (v := 6) F dL_law_417 rfl (by decide) (by decide) ?_
            refine pq_goto (tgt := 23) F dL_law_420 (by decide) ?_
            exact pq_fgm [true, true, true, true, true, false, false, false] (ih _ _ t3 np nq xx rr ou ao aa t2 k2 (j + 1) (tn + 20) 77184 (cc + 1) (zz + 6) ((hF.cm hFh (by decide)).cm hFq (by decide)) xq rq oq ((hyt ▸ hI9 : pq_Ix S124 xx t3 np nq).fr hFq (by decide)) (Rh.fr hFq rh (by decide) (by decide) (by decide) (by decide)) g4 olq hnp hnq (by focus ((try clear hX); (try clear hI1); (try clear hP1); (try clear hOct); (try clear ih); (try clear ph); (try clear Rh); (try clear hIc); (try clear hPc); (try clear hEx); (try clear w160); (try clear w188); (try clear w244); (try clear Rq); simp only [vp_in_iff, Int32.lt_iff_toInt_lt, Int32.le_iff_toInt_le, ← Int32.toInt_inj, Int32.toInt_add, Int32.toInt_sub, Int32.toInt_mul, Int32.toInt_neg, pq_NuO, pq_NuI, pq_NuJ, pq_NuR, pq_shr6, pq_shr7, pq_shr8, lqm1, lq0, lq1, lq2, lq3, lq4, lq5, lq6, lq15, lq384] at *; (try simp (disch := omega) only [pq_bm] at *); all_goals omega)) (by omega) (by omega) (by omega) (Or.inl rfl) (by omega) (by omega) (by omega))
          · skip
            have hFq := ((pq_Fr.rf (M := [(14, 3)]) (S := S124)).uO (k := 3) (v := .int 0) rh (by decide)).uO (k := 3) (v := .int 1) (show pq_R _ rr 14 from rh) (by decide)
            have xq := hFq.R xh (by decide)
            have rq := hFq.R rh (by decide)
            have oq := hFq.R oh (by decide)
            have olq := (hFq.1 ou 186 oh (by decide)).2.trans olh
            obtain ⟨e9, h9, hI9⟩ := ph.resolve_left (fun z => absurd z.2.1 (by omega))
            subst e9
            refine pq_istore F dL_law_163 (by decide) ?_
            refine pq_goto (tgt := 417) F dL_law_165 (by decide) ?_
            refine pq_iinc (v := 6) F dL_law_417 rfl (by decide) (by decide) ?_
            refine pq_goto (tgt := 23) F dL_law_420 (by decide) ?_
            exact pq_fgm [true, true, true, true, true, false, false, false] (ih _ _ t np nq xx rr ou ao aa t2 k2 (j + 1) tn kz (cc + 1) (zz + 6) ((hF.cm hFh (by decide)).cm hFq (by decide)) xq rq oq (hI9.fr hFq (by decide)) (Rh.fr hFq rh (by decide) (by decide) (by decide) (by decide)) (hFq.O rh (by decide) (by decide) Th) olq hnp hnq (by focus ((try clear hX); (try clear hI1); (try clear hP1); (try clear hOct); (try clear ih); (try clear ph); (try clear Rh); (try clear hIc); (try clear hPc); (try clear hEx); (try clear w160); (try clear w188); (try clear w244); (try clear Rq); simp only [vp_in_iff, Int32.lt_iff_toInt_lt, Int32.le_iff_toInt_le, ← Int32.toInt_inj, Int32.toInt_add, Int32.toInt_sub, Int32.toInt_mul, Int32.toInt_neg, pq_NuO, pq_NuI, pq_NuJ, pq_NuR, pq_shr6, pq_shr7, pq_shr8, lqm1, lq0, lq1, lq2, lq3, lq4, lq5, lq6, lq15, lq384] at *; (try simp (disch := omega) only [pq_bm] at *); all_goals omega)) (by omega) htn (by omega) hkz (by omega) (by omega) (by omega))
        by_cases c40_1 : sw.toInt = 1
        · refine pq_tabIn (tgt := 168) F dL_law_40 (by omega) (by omega) (by rw [c40_1]; rfl) (by decide) ?_
          refine pq_aload_n F dL_law_168 rfl rfl ?_
          refine pq_aload_n F dL_law_169 rfl rfl ?_
          refine pq_iload F dL_law_170 rfl ?_
          refine pq_iconst (v := 1) F dL_law_172 (by decide) ?_
          refine pq_iadd F dL_law_173 ?_
          refine pq_sld F hX hbl hbA (by focus ((try clear hX); (try clear hI1); (try clear hP1); (try clear hOct); (try clear ih); (try clear ph); (try clear Rh); (try clear hIc); (try clear hPc); (try clear hEx); (try clear w160); (try clear w188); (try clear w244); (try clear Rq); simp only [vp_in_iff, Int32.lt_iff_toInt_lt, Int32.le_iff_toInt_le, ← Int32.toInt_inj, Int32.toInt_add, Int32.toInt_sub, Int32.toInt_mul, Int32.toInt_neg, pq_NuO, pq_NuI, pq_NuJ, pq_NuR, pq_shr6, pq_shr7, pq_shr8, lqm1, lq0, lq1, lq2, lq3, lq4, lq5, lq6, lq15, lq384] at *; (try simp (disch := omega) only [pq_bm] at *); all_goals omega)) dL_law_174 (fun x174 e174 => ?_)
          refine pq_aload_n F dL_law_175 rfl rfl ?_
          (refine pq_callSH (As := [_, _, _]) F (k_L_end l D cy hl0 _ _ (by exact hx1) _ _ (by exact ho1) t np nq (by exact hI1) (by exact hol1)) (pq_gt2 (i := 213) rfl rfl) (pq_gt1 (i := 0) rfl rfl) (pq_gt2 (i := 212) rfl rfl) (pq_gt2 (i := 211) rfl rfl) ⟨by decide, by decide, (show Option.map (fun d => d.parameters.length) (parseMethodDescriptor yL_end.desc) = some 3 from by decide +kernel)⟩ (fun U9 h9 => hEx.1.warm h9) (fun a9 U9 g9 mk9 q9 => pq_Dn.same (u := U9) rfl q9) (Nat.le_of_ble_eq_true rfl) ⟨Nat.le_of_ble_eq_true rfl, Nat.le_of_ble_eq_true rfl⟩ ⟨(by show cc + 1 ≤ 600128; omega), (by show zz + 6 ≤ 7301098; omega)⟩ dL_law_176 (fun v176 S176 w176 => ?_); obtain ⟨hFh, yh, rfl, yh0, yh1, ph⟩ := w176; have xh := hFh.R hx1 (by decide); have rh := hFh.R hr1 (by decide); have oh := hFh.R ho1 (by decide); have olh : hN S176 ou = 1 := (hFh.1 ou 186 ho1 (by decide)).2.trans hol1; have Rh := hP1.fr hFh hr1 (by decide) (by decide) (by decide) (by decide); have Th := hFh.O hr1 (by decide) (by decide) ht1)
          refine pq_istore F dL_law_179 (by decide) ?_
          refine pq_aload_n F dL_law_181 rfl rfl ?_
          refine pq_aload_n F dL_law_182 rfl rfl ?_
          refine pq_iload F dL_law_183 rfl ?_
          refine pq_iconst (v := 1) F dL_law_185 (by decide) ?_
          refine pq_iadd F dL_law_186 ?_
          refine pq_sld F hX hbl hbA (by focus ((try clear hX); (try clear hI1); (try clear hP1); (try clear hOct); (try clear ih); (try clear ph); (try clear Rh); (try clear hIc); (try clear hPc); (try clear hEx); (try clear w160); (try clear w188); (try clear w244); (try clear Rq); simp only [vp_in_iff, Int32.lt_iff_toInt_lt, Int32.le_iff_toInt_le, ← Int32.toInt_inj, Int32.toInt_add, Int32.toInt_sub, Int32.toInt_mul, Int32.toInt_neg, pq_NuO, pq_NuI, pq_NuJ, pq_NuR, pq_shr6, pq_shr7, pq_shr8, lqm1, lq0, lq1, lq2, lq3, lq4, lq5, lq6, lq15, lq384] at *; (try simp (disch := omega) only [pq_bm] at *); all_goals omega)) dL_law_187 (fun x187 e187 => ?_)
          have exx : x174 = x187 := e174.trans e187.symm
          subst exx
          (refine pq_callV (As := [_]) F (k_X11_end l D cy _ _ (by exact rh) x174 t (by exact Th) (by omega)) ml_L_58 rh (by decide) rfl (Nat.le_of_ble_eq_true rfl) ⟨Nat.le_of_ble_eq_true rfl, Nat.le_of_ble_eq_true rfl⟩ ⟨(by show cc + 1 + 0 ≤ 600128; omega), (by show zz + 6 + 0 ≤ 7301098; omega)⟩ dL_law_188 (fun v188 S188 w188 => ?_))
          rcases w188 with ⟨g1, g2, rfl, rfl⟩ | ⟨g1, rfl, rfl⟩
          · skip
            have hFq := ((pq_Fr.rf (M := [(14, 1), (14, 3)]) (S := S176)).uO (k := 3) (v := .int 0) rh (by decide)).uO (k := 1) (v := .int x174) (show pq_R _ rr 14 from rh) (by decide)
            have xq := hFq.R xh (by decide)
            have rq := hFq.R rh (by decide)
            have oq := hFq.R oh (by decide)
            have olq := (hFq.1 ou 186 oh (by decide)).2.trans olh
            obtain ⟨e9, h9, hy9, hI9⟩ := ph.resolve_right (fun z => absurd (And.intro g1 g2) z.2.1)
            subst e9
            refine pq_istore F dL_law_191 (by decide) ?_
            refine pq_aload_n F dL_law_193 rfl rfl ?_
            (refine pq_callV (As := []) F (k_X11_thrown l D cy _ _ (by exact rq)) ml_L_59 rq (by decide) rfl (Nat.le_of_ble_eq_true rfl) ⟨Nat.le_of_ble_eq_true rfl, Nat.le_of_ble_eq_true rfl⟩ ⟨(by show cc + 1 ≤ 600128; omega), (by show zz + 6 ≤ 7301098; omega)⟩ dL_law_194 (fun v194 S194 w194 => ?_); obtain ⟨rfl, rfl⟩ := w194; rw [(pq_kp pq_ks (by decide) : hO (pq_uO (pq_uO S176 rr 3 (.int 0)) rr 1 (.int x174)) rr 3 = .int 0)])
            refine pq_iload F dL_law_197 rfl ?_
            refine pq_icmp_eq (tgt := 204) F dL_law_199 (by decide) (fun c199 => ?_) (fun c199 => ?_)
            · skip
              refine pq_iload F dL_law_204 rfl ?_
              refine pq_if_ne (tgt := 221) F dL_law_206 (by decide) (fun c206 => ?_) (fun c206 => ?_)
              · exact absurd rfl c206
              · skip
                refine pq_aload_n F dL_law_209 rfl rfl ?_
                refine pq_iconst (v := 0) F dL_law_210 (by decide) ?_
                refine pq_lald F oq (by decide) (by decide) rfl (fun n1_211 n2_211 => (by focus ((try clear hX); (try clear hI1); (try clear hP1); (try clear hOct); (try clear ih); (try clear ph); (try clear Rh); (try clear hIc); (try clear hPc); (try clear hEx); (try clear w160); (try clear w188); (try clear w244); (try clear Rq); simp only [vp_in_iff, Int32.lt_iff_toInt_lt, Int32.le_iff_toInt_le, ← Int32.toInt_inj, Int32.toInt_add, Int32.toInt_sub, Int32.toInt_mul, Int32.toInt_neg, pq_NuO, pq_NuI, pq_NuJ, pq_NuR, pq_shr6, pq_shr7, pq_shr8, lqm1, lq0, lq1, lq2, lq3, lq4, lq5, lq6, lq15, lq384] at *; (try simp (disch := omega) only [pq_bm] at *); all_goals omega))) dL_law_211 (fun x211 e211 => ?_)
                refine pq_iload F dL_law_212 rfl ?_
                refine pq_i2l F dL_law_214 ?_
                refine pq_lcmp F dL_law_215 ?_
                refine pq_if_eq (tgt := 221) F dL_law_216 (by decide) (fun c216 => ?_) (fun c216 => ?_)
                · skip
                  refine pq_goto (tgt := 417) F dL_law_221 (by decide) ?_
                  refine pq_iinc (v := 6) F dL_law_417 rfl (by decide) (by decide) ?_
                  refine pq_goto (tgt := 23) F dL_law_420 (by decide) ?_
                  exact pq_fgm [true, true, true, true, true, false, false, false] (ih _ _ x174 np nq xx rr ou ao aa t2 k2 (j + 1) x174.toInt.toNat kz (cc + 1) (zz + 6) ((hF.cm hFh (by decide)).cm hFq (by decide)) xq rq oq (hI9.fr hFq (by decide)) (Rh.fr hFq rh (by decide) (by decide) (by decide) (by decide)) pq_ks olq hnp hnq (by focus ((try clear hX); (try clear hI1); (try clear hP1); (try clear hOct); (try clear ih); (try clear ph); (try clear Rh); (try clear hIc); (try clear hPc); (try clear hEx); (try clear w160); (try clear w188); (try clear w244); (try clear Rq); simp only [vp_in_iff, Int32.lt_iff_toInt_lt, Int32.le_iff_toInt_le, ← Int32.toInt_inj, Int32.toInt_add, Int32.toInt_sub, Int32.toInt_mul, Int32.toInt_neg, pq_NuO, pq_NuI, pq_NuJ, pq_NuR, pq_shr6, pq_shr7, pq_shr8, lqm1, lq0, lq1, lq2, lq3, lq4, lq5, lq6, lq15, lq384] at *; (try simp (disch := omega) only [pq_bm] at *); all_goals omega)) (by omega) (by omega) (by omega) (by rcases hkz with z | z; exact Or.inl z; exact Or.inr (by omega)) (by omega) (by omega) (by omega))
                · exact absurd (by rw [show x211 = x174.toInt64 from e211.trans ((congrFun (hFq.2.2 ou 186 oh (by decide) (by decide)).2.1 _).trans hy9)]; exact pq_lgc _) c216
            · exact absurd rfl c199
          · skip
            have hFq := ((pq_Fr.rf (M := [(14, 3)]) (S := S176)).uO (k := 3) (v := .int 0) rh (by decide)).uO (k := 3) (v := .int 1) (show pq_R _ rr 14 from rh) (by decide)
            have xq := hFq.R xh (by decide)
            have rq := hFq.R rh (by decide)
            have oq := hFq.R oh (by decide)
            have olq := (hFq.1 ou 186 oh (by decide)).2.trans olh
            obtain ⟨e9, h9, hI9⟩ := ph.resolve_left (fun z => absurd z.2.1 g1)
            subst e9
            refine pq_istore F dL_law_191 (by decide) ?_
            refine pq_aload_n F dL_law_193 rfl rfl ?_
            (refine pq_callV (As := []) F (k_X11_thrown l D cy _ _ (by exact rq)) ml_L_59 rq (by decide) rfl (Nat.le_of_ble_eq_true rfl) ⟨Nat.le_of_ble_eq_true rfl, Nat.le_of_ble_eq_true rfl⟩ ⟨(by show cc + 1 ≤ 600128; omega), (by show zz + 6 ≤ 7301098; omega)⟩ dL_law_194 (fun v194 S194 w194 => ?_); obtain ⟨rfl, rfl⟩ := w194; rw [pq_ks])
            refine pq_iload F dL_law_197 rfl ?_
            refine pq_icmp_eq (tgt := 204) F dL_law_199 (by decide) (fun c199 => ?_) (fun c199 => ?_)
            · skip
              refine pq_iload F dL_law_204 rfl ?_
              refine pq_if_ne (tgt := 221) F dL_law_206 (by decide) (fun c206 => ?_) (fun c206 => ?_)
              · skip
                refine pq_goto (tgt := 417) F dL_law_221 (by decide) ?_
                refine pq_iinc (v := 6) F dL_law_417 rfl (by decide) (by decide) ?_
                refine pq_goto (tgt := 23) F dL_law_420 (by decide) ?_
                exact pq_fgm [true, true, true, true, true, false, false, false] (ih _ _ t np nq xx rr ou ao aa t2 k2 (j + 1) tn kz (cc + 1) (zz + 6) ((hF.cm hFh (by decide)).cm hFq (by decide)) xq rq oq (hI9.fr hFq (by decide)) (Rh.fr hFq rh (by decide) (by decide) (by decide) (by decide)) (hFq.O rh (by decide) (by decide) Th) olq hnp hnq (by focus ((try clear hX); (try clear hI1); (try clear hP1); (try clear hOct); (try clear ih); (try clear ph); (try clear Rh); (try clear hIc); (try clear hPc); (try clear hEx); (try clear w160); (try clear w188); (try clear w244); (try clear Rq); simp only [vp_in_iff, Int32.lt_iff_toInt_lt, Int32.le_iff_toInt_le, ← Int32.toInt_inj, Int32.toInt_add, Int32.toInt_sub, Int32.toInt_mul, Int32.toInt_neg, pq_NuO, pq_NuI, pq_NuJ, pq_NuR, pq_shr6, pq_shr7, pq_shr8, lqm1, lq0, lq1, lq2, lq3, lq4, lq5, lq6, lq15, lq384] at *; (try simp (disch := omega) only [pq_bm] at *); all_goals omega)) (by omega) htn (by omega) hkz (by omega) (by omega) (by omega))
              · exact absurd c206 (by decide)
            · exact absurd rfl c199
        by_cases c40_2 : sw.toInt = 2
        · refine pq_tabIn (tgt := 224) F dL_law_40 (by omega) (by omega) (by rw [c40_2]; rfl) (by decide) ?_
          obtain ⟨w1, w2, hw1, hw2, hwk⟩ : ∃ w1 w2 : Nat, ((tn = 0 ∧ 804 ≤ w1) ∨ 102912 ≤ w1) ∧ ((tn = 0 ∧ 402 ≤ w2) ∨ 51456 ≤ w2) ∧ w1 + w2 ≤ 1206 + 2 * kz := (by rcases hkz with z | z; exact ⟨102912, 51456, Or.inr (by omega), Or.inr (by omega), by omega⟩; exact ⟨804, 402, Or.inl ⟨z.1, by omega⟩, Or.inl ⟨z.1, by omega⟩, by omega⟩)
          refine pq_aload_n F dL_law_224 rfl rfl ?_
          refine pq_aload_n F dL_law_225 rfl rfl ?_
          refine pq_iload F dL_law_226 rfl ?_
          refine pq_iconst (v := 1) F dL_law_228 (by decide) ?_
          refine pq_iadd F dL_law_229 ?_
          refine pq_sld F hX hbl hbA (by focus ((try clear hX); (try clear hI1); (try clear hP1); (try clear hOct); (try clear ih); (try clear ph); (try clear Rh); (try clear hIc); (try clear hPc); (try clear hEx); (try clear w160); (try clear w188); (try clear w244); (try clear Rq); simp only [vp_in_iff, Int32.lt_iff_toInt_lt, Int32.le_iff_toInt_le, ← Int32.toInt_inj, Int32.toInt_add, Int32.toInt_sub, Int32.toInt_mul, Int32.toInt_neg, pq_NuO, pq_NuI, pq_NuJ, pq_NuR, pq_shr6, pq_shr7, pq_shr8, lqm1, lq0, lq1, lq2, lq3, lq4, lq5, lq6, lq15, lq384] at *; (try simp (disch := omega) only [pq_bm] at *); all_goals omega)) dL_law_230 (fun x230 e230 => ?_)
          refine pq_aload_n F dL_law_231 rfl rfl ?_
          (refine pq_callSH (As := [_, _, _]) F (k_L_set l D cy hl0 _ _ (by exact hx1) _ _ (by exact ho1) t np nq (by exact hI1) (by exact hol1) tn w1 w2 htn hw1 hw2) (pq_gt2 (i := 237) rfl rfl) (pq_gt1 (i := 0) rfl rfl) (pq_gt2 (i := 236) rfl rfl) (pq_gt2 (i := 235) rfl rfl) ⟨by decide, by decide, (show Option.map (fun d => d.parameters.length) (parseMethodDescriptor yL_set.desc) = some 3 from by decide +kernel)⟩ (fun U9 h9 => ⟨hEx.1.warm h9, hEx.2.1.moved h9.alike, hEx.2.2.1.moved h9.alike, hEx.2.2.2.moved h9.alike⟩) (fun a9 U9 g9 mk9 q9 => ⟨pq_Dn.same (u := U9) rfl q9.1, q9.2⟩) (Nat.le_of_ble_eq_true rfl) ⟨Nat.le_of_ble_eq_true rfl, Nat.le_of_ble_eq_true rfl⟩ ⟨(by show cc + (6 * (tn + 1) + 3) ≤ 600128; omega), (by show zz + (34 * (tn + 1) + w1 + w2 + 6) ≤ 7301098; omega)⟩ dL_law_232 (fun v232 S232 w232 => ?_); obtain ⟨hFh, yh, rfl, yh0, yh1, ph⟩ := w232; have xh := hFh.R hx1 (by decide); have rh := hFh.R hr1 (by decide); have oh := hFh.R ho1 (by decide); have olh : hN S232 ou = 1 := (hFh.1 ou 186 ho1 (by decide)).2.trans hol1; have Rh := hP1.fr hFh hr1 (by decide) (by decide) (by decide) (by decide); have Th := hFh.O hr1 (by decide) (by decide) ht1)
          refine pq_istore F dL_law_235 (by decide) ?_
          refine pq_aload_n F dL_law_237 rfl rfl ?_
          refine pq_aload_n F dL_law_238 rfl rfl ?_
          refine pq_iload F dL_law_239 rfl ?_
          refine pq_iconst (v := 1) F dL_law_241 (by decide) ?_
          refine pq_iadd F dL_law_242 ?_
          refine pq_sld F hX hbl hbA (by focus ((try clear hX); (try clear hI1); (try clear hP1); (try clear hOct); (try clear ih); (try clear ph); (try clear Rh); (try clear hIc); (try clear hPc); (try clear hEx); (try clear w160); (try clear w188); (try clear w244); (try clear Rq); simp only [vp_in_iff, Int32.lt_iff_toInt_lt, Int32.le_iff_toInt_le, ← Int32.toInt_inj, Int32.toInt_add, Int32.toInt_sub, Int32.toInt_mul, Int32.toInt_neg, pq_NuO, pq_NuI, pq_NuJ, pq_NuR, pq_shr6, pq_shr7, pq_shr8, lqm1, lq0, lq1, lq2, lq3, lq4, lq5, lq6, lq15, lq384] at *; (try simp (disch := omega) only [pq_bm] at *); all_goals omega)) dL_law_243 (fun x243 e243 => ?_)
          (refine pq_callV (As := [_]) F (k_X11_set l D cy _ _ (by exact rh) _ ao aa t2 k2 tn (by exact Rh) t (by exact Th) htn htb) ml_L_65 rh (by decide) rfl (Nat.le_of_ble_eq_true rfl) ⟨Nat.le_of_ble_eq_true rfl, Nat.le_of_ble_eq_true rfl⟩ ⟨(by show cc + (6 * (tn + 1) + 3) + (4 * tn + 6) ≤ 600128; omega), (by show zz + (34 * (tn + 1) + w1 + w2 + 6) + (24 * tn + 24) ≤ 7301098; omega)⟩ dL_law_244 (fun v244 S244 w244 => ?_); obtain ⟨hFq, y9, rfl, E9, o9, a9, t9, k9, P9⟩ := w244; have xq := hFq.R xh (by decide); have rq := hFq.R rh (by decide); have oq := hFq.R oh (by decide); have olq := (hFq.1 ou 186 oh (by decide)).2.trans olh)
          refine pq_istore F dL_law_247 (by decide) ?_
          refine pq_goto (tgt := 417) F dL_law_249 (by decide) ?_
          refine pq_iinc (v := 6) F dL_law_417 rfl (by decide) (by decide) ?_
          refine pq_goto (tgt := 23) F dL_law_420 (by decide) ?_
          exact pq_fgm [true, true, true, true, true, false, false, false] (ih _ _ 0 np nq xx rr ou o9 a9 t9 k9 (j + 1) 0 0 (cc + (6 * (tn + 1) + 3) + (4 * tn + 6)) (zz + (34 * (tn + 1) + w1 + w2 + 6) + (24 * tn + 24)) ((hF.cm hFh (by decide)).cm hFq (by decide)) xq rq oq (ph.fr hFq (by decide)) P9 E9 olq hnp hnq (by focus ((try clear hX); (try clear hI1); (try clear hP1); (try clear hOct); (try clear ih); (try clear ph); (try clear Rh); (try clear hIc); (try clear hPc); (try clear hEx); (try clear w160); (try clear w188); (try clear w244); (try clear Rq); simp only [vp_in_iff, Int32.lt_iff_toInt_lt, Int32.le_iff_toInt_le, ← Int32.toInt_inj, Int32.toInt_add, Int32.toInt_sub, Int32.toInt_mul, Int32.toInt_neg, pq_NuO, pq_NuI, pq_NuJ, pq_NuR, pq_shr6, pq_shr7, pq_shr8, lqm1, lq0, lq1, lq2, lq3, lq4, lq5, lq6, lq15, lq384] at *; (try simp (disch := omega) only [pq_bm] at *); all_goals omega)) (by omega) rfl (by omega) (Or.inr ⟨rfl, rfl⟩) (by omega) (by omega) (by omega))
        by_cases c40_3 : sw.toInt = 3
        · refine pq_tabIn (tgt := 252) F dL_law_40 (by omega) (by omega) (by rw [c40_3]; rfl) (by decide) ?_
          refine pq_aload_n F dL_law_252 rfl rfl ?_
          refine pq_aload_n F dL_law_253 rfl rfl ?_
          refine pq_iload F dL_law_254 rfl ?_
          refine pq_iconst (v := 1) F dL_law_256 (by decide) ?_
          refine pq_iadd F dL_law_257 ?_
          refine pq_sld F hX hbl hbA (by focus ((try clear hX); (try clear hI1); (try clear hP1); (try clear hOct); (try clear ih); (try clear ph); (try clear Rh); (try clear hIc); (try clear hPc); (try clear hEx); (try clear w160); (try clear w188); (try clear w244); (try clear Rq); simp only [vp_in_iff, Int32.lt_iff_toInt_lt, Int32.le_iff_toInt_le, ← Int32.toInt_inj, Int32.toInt_add, Int32.toInt_sub, Int32.toInt_mul, Int32.toInt_neg, pq_NuO, pq_NuI, pq_NuJ, pq_NuR, pq_shr6, pq_shr7, pq_shr8, lqm1, lq0, lq1, lq2, lq3, lq4, lq5, lq6, lq15, lq384] at *; (try simp (disch := omega) only [pq_bm] at *); all_goals omega)) dL_law_258 (fun x258 e258 => ?_)
          refine pq_aload_n F dL_law_259 rfl rfl ?_
          (refine pq_callSH (As := [_, _, _]) F (k_L_empty l D cy hl0 _ _ (by exact hx1) _ _ (by exact ho1) t np nq (by exact hI1) (by exact hol1)) (pq_gt5 (i := 106) rfl rfl) (pq_gt1 (i := 0) rfl rfl) (pq_gt5 (i := 105) rfl rfl) (pq_gt5 (i := 104) rfl rfl) ⟨by decide, by decide, (show Option.map (fun d => d.parameters.length) (parseMethodDescriptor yL_empty.desc) = some 3 from by decide +kernel)⟩ (fun U9 h9 => hEx.1.warm h9) (fun a9 U9 g9 mk9 q9 => pq_Dn.same (u := U9) rfl q9) (Nat.le_of_ble_eq_true rfl) ⟨Nat.le_of_ble_eq_true rfl, Nat.le_of_ble_eq_true rfl⟩ ⟨(by show cc + 1 ≤ 600128; omega), (by show zz + 6 ≤ 7301098; omega)⟩ dL_law_260 (fun v260 S260 w260 => ?_); obtain ⟨hFh, yh, rfl, yh0, yh1, ph⟩ := w260; have xh := hFh.R hx1 (by decide); have rh := hFh.R hr1 (by decide); have oh := hFh.R ho1 (by decide); have olh : hN S260 ou = 1 := (hFh.1 ou 186 ho1 (by decide)).2.trans hol1; have Rh := hP1.fr hFh hr1 (by decide) (by decide) (by decide) (by decide); have Th := hFh.O hr1 (by decide) (by decide) ht1)
          refine pq_istore F dL_law_263 (by decide) ?_
          refine pq_aload_n F dL_law_265 rfl rfl ?_
          refine pq_aload_n F dL_law_266 rfl rfl ?_
          refine pq_iload F dL_law_267 rfl ?_
          refine pq_iconst (v := 1) F dL_law_269 (by decide) ?_
          refine pq_iadd F dL_law_270 ?_
          refine pq_sld F hX hbl hbA (by focus ((try clear hX); (try clear hI1); (try clear hP1); (try clear hOct); (try clear ih); (try clear ph); (try clear Rh); (try clear hIc); (try clear hPc); (try clear hEx); (try clear w160); (try clear w188); (try clear w244); (try clear Rq); simp only [vp_in_iff, Int32.lt_iff_toInt_lt, Int32.le_iff_toInt_le, ← Int32.toInt_inj, Int32.toInt_add, Int32.toInt_sub, Int32.toInt_mul, Int32.toInt_neg, pq_NuO, pq_NuI, pq_NuJ, pq_NuR, pq_shr6, pq_shr7, pq_shr8, lqm1, lq0, lq1, lq2, lq3, lq4, lq5, lq6, lq15, lq384] at *; (try simp (disch := omega) only [pq_bm] at *); all_goals omega)) dL_law_271 (fun x271 e271 => ?_)
          (refine pq_callV (As := [_]) F (k_X11_empty l D cy _ _ (by exact rh) _) ml_L_68 rh (by decide) rfl (Nat.le_of_ble_eq_true rfl) ⟨Nat.le_of_ble_eq_true rfl, Nat.le_of_ble_eq_true rfl⟩ ⟨(by show cc + 1 + 0 ≤ 600128; omega), (by show zz + 6 + 0 ≤ 7301098; omega)⟩ dL_law_272 (fun v272 S272 w272 => ?_); obtain ⟨hFq, y9, rfl, y9a, y9b⟩ := w272; have xq := hFq.R xh (by decide); have rq := hFq.R rh (by decide); have oq := hFq.R oh (by decide); have olq := (hFq.1 ou 186 oh (by decide)).2.trans olh)
          refine pq_istore F dL_law_275 (by decide) ?_
          refine pq_goto (tgt := 417) F dL_law_277 (by decide) ?_
          refine pq_iinc (v := 6) F dL_law_417 rfl (by decide) (by decide) ?_
          refine pq_goto (tgt := 23) F dL_law_420 (by decide) ?_
          exact pq_fgm [true, true, true, true, true, false, false, false] (ih _ _ t np nq xx rr ou ao aa t2 k2 (j + 1) tn kz (cc + 1) (zz + 6) ((hF.cm hFh (by decide)).cm hFq (by decide)) xq rq oq (ph.fr hFq (by decide)) (Rh.fr hFq rh (by decide) (by decide) (by decide) (by decide)) (hFq.O rh (by decide) (by decide) Th) olq hnp hnq (by focus ((try clear hX); (try clear hI1); (try clear hP1); (try clear hOct); (try clear ih); (try clear ph); (try clear Rh); (try clear hIc); (try clear hPc); (try clear hEx); (try clear w160); (try clear w188); (try clear w244); (try clear Rq); simp only [vp_in_iff, Int32.lt_iff_toInt_lt, Int32.le_iff_toInt_le, ← Int32.toInt_inj, Int32.toInt_add, Int32.toInt_sub, Int32.toInt_mul, Int32.toInt_neg, pq_NuO, pq_NuI, pq_NuJ, pq_NuR, pq_shr6, pq_shr7, pq_shr8, lqm1, lq0, lq1, lq2, lq3, lq4, lq5, lq6, lq15, lq384] at *; (try simp (disch := omega) only [pq_bm] at *); all_goals omega)) (by omega) htn (by omega) hkz (by omega) (by omega) (by omega))
        by_cases c40_4 : sw.toInt = 4
        · refine pq_tabIn (tgt := 280) F dL_law_40 (by omega) (by omega) (by rw [c40_4]; rfl) (by decide) ?_
          refine pq_aload_n F dL_law_280 rfl rfl ?_
          refine pq_aload_n F dL_law_281 rfl rfl ?_
          refine pq_iload F dL_law_282 rfl ?_
          refine pq_iconst (v := 1) F dL_law_284 (by decide) ?_
          refine pq_iadd F dL_law_285 ?_
          refine pq_sld F hX hbl hbA (by focus ((try clear hX); (try clear hI1); (try clear hP1); (try clear hOct); (try clear ih); (try clear ph); (try clear Rh); (try clear hIc); (try clear hPc); (try clear hEx); (try clear w160); (try clear w188); (try clear w244); (try clear Rq); simp only [vp_in_iff, Int32.lt_iff_toInt_lt, Int32.le_iff_toInt_le, ← Int32.toInt_inj, Int32.toInt_add, Int32.toInt_sub, Int32.toInt_mul, Int32.toInt_neg, pq_NuO, pq_NuI, pq_NuJ, pq_NuR, pq_shr6, pq_shr7, pq_shr8, lqm1, lq0, lq1, lq2, lq3, lq4, lq5, lq6, lq15, lq384] at *; (try simp (disch := omega) only [pq_bm] at *); all_goals omega)) dL_law_286 (fun x286 e286 => ?_)
          refine pq_aload_n F dL_law_287 rfl rfl ?_
          (refine pq_callSH (As := [_, _, _]) F (k_L_fits l D cy hl0 _ _ (by exact hx1) _ _ (by exact ho1) t np nq (by exact hI1) (by exact hol1)) (pq_gt5 (i := 113) rfl rfl) (pq_gt1 (i := 0) rfl rfl) (pq_gt5 (i := 112) rfl rfl) (pq_gt5 (i := 111) rfl rfl) ⟨by decide, by decide, (show Option.map (fun d => d.parameters.length) (parseMethodDescriptor yL_fits.desc) = some 3 from by decide +kernel)⟩ (fun U9 h9 => hEx.1.warm h9) (fun a9 U9 g9 mk9 q9 => pq_Dn.same (u := U9) rfl q9) (Nat.le_of_ble_eq_true rfl) ⟨Nat.le_of_ble_eq_true rfl, Nat.le_of_ble_eq_true rfl⟩ ⟨(by show cc + 1 ≤ 600128; omega), (by show zz + 6 ≤ 7301098; omega)⟩ dL_law_288 (fun v288 S288 w288 => ?_); obtain ⟨hFh, yh, rfl, yh0, yh1, ph⟩ := w288; have xh := hFh.R hx1 (by decide); have rh := hFh.R hr1 (by decide); have oh := hFh.R ho1 (by decide); have olh : hN S288 ou = 1 := (hFh.1 ou 186 ho1 (by decide)).2.trans hol1; have Rh := hP1.fr hFh hr1 (by decide) (by decide) (by decide) (by decide); have Th := hFh.O hr1 (by decide) (by decide) ht1)
          refine pq_istore F dL_law_291 (by decide) ?_
          refine pq_aload_n F dL_law_293 rfl rfl ?_
          refine pq_aload_n F dL_law_294 rfl rfl ?_
          refine pq_iload F dL_law_295 rfl ?_
          refine pq_iconst (v := 1) F dL_law_297 (by decide) ?_
          refine pq_iadd F dL_law_298 ?_
          refine pq_sld F hX hbl hbA (by focus ((try clear hX); (try clear hI1); (try clear hP1); (try clear hOct); (try clear ih); (try clear ph); (try clear Rh); (try clear hIc); (try clear hPc); (try clear hEx); (try clear w160); (try clear w188); (try clear w244); (try clear Rq); simp only [vp_in_iff, Int32.lt_iff_toInt_lt, Int32.le_iff_toInt_le, ← Int32.toInt_inj, Int32.toInt_add, Int32.toInt_sub, Int32.toInt_mul, Int32.toInt_neg, pq_NuO, pq_NuI, pq_NuJ, pq_NuR, pq_shr6, pq_shr7, pq_shr8, lqm1, lq0, lq1, lq2, lq3, lq4, lq5, lq6, lq15, lq384] at *; (try simp (disch := omega) only [pq_bm] at *); all_goals omega)) dL_law_299 (fun x299 e299 => ?_)
          (refine pq_callV (As := [_]) F (k_X11_fits l D cy _ _ (by exact rh) _ t (by exact Th) (by omega) (by omega)) ml_L_71 rh (by decide) rfl (Nat.le_of_ble_eq_true rfl) ⟨Nat.le_of_ble_eq_true rfl, Nat.le_of_ble_eq_true rfl⟩ ⟨(by show cc + 1 + 0 ≤ 600128; omega), (by show zz + 6 + 0 ≤ 7301098; omega)⟩ dL_law_300 (fun v300 S300 w300 => ?_); obtain ⟨hFq, E9, y9, rfl, y9a, y9b⟩ := w300; have xq := hFq.R xh (by decide); have rq := hFq.R rh (by decide); have oq := hFq.R oh (by decide); have olq := (hFq.1 ou 186 oh (by decide)).2.trans olh)
          refine pq_istore F dL_law_303 (by decide) ?_
          refine pq_goto (tgt := 417) F dL_law_305 (by decide) ?_
          refine pq_iinc (v := 6) F dL_law_417 rfl (by decide) (by decide) ?_
          refine pq_goto (tgt := 23) F dL_law_420 (by decide) ?_
          exact pq_fgm [true, true, true, true, true, false, false, false] (ih _ _ 0 np nq xx rr ou ao aa t2 k2 (j + 1) 0 0 (cc + 1) (zz + 6) ((hF.cm hFh (by decide)).cm hFq (by decide)) xq rq oq (ph.fr hFq (by decide)) (Rh.fr hFq rh (by decide) (by decide) (by decide) (by decide)) E9 olq hnp hnq (by focus ((try clear hX); (try clear hI1); (try clear hP1); (try clear hOct); (try clear ih); (try clear ph); (try clear Rh); (try clear hIc); (try clear hPc); (try clear hEx); (try clear w160); (try clear w188); (try clear w244); (try clear Rq); simp only [vp_in_iff, Int32.lt_iff_toInt_lt, Int32.le_iff_toInt_le, ← Int32.toInt_inj, Int32.toInt_add, Int32.toInt_sub, Int32.toInt_mul, Int32.toInt_neg, pq_NuO, pq_NuI, pq_NuJ, pq_NuR, pq_shr6, pq_shr7, pq_shr8, lqm1, lq0, lq1, lq2, lq3, lq4, lq5, lq6, lq15, lq384] at *; (try simp (disch := omega) only [pq_bm] at *); all_goals omega)) (by omega) rfl (by omega) (Or.inr ⟨rfl, rfl⟩) (by omega) (by omega) (by omega))
        by_cases c40_5 : sw.toInt = 5
        · refine pq_tabIn (tgt := 308) F dL_law_40 (by omega) (by omega) (by rw [c40_5]; rfl) (by decide) ?_
          refine pq_aload_n F dL_law_308 rfl rfl ?_
          refine pq_aload_n F dL_law_309 rfl rfl ?_
          refine pq_iload F dL_law_310 rfl ?_
          refine pq_iconst (v := 1) F dL_law_312 (by decide) ?_
          refine pq_iadd F dL_law_313 ?_
          refine pq_sld F hX hbl hbA (by focus ((try clear hX); (try clear hI1); (try clear hP1); (try clear hOct); (try clear ih); (try clear ph); (try clear Rh); (try clear hIc); (try clear hPc); (try clear hEx); (try clear w160); (try clear w188); (try clear w244); (try clear Rq); simp only [vp_in_iff, Int32.lt_iff_toInt_lt, Int32.le_iff_toInt_le, ← Int32.toInt_inj, Int32.toInt_add, Int32.toInt_sub, Int32.toInt_mul, Int32.toInt_neg, pq_NuO, pq_NuI, pq_NuJ, pq_NuR, pq_shr6, pq_shr7, pq_shr8, lqm1, lq0, lq1, lq2, lq3, lq4, lq5, lq6, lq15, lq384] at *; (try simp (disch := omega) only [pq_bm] at *); all_goals omega)) dL_law_314 (fun x314 e314 => ?_)
          by_cases hkg : (0 ≤ x314.toInt ∧ x314.toInt ≤ 4)
          · skip
            obtain ⟨wp, wo, wq, hE⟩ := pq_Fe.ex S1 xx x314 np nq
            refine pq_feF hI1 hE (fun hwb => ?_)
            obtain ⟨hwb1, hwb2, hwb3⟩ := hwb
            refine pq_aload_n F dL_law_315 rfl rfl ?_
            (refine pq_callSH (As := [_, _, _]) F (k_L_firstG l D cy hl0 _ _ (by exact hx1) _ _ (by exact ho1) t np nq (by exact hI1) (by exact hol1) wp wo wq (by exact hE) hkg) (pq_gt5 (i := 129) rfl rfl) (pq_gt1 (i := 0) rfl rfl) (pq_gt5 (i := 128) rfl rfl) (pq_gt5 (i := 127) rfl rfl) ⟨by decide, by decide, (show Option.map (fun d => d.parameters.length) (parseMethodDescriptor yL_first.desc) = some 3 from by decide +kernel)⟩ (fun U9 h9 => hEx.1.warm h9) (fun a9 U9 g9 mk9 q9 => pq_Dn.same (u := U9) rfl q9) (Nat.le_of_ble_eq_true rfl) ⟨Nat.le_of_ble_eq_true rfl, Nat.le_of_ble_eq_true rfl⟩ ⟨(by show cc + 4 ≤ 600128; omega), (by show zz + (wp + wo + wq + 80804) ≤ 7301098; omega)⟩ dL_law_316 (fun v316 S316 w316 => ?_); obtain ⟨hFh, yh, rfl, yh0, yh1, ph⟩ := w316; have xh := hFh.R hx1 (by decide); have rh := hFh.R hr1 (by decide); have oh := hFh.R ho1 (by decide); have olh : hN S316 ou = 1 := (hFh.1 ou 186 ho1 (by decide)).2.trans hol1; have Rh := hP1.fr hFh hr1 (by decide) (by decide) (by decide) (by decide); have Th := hFh.O hr1 (by decide) (by decide) ht1)
            refine pq_istore F dL_law_319 (by decide) ?_
            refine pq_aload_n F dL_law_321 rfl rfl ?_
            obtain ⟨n8, n9, hI8, ⟨hq6, hq7, hq8⟩, hq9, hq10⟩ := ph
            refine pq_aload_n F dL_law_322 rfl rfl ?_
            refine pq_iload F dL_law_323 rfl ?_
            refine pq_iconst (v := 1) F dL_law_325 (by decide) ?_
            refine pq_iadd F dL_law_326 ?_
            refine pq_sld F hX hbl hbA (by focus ((try clear hX); (try clear hI1); (try clear hP1); (try clear hOct); (try clear ih); (try clear ph); (try clear Rh); (try clear hIc); (try clear hPc); (try clear hEx); (try clear w160); (try clear w188); (try clear w244); (try clear Rq); simp only [vp_in_iff, Int32.lt_iff_toInt_lt, Int32.le_iff_toInt_le, ← Int32.toInt_inj, Int32.toInt_add, Int32.toInt_sub, Int32.toInt_mul, Int32.toInt_neg, pq_NuO, pq_NuI, pq_NuJ, pq_NuR, pq_shr6, pq_shr7, pq_shr8, lqm1, lq0, lq1, lq2, lq3, lq4, lq5, lq6, lq15, lq384] at *; (try simp (disch := omega) only [pq_bm] at *); all_goals omega)) dL_law_327 (fun x327 e327 => ?_)
            (refine pq_refF rh (by decide) (show pq_ft 14 42 = (138 + 3, 0, 0) from rfl) (fun aq f42 haq => ?_); refine pq_refF rh (by decide) (show pq_ft 14 43 = (139 + 3, 0, 0) from rfl) (fun af f43 haf => ?_); refine pq_callV (As := [_]) F (k_X11_first l D cy _ _ (by exact rh) _ aq af (by exact f42) (by exact haq) (by exact f43) (by exact haf)) ml_L_74 rh (by decide) rfl (Nat.le_of_ble_eq_true rfl) ⟨Nat.le_of_ble_eq_true rfl, Nat.le_of_ble_eq_true rfl⟩ ⟨(by show cc + 4 + 0 ≤ 600128; omega), (by show zz + (wp + wo + wq + 80804) + 0 ≤ 7301098; omega)⟩ dL_law_328 (fun v328 S328 w328 => ?_); obtain ⟨hFq, y9, rfl⟩ := w328; have xq := hFq.R xh (by decide); have rq := hFq.R rh (by decide); have oq := hFq.R oh (by decide); have olq := (hFq.1 ou 186 oh (by decide)).2.trans olh)
            refine pq_istore F dL_law_331 (by decide) ?_
            refine pq_goto (tgt := 417) F dL_law_333 (by decide) ?_
            refine pq_iinc (v := 6) F dL_law_417 rfl (by decide) (by decide) ?_
            refine pq_goto (tgt := 23) F dL_law_420 (by decide) ?_
            exact pq_fgm [true, true, true, true, true, false, false, false] (ih _ _ t n8 n9 xx rr ou ao aa t2 k2 (j + 1) tn kz (cc + 4) (zz + (wp + wo + wq + 80804)) ((hF.cm hFh (by decide)).cm hFq (by decide)) xq rq oq (hI8.fr hFq (by decide)) (Rh.fr hFq rh (by decide) (by decide) (by decide) (by decide)) (hFq.O rh (by decide) (by decide) Th) olq hq9 hq10 (by focus ((try clear hX); (try clear hI1); (try clear hP1); (try clear hOct); (try clear ih); (try clear ph); (try clear Rh); (try clear hIc); (try clear hPc); (try clear hEx); (try clear w160); (try clear w188); (try clear w244); (try clear Rq); simp only [vp_in_iff, Int32.lt_iff_toInt_lt, Int32.le_iff_toInt_le, ← Int32.toInt_inj, Int32.toInt_add, Int32.toInt_sub, Int32.toInt_mul, Int32.toInt_neg, pq_NuO, pq_NuI, pq_NuJ, pq_NuR, pq_shr6, pq_shr7, pq_shr8, lqm1, lq0, lq1, lq2, lq3, lq4, lq5, lq6, lq15, lq384] at *; (try simp (disch := omega) only [pq_bm] at *); all_goals omega)) (by omega) htn (by omega) hkz (by omega) (by omega) (by omega))
          · skip
            have hkb := hkg
            refine pq_aload_n F dL_law_315 rfl rfl ?_
            (refine pq_callSH (As := [_, _, _]) F (k_L_firstX l D cy hl0 _ _ (by exact hx1) _ _ (by exact ho1) t np nq (by exact hI1) (by exact hol1) hkb) (pq_gt5 (i := 129) rfl rfl) (pq_gt1 (i := 0) rfl rfl) (pq_gt5 (i := 128) rfl rfl) (pq_gt5 (i := 127) rfl rfl) ⟨by decide, by decide, (show Option.map (fun d => d.parameters.length) (parseMethodDescriptor yL_first.desc) = some 3 from by decide +kernel)⟩ (fun U9 h9 => hEx.1.warm h9) (fun a9 U9 g9 mk9 q9 => pq_Dn.same (u := U9) rfl q9) (Nat.le_of_ble_eq_true rfl) ⟨Nat.le_of_ble_eq_true rfl, Nat.le_of_ble_eq_true rfl⟩ ⟨(by show cc + 1 ≤ 600128; omega), (by show zz + 6 ≤ 7301098; omega)⟩ dL_law_316 (fun v316 S316 w316 => ?_); obtain ⟨hFh, yh, rfl, yh0, yh1, ph⟩ := w316; have xh := hFh.R hx1 (by decide); have rh := hFh.R hr1 (by decide); have oh := hFh.R ho1 (by decide); have olh : hN S316 ou = 1 := (hFh.1 ou 186 ho1 (by decide)).2.trans hol1; have Rh := hP1.fr hFh hr1 (by decide) (by decide) (by decide) (by decide); have Th := hFh.O hr1 (by decide) (by decide) ht1)
            refine pq_istore F dL_law_319 (by decide) ?_
            refine pq_aload_n F dL_law_321 rfl rfl ?_
            refine pq_aload_n F dL_law_322 rfl rfl ?_
            refine pq_iload F dL_law_323 rfl ?_
            refine pq_iconst (v := 1) F dL_law_325 (by decide) ?_
            refine pq_iadd F dL_law_326 ?_
            refine pq_sld F hX hbl hbA (by focus ((try clear hX); (try clear hI1); (try clear hP1); (try clear hOct); (try clear ih); (try clear ph); (try clear Rh); (try clear hIc); (try clear hPc); (try clear hEx); (try clear w160); (try clear w188); (try clear w244); (try clear Rq); simp only [vp_in_iff, Int32.lt_iff_toInt_lt, Int32.le_iff_toInt_le, ← Int32.toInt_inj, Int32.toInt_add, Int32.toInt_sub, Int32.toInt_mul, Int32.toInt_neg, pq_NuO, pq_NuI, pq_NuJ, pq_NuR, pq_shr6, pq_shr7, pq_shr8, lqm1, lq0, lq1, lq2, lq3, lq4, lq5, lq6, lq15, lq384] at *; (try simp (disch := omega) only [pq_bm] at *); all_goals omega)) dL_law_327 (fun x327 e327 => ?_)
            (refine pq_refF rh (by decide) (show pq_ft 14 42 = (138 + 3, 0, 0) from rfl) (fun aq f42 haq => ?_); refine pq_refF rh (by decide) (show pq_ft 14 43 = (139 + 3, 0, 0) from rfl) (fun af f43 haf => ?_); refine pq_callV (As := [_]) F (k_X11_first l D cy _ _ (by exact rh) _ aq af (by exact f42) (by exact haq) (by exact f43) (by exact haf)) ml_L_74 rh (by decide) rfl (Nat.le_of_ble_eq_true rfl) ⟨Nat.le_of_ble_eq_true rfl, Nat.le_of_ble_eq_true rfl⟩ ⟨(by show cc + 1 + 0 ≤ 600128; omega), (by show zz + 6 + 0 ≤ 7301098; omega)⟩ dL_law_328 (fun v328 S328 w328 => ?_); obtain ⟨hFq, y9, rfl⟩ := w328; have xq := hFq.R xh (by decide); have rq := hFq.R rh (by decide); have oq := hFq.R oh (by decide); have olq := (hFq.1 ou 186 oh (by decide)).2.trans olh)
            refine pq_istore F dL_law_331 (by decide) ?_
            refine pq_goto (tgt := 417) F dL_law_333 (by decide) ?_
            refine pq_iinc (v := 6) F dL_law_417 rfl (by decide) (by decide) ?_
            refine pq_goto (tgt := 23) F dL_law_420 (by decide) ?_
            exact pq_fgm [true, true, true, true, true, false, false, false] (ih _ _ t np nq xx rr ou ao aa t2 k2 (j + 1) tn kz (cc + 1) (zz + 6) ((hF.cm hFh (by decide)).cm hFq (by decide)) xq rq oq (ph.fr hFq (by decide)) (Rh.fr hFq rh (by decide) (by decide) (by decide) (by decide)) (hFq.O rh (by decide) (by decide) Th) olq hnp hnq (by focus ((try clear hX); (try clear hI1); (try clear hP1); (try clear hOct); (try clear ih); (try clear ph); (try clear Rh); (try clear hIc); (try clear hPc); (try clear hEx); (try clear w160); (try clear w188); (try clear w244); (try clear Rq); simp only [vp_in_iff, Int32.lt_iff_toInt_lt, Int32.le_iff_toInt_le, ← Int32.toInt_inj, Int32.toInt_add, Int32.toInt_sub, Int32.toInt_mul, Int32.toInt_neg, pq_NuO, pq_NuI, pq_NuJ, pq_NuR, pq_shr6, pq_shr7, pq_shr8, lqm1, lq0, lq1, lq2, lq3, lq4, lq5, lq6, lq15, lq384] at *; (try simp (disch := omega) only [pq_bm] at *); all_goals omega)) (by omega) htn (by omega) hkz (by omega) (by omega) (by omega))
        by_cases c40_6 : sw.toInt = 6
        · refine pq_tabIn (tgt := 336) F dL_law_40 (by omega) (by omega) (by rw [c40_6]; rfl) (by decide) ?_
          refine pq_aload_n F dL_law_336 rfl rfl ?_
          refine pq_aload_n F dL_law_337 rfl rfl ?_
          refine pq_iload F dL_law_338 rfl ?_
          refine pq_iconst (v := 1) F dL_law_340 (by decide) ?_
          refine pq_iadd F dL_law_341 ?_
          refine pq_sld F hX hbl hbA (by focus ((try clear hX); (try clear hI1); (try clear hP1); (try clear hOct); (try clear ih); (try clear ph); (try clear Rh); (try clear hIc); (try clear hPc); (try clear hEx); (try clear w160); (try clear w188); (try clear w244); (try clear Rq); simp only [vp_in_iff, Int32.lt_iff_toInt_lt, Int32.le_iff_toInt_le, ← Int32.toInt_inj, Int32.toInt_add, Int32.toInt_sub, Int32.toInt_mul, Int32.toInt_neg, pq_NuO, pq_NuI, pq_NuJ, pq_NuR, pq_shr6, pq_shr7, pq_shr8, lqm1, lq0, lq1, lq2, lq3, lq4, lq5, lq6, lq15, lq384] at *; (try simp (disch := omega) only [pq_bm] at *); all_goals omega)) dL_law_342 (fun x342 e342 => ?_)
          refine pq_aload_n F dL_law_343 rfl rfl ?_
          (refine pq_callSH (As := [_, _, _]) F (hOct _ _ (by exact hx1) _ _ (by exact ho1) t np nq (by exact hI1) (by exact hol1)) (pq_gt5 (i := 166) rfl rfl) (pq_gt1 (i := 0) rfl rfl) (pq_gt5 (i := 165) rfl rfl) (pq_gt5 (i := 164) rfl rfl) ⟨by decide, by decide, (show Option.map (fun d => d.parameters.length) (parseMethodDescriptor yL_octet.desc) = some 3 from by decide +kernel)⟩ (fun U9 h9 => hEx.1.warm h9) (fun a9 U9 g9 mk9 q9 => pq_Dn.same (u := U9) rfl q9) (Nat.le_of_ble_eq_true rfl) ⟨Nat.le_of_ble_eq_true rfl, Nat.le_of_ble_eq_true rfl⟩ ⟨(by show cc + 1 ≤ 600128; omega), (by show zz + 6 ≤ 7301098; omega)⟩ dL_law_344 (fun v344 S344 w344 => ?_); obtain ⟨hFh, yh, rfl, yh0, yh1, ph⟩ := w344; have xh := hFh.R hx1 (by decide); have rh := hFh.R hr1 (by decide); have oh := hFh.R ho1 (by decide); have olh : hN S344 ou = 1 := (hFh.1 ou 186 ho1 (by decide)).2.trans hol1; have Rh := hP1.fr hFh hr1 (by decide) (by decide) (by decide) (by decide); have Th := hFh.O hr1 (by decide) (by decide) ht1)
          refine pq_istore F dL_law_347 (by decide) ?_
          refine pq_aload_n F dL_law_349 rfl rfl ?_
          refine pq_aload_n F dL_law_350 rfl rfl ?_
          refine pq_iload F dL_law_351 rfl ?_
          refine pq_iconst (v := 1) F dL_law_353 (by decide) ?_
          refine pq_iadd F dL_law_354 ?_
          refine pq_sld F hX hbl hbA (by focus ((try clear hX); (try clear hI1); (try clear hP1); (try clear hOct); (try clear ih); (try clear ph); (try clear Rh); (try clear hIc); (try clear hPc); (try clear hEx); (try clear w160); (try clear w188); (try clear w244); (try clear Rq); simp only [vp_in_iff, Int32.lt_iff_toInt_lt, Int32.le_iff_toInt_le, ← Int32.toInt_inj, Int32.toInt_add, Int32.toInt_sub, Int32.toInt_mul, Int32.toInt_neg, pq_NuO, pq_NuI, pq_NuJ, pq_NuR, pq_shr6, pq_shr7, pq_shr8, lqm1, lq0, lq1, lq2, lq3, lq4, lq5, lq6, lq15, lq384] at *; (try simp (disch := omega) only [pq_bm] at *); all_goals omega)) dL_law_355 (fun x355 e355 => ?_)
          (refine pq_callV (As := [_]) F (k_X11_octet l D cy _ _ (by exact rh) _) ml_L_77 rh (by decide) rfl (Nat.le_of_ble_eq_true rfl) ⟨Nat.le_of_ble_eq_true rfl, Nat.le_of_ble_eq_true rfl⟩ ⟨(by show cc + 1 + 0 ≤ 600128; omega), (by show zz + 6 + 0 ≤ 7301098; omega)⟩ dL_law_356 (fun v356 S356 w356 => ?_); obtain ⟨hFq, y9, rfl⟩ := w356; have xq := hFq.R xh (by decide); have rq := hFq.R rh (by decide); have oq := hFq.R oh (by decide); have olq := (hFq.1 ou 186 oh (by decide)).2.trans olh)
          refine pq_istore F dL_law_359 (by decide) ?_
          refine pq_goto (tgt := 417) F dL_law_361 (by decide) ?_
          refine pq_iinc (v := 6) F dL_law_417 rfl (by decide) (by decide) ?_
          refine pq_goto (tgt := 23) F dL_law_420 (by decide) ?_
          exact pq_fgm [true, true, true, true, true, false, false, false] (ih _ _ t np nq xx rr ou ao aa t2 k2 (j + 1) tn kz (cc + 1) (zz + 6) ((hF.cm hFh (by decide)).cm hFq (by decide)) xq rq oq (ph.fr hFq (by decide)) (Rh.fr hFq rh (by decide) (by decide) (by decide) (by decide)) (hFq.O rh (by decide) (by decide) Th) olq hnp hnq (by focus ((try clear hX); (try clear hI1); (try clear hP1); (try clear hOct); (try clear ih); (try clear ph); (try clear Rh); (try clear hIc); (try clear hPc); (try clear hEx); (try clear w160); (try clear w188); (try clear w244); (try clear Rq); simp only [vp_in_iff, Int32.lt_iff_toInt_lt, Int32.le_iff_toInt_le, ← Int32.toInt_inj, Int32.toInt_add, Int32.toInt_sub, Int32.toInt_mul, Int32.toInt_neg, pq_NuO, pq_NuI, pq_NuJ, pq_NuR, pq_shr6, pq_shr7, pq_shr8, lqm1, lq0, lq1, lq2, lq3, lq4, lq5, lq6, lq15, lq384] at *; (try simp (disch := omega) only [pq_bm] at *); all_goals omega)) (by omega) htn (by omega) hkz (by omega) (by omega) (by omega))
        by_cases c40_7 : sw.toInt = 7
        · refine pq_tabIn (tgt := 364) F dL_law_40 (by omega) (by omega) (by rw [c40_7]; rfl) (by decide) ?_
          refine pq_aload_n F dL_law_364 rfl rfl ?_
          refine pq_aload_n F dL_law_365 rfl rfl ?_
          refine pq_iload F dL_law_366 rfl ?_
          refine pq_iconst (v := 1) F dL_law_368 (by decide) ?_
          refine pq_iadd F dL_law_369 ?_
          refine pq_sld F hX hbl hbA (by focus ((try clear hX); (try clear hI1); (try clear hP1); (try clear hOct); (try clear ih); (try clear ph); (try clear Rh); (try clear hIc); (try clear hPc); (try clear hEx); (try clear w160); (try clear w188); (try clear w244); (try clear Rq); simp only [vp_in_iff, Int32.lt_iff_toInt_lt, Int32.le_iff_toInt_le, ← Int32.toInt_inj, Int32.toInt_add, Int32.toInt_sub, Int32.toInt_mul, Int32.toInt_neg, pq_NuO, pq_NuI, pq_NuJ, pq_NuR, pq_shr6, pq_shr7, pq_shr8, lqm1, lq0, lq1, lq2, lq3, lq4, lq5, lq6, lq15, lq384] at *; (try simp (disch := omega) only [pq_bm] at *); all_goals omega)) dL_law_370 (fun x370 e370 => ?_)
          refine pq_aload_n F dL_law_371 rfl rfl ?_
          refine pq_iload F dL_law_372 rfl ?_
          refine pq_iconst (v := 2) F dL_law_374 (by decide) ?_
          refine pq_iadd F dL_law_375 ?_
          refine pq_sld F hX hbl hbA (by focus ((try clear hX); (try clear hI1); (try clear hP1); (try clear hOct); (try clear ih); (try clear ph); (try clear Rh); (try clear hIc); (try clear hPc); (try clear hEx); (try clear w160); (try clear w188); (try clear w244); (try clear Rq); simp only [vp_in_iff, Int32.lt_iff_toInt_lt, Int32.le_iff_toInt_le, ← Int32.toInt_inj, Int32.toInt_add, Int32.toInt_sub, Int32.toInt_mul, Int32.toInt_neg, pq_NuO, pq_NuI, pq_NuJ, pq_NuR, pq_shr6, pq_shr7, pq_shr8, lqm1, lq0, lq1, lq2, lq3, lq4, lq5, lq6, lq15, lq384] at *; (try simp (disch := omega) only [pq_bm] at *); all_goals omega)) dL_law_376 (fun x376 e376 => ?_)
          refine pq_aload_n F dL_law_377 rfl rfl ?_
          (refine pq_callSH (As := [_, _, _, _]) F (k_L_count l D cy hl0 _ _ (by exact hx1) _ _ _ (by exact ho1) t np nq (by exact hI1) (by exact hol1)) (pq_gt5 (i := 190) rfl rfl) (pq_gt1 (i := 0) rfl rfl) (pq_gt5 (i := 189) rfl rfl) (pq_gt5 (i := 188) rfl rfl) ⟨by decide, by decide, (show Option.map (fun d => d.parameters.length) (parseMethodDescriptor yL_count.desc) = some 4 from by decide +kernel)⟩ (fun U9 h9 => hEx.1.warm h9) (fun a9 U9 g9 mk9 q9 => pq_Dn.same (u := U9) rfl q9) (Nat.le_of_ble_eq_true rfl) ⟨Nat.le_of_ble_eq_true rfl, Nat.le_of_ble_eq_true rfl⟩ ⟨(by show cc + 1 ≤ 600128; omega), (by show zz + 6 ≤ 7301098; omega)⟩ dL_law_378 (fun v378 S378 w378 => ?_); obtain ⟨hFh, yh, rfl, yh0, yh1, ph⟩ := w378; have xh := hFh.R hx1 (by decide); have rh := hFh.R hr1 (by decide); have oh := hFh.R ho1 (by decide); have olh : hN S378 ou = 1 := (hFh.1 ou 186 ho1 (by decide)).2.trans hol1; have Rh := hP1.fr hFh hr1 (by decide) (by decide) (by decide) (by decide); have Th := hFh.O hr1 (by decide) (by decide) ht1)
          refine pq_istore F dL_law_381 (by decide) ?_
          refine pq_aload_n F dL_law_383 rfl rfl ?_
          refine pq_aload_n F dL_law_384 rfl rfl ?_
          refine pq_iload F dL_law_385 rfl ?_
          refine pq_iconst (v := 1) F dL_law_387 (by decide) ?_
          refine pq_iadd F dL_law_388 ?_
          refine pq_sld F hX hbl hbA (by focus ((try clear hX); (try clear hI1); (try clear hP1); (try clear hOct); (try clear ih); (try clear ph); (try clear Rh); (try clear hIc); (try clear hPc); (try clear hEx); (try clear w160); (try clear w188); (try clear w244); (try clear Rq); simp only [vp_in_iff, Int32.lt_iff_toInt_lt, Int32.le_iff_toInt_le, ← Int32.toInt_inj, Int32.toInt_add, Int32.toInt_sub, Int32.toInt_mul, Int32.toInt_neg, pq_NuO, pq_NuI, pq_NuJ, pq_NuR, pq_shr6, pq_shr7, pq_shr8, lqm1, lq0, lq1, lq2, lq3, lq4, lq5, lq6, lq15, lq384] at *; (try simp (disch := omega) only [pq_bm] at *); all_goals omega)) dL_law_389 (fun x389 e389 => ?_)
          refine pq_aload_n F dL_law_390 rfl rfl ?_
          refine pq_iload F dL_law_391 rfl ?_
          refine pq_iconst (v := 2) F dL_law_393 (by decide) ?_
          refine pq_iadd F dL_law_394 ?_
          refine pq_sld F hX hbl hbA (by focus ((try clear hX); (try clear hI1); (try clear hP1); (try clear hOct); (try clear ih); (try clear ph); (try clear Rh); (try clear hIc); (try clear hPc); (try clear hEx); (try clear w160); (try clear w188); (try clear w244); (try clear Rq); simp only [vp_in_iff, Int32.lt_iff_toInt_lt, Int32.le_iff_toInt_le, ← Int32.toInt_inj, Int32.toInt_add, Int32.toInt_sub, Int32.toInt_mul, Int32.toInt_neg, pq_NuO, pq_NuI, pq_NuJ, pq_NuR, pq_shr6, pq_shr7, pq_shr8, lqm1, lq0, lq1, lq2, lq3, lq4, lq5, lq6, lq15, lq384] at *; (try simp (disch := omega) only [pq_bm] at *); all_goals omega)) dL_law_395 (fun x395 e395 => ?_)
          (refine pq_callV (As := [_, _]) F (k_X11_count l D cy _ _ (by exact rh) _ _) ml_L_81 rh (by decide) rfl (Nat.le_of_ble_eq_true rfl) ⟨Nat.le_of_ble_eq_true rfl, Nat.le_of_ble_eq_true rfl⟩ ⟨(by show cc + 1 + 0 ≤ 600128; omega), (by show zz + 6 + 0 ≤ 7301098; omega)⟩ dL_law_396 (fun v396 S396 w396 => ?_); obtain ⟨hFq, y9, rfl⟩ := w396; have xq := hFq.R xh (by decide); have rq := hFq.R rh (by decide); have oq := hFq.R oh (by decide); have olq := (hFq.1 ou 186 oh (by decide)).2.trans olh)
          refine pq_lstore F dL_law_399 (by decide) ?_
          refine pq_goto (tgt := 417) F dL_law_401 (by decide) ?_
          refine pq_iinc (v := 6) F dL_law_417 rfl (by decide) (by decide) ?_
          refine pq_goto (tgt := 23) F dL_law_420 (by decide) ?_
          exact pq_fgm [true, true, true, true, true, false, false, false] (ih _ _ t np nq xx rr ou ao aa t2 k2 (j + 1) tn kz (cc + 1) (zz + 6) ((hF.cm hFh (by decide)).cm hFq (by decide)) xq rq oq (ph.fr hFq (by decide)) (Rh.fr hFq rh (by decide) (by decide) (by decide) (by decide)) (hFq.O rh (by decide) (by decide) Th) olq hnp hnq (by focus ((try clear hX); (try clear hI1); (try clear hP1); (try clear hOct); (try clear ih); (try clear ph); (try clear Rh); (try clear hIc); (try clear hPc); (try clear hEx); (try clear w160); (try clear w188); (try clear w244); (try clear Rq); simp only [vp_in_iff, Int32.lt_iff_toInt_lt, Int32.le_iff_toInt_le, ← Int32.toInt_inj, Int32.toInt_add, Int32.toInt_sub, Int32.toInt_mul, Int32.toInt_neg, pq_NuO, pq_NuI, pq_NuJ, pq_NuR, pq_shr6, pq_shr7, pq_shr8, lqm1, lq0, lq1, lq2, lq3, lq4, lq5, lq6, lq15, lq384] at *; (try simp (disch := omega) only [pq_bm] at *); all_goals omega)) (by omega) htn (by omega) hkz (by omega) (by omega) (by omega))
        by_cases c40_8 : sw.toInt = 8
        · refine pq_tabIn (tgt := 404) F dL_law_40 (by omega) (by omega) (by rw [c40_8]; rfl) (by decide) ?_
          refine pq_aload_n F dL_law_404 rfl rfl ?_
          refine pq_callV (As := []) F (k_X10_place l D cy _ _ ?_) ml_L_82 hx1 (by decide) rfl (Nat.le_of_ble_eq_true rfl) ⟨Nat.le_of_ble_eq_true rfl, Nat.le_of_ble_eq_true rfl⟩ ⟨(by show cc + 0 ≤ 600128; omega), (by show zz + 0 ≤ 7301098; omega)⟩ dL_law_405 (fun v405 S405 w405 => ?_)
          · exact hx1
          obtain ⟨u405, y405, rfl⟩ := w405
          rw [u405]
          refine pq_pop F dL_law_408 rfl ?_
          refine pq_aload_n F dL_law_409 rfl rfl ?_
          (refine pq_intF hr1 (by decide) (show pq_ft 14 2 = (1, -2147483648, 2147483647) from rfl) (fun x9 ex9 _ _ => ?_); refine pq_callV (As := []) F (k_X11_place l D cy _ _ (by exact hr1)) ml_L_85 hr1 (by decide) rfl (Nat.le_of_ble_eq_true rfl) ⟨Nat.le_of_ble_eq_true rfl, Nat.le_of_ble_eq_true rfl⟩ ⟨(by show cc + 0 + 0 ≤ 600128; omega), (by show zz + 0 + 0 ≤ 7301098; omega)⟩ dL_law_410 (fun v410 S410 w410 => ?_); obtain ⟨rfl, rfl⟩ := w410; rw [ex9]; have hFq := (pq_Fr.rf (M := [(14, 3)]) (S := S1)).uO (k := 3) (v := .int 0) hr1 (by decide); have rq := hFq.R hr1 (by decide))
          refine pq_pop F dL_law_413 rfl ?_
          refine pq_goto (tgt := 417) F dL_law_414 (by decide) ?_
          refine pq_iinc (v := 6) F dL_law_417 rfl (by decide) (by decide) ?_
          refine pq_goto (tgt := 23) F dL_law_420 (by decide) ?_
          exact pq_fgm [true, true, true, true, true, false, false, false] (ih _ _ t np nq xx rr ou ao aa t2 k2 (j + 1) tn kz (cc + 0) (zz + 0) (hF.cm hFq (by decide)) hx1 rq ho1 (hI1.fr hFq (by decide)) (hP1.fr hFq hr1 (by decide) (by decide) (by decide) (by decide)) (pq_kp ht1 (by decide)) hol1 hnp hnq (by focus ((try clear hX); (try clear hI1); (try clear hP1); (try clear hOct); (try clear ih); (try clear ph); (try clear Rh); (try clear hIc); (try clear hPc); (try clear hEx); (try clear w160); (try clear w188); (try clear w244); (try clear Rq); simp only [vp_in_iff, Int32.lt_iff_toInt_lt, Int32.le_iff_toInt_le, ← Int32.toInt_inj, Int32.toInt_add, Int32.toInt_sub, Int32.toInt_mul, Int32.toInt_neg, pq_NuO, pq_NuI, pq_NuJ, pq_NuR, pq_shr6, pq_shr7, pq_shr8, lqm1, lq0, lq1, lq2, lq3, lq4, lq5, lq6, lq15, lq384] at *; (try simp (disch := omega) only [pq_bm] at *); all_goals omega)) (by omega) htn (by omega) hkz (by omega) (by omega) (by omega))
        exact (by exfalso; omega)
  refine pq_newO F nw_L_8 (by decide) (fun _ => rfl) (Nat.le_of_ble_eq_true rfl) (Nat.le_of_ble_eq_true rfl) dL_law_0 (fun q0 nq0 h0 => ?_)
  refine pq_dup F dL_law_3 rfl ?_
  refine pq_callI (As := []) F (k_X10_init l D cy _ _ ?_) ml_L_45 (Nat.le_of_ble_eq_true rfl) ⟨Nat.le_of_ble_eq_true rfl, Nat.le_of_ble_eq_true rfl⟩ ⟨Nat.le_of_ble_eq_true rfl, Nat.le_of_ble_eq_true rfl⟩ dL_law_4 (fun v4 S4 w4 => ?_)
  · exact h0
  obtain ⟨rfl, hG4, hy4, p4⟩ := w4
  refine pq_astore_n F dL_law_7 rfl (by decide) ?_
  refine pq_newO F nw_L_46 (by decide) (fun _ => rfl) (Nat.le_of_ble_eq_true rfl) (Nat.le_of_ble_eq_true rfl) dL_law_8 (fun q8 nq8 h8 => ?_)
  have hy4_8 := pq_nR (r := 74) (n := 0) (ds := (fun k => defaultValue (tyX11 k))) nq8 hy4
  refine pq_dup F dL_law_11 rfl ?_
  refine pq_callI (As := []) F (k_X11_init l D cy _ _ ?_ (pq_nwO.trans rfl) (pq_nwO.trans rfl) (pq_nwO.trans rfl) (pq_nwO.trans rfl) (pq_nwO.trans rfl) (pq_nwO.trans rfl) (pq_nwO.trans rfl) (pq_nwO.trans rfl) (pq_nwO.trans rfl) (pq_nwO.trans rfl) (pq_nwO.trans rfl) (pq_nwO.trans rfl) (pq_nwO.trans rfl) (pq_nwO.trans rfl)) ml_L_48 (Nat.le_of_ble_eq_true rfl) ⟨Nat.le_of_ble_eq_true rfl, Nat.le_of_ble_eq_true rfl⟩ ⟨Nat.le_of_ble_eq_true rfl, Nat.le_of_ble_eq_true rfl⟩ dL_law_12 (fun v12 S12 w12 => ?_)
  · exact h8
  obtain ⟨rfl, hF12, p12⟩ := w12
  have pr12 := p12.1
  have hy4_12 := (hF12.1 _ _ hy4_8 (by decide)).1
  obtain ⟨-, e12, o9, a9, t9, k9, R12⟩ := p12
  refine pq_astore_n F dL_law_15 rfl (by decide) ?_
  refine pq_iconst (v := 1) F dL_law_16 (by decide) ?_
  refine pq_newJ F (r := 186) (n := 1) (by decide) (by decide) ac_long rfl (by decide) (by decide) rfl (by decide) (Nat.le_of_ble_eq_true rfl) (Nat.le_of_ble_eq_true rfl) (Nat.le_of_ble_eq_true rfl) dL_law_17 (fun q17 nq17 h17 => ?_)
  have hy4_17 := pq_nR (r := 186) (n := 1) (ds := (fun _ => Value.null)) nq17 hy4_12
  have pr12_17 := pq_nR (r := 186) (n := 1) (ds := (fun _ => Value.null)) nq17 pr12
  refine pq_astore_n F dL_law_19 rfl (by decide) ?_
  refine pq_iconst (v := 0) F dL_law_20 (by decide) ?_
  refine pq_istore F dL_law_21 (by decide) ?_
  exact pq_fgm [true, true, true, true, true, false, false, false] (L23 1000 _ 0 0 0 0 q0 q8 q17 o9 a9 t9 k9 0 0 0 _ _ ((((pq_Fr.rf.gn nq0 hG4).nw nq8).cm hF12 (by decide)).nw nq17) hy4_17 pr12_17 h17 (by exact p4.fr ((((pq_Fr.rf (M := [(200, 0), (122, 0), (123, 0), (124, 0), (14, 10), (14, 11), (14, 12), (14, 4), (14, 5), (14, 6), (120, 0), (121, 0), (14, 9), (180, 0), (181, 0), (130, 0), (131, 0), (14, 20), (132, 0), (14, 21), (14, 22), (14, 23), (14, 24), (127, 0), (128, 0), (129, 0), (14, 26), (14, 31), (125, 0), (126, 0), (182, 0), (183, 0), (133, 0), (134, 0), (135, 0), (14, 36), (201, 0), (202, 0), (136, 0), (137, 0)])).nw nq8).cm hF12 (by decide)).nw nq17) (by decide)) (by exact R12.fr ((pq_Fr.rf (M := [])).nw nq17) pr12 (by decide) (by decide) (by decide) (by decide)) (by exact pq_nO nq17 pr12 e12) (by exact pq_nN) (by decide) (by decide) rfl (by decide) rfl (by decide) (Or.inr ⟨rfl, rfl⟩) (by decide) (by decide) (by decide))

