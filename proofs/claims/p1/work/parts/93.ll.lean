/-! ===== the script: a row outside the pool, read alone ===== -/
section SL
variable {p : Program} {l : Launch} {e : Env} {R : Room} {s : State} {m : MethodId} {args : Array Value} {below : List Frame} {meth : Method} {c : Code} {Q : State → Prop} {D : va_G} {cy : Nat → ClassId} {A : Nat → Prop} {nL : Nat} {cc : ByteArray} {own : String} {cells slots pc : Nat} {S : HS} {lc : List (Option Value)} {st : List Value}
theorem pq_sld (F : pq_Fx p R s m args c D cy A cc nL own) {b L : Nat} {xs : Nat → Int32} (hX : va_X b L xs s s.heap) (hbl : b < s.heap.size) (hbA : ¬ A b) {i : Int32} (hin : vp_in i L) (hdg : decode cc pc = .ok (.iaload, 1)) (kk : ∀ x : Int32, x = xs i.toNatClampNeg → pq_At p l e R s m args below meth c Q D cy A nL cells slots (pc + 1) S lc (.int x :: st)) : pq_At p l e R s m args below meth c Q D cy A nL cells slots pc S lc (.int i :: .ref b :: st) :=
  fun H locs ls hT hP hD hS hl => va_sld F.1 F.2.1 hX hbl hbA hS hin hdg (kk _ rfl H locs ls hT hP hD hS hl)
theorem pq_slen (F : pq_Fx p R s m args c D cy A cc nL own) {b L : Nat} {xs : Nat → Int32} (hX : va_X b L xs s s.heap) (hbl : b < s.heap.size) (hbA : ¬ A b) (hL : L ≤ 384) (hdg : decode cc pc = .ok (.arraylength, 1)) (kk : ∀ x : Int32, x.toInt = (L : Int) → pq_At p l e R s m args below meth c Q D cy A nL cells slots (pc + 1) S lc (.int x :: st)) : pq_At p l e R s m args below meth c Q D cy A nL cells slots pc S lc (.ref b :: st) :=
  fun H locs ls hT hP hD hS hl => va_slen F.1 F.2.1 hX hbl hbA hS hdg (kk _ (nI_toInt (n := L) (by omega)) H locs ls hT hP hD hS hl)
end SL

theorem pq_lgc (x : Int64) : lg_cmp x x = 0 := by simp [lg_cmp]
theorem pf_key {P : Prop} {yh : Int32} {a w : Int64} {α : Type} {y v : α} {t : Value} (h : (yh = 0 ∧ P ∧ a = w) ∨ (yh = 1 ∧ ¬ P)) (q : (P ∧ y = v ∧ t = .int 0) ∨ (¬ P ∧ t = .int 1)) : (yh = 0 ∧ (a = w ∧ y = v) ∧ t = .int 0) ∨ (yh = 1 ∧ t = .int 1) := by
  rcases h with ⟨h1, h2, h3⟩ | ⟨h1, h2⟩
  · rcases q with ⟨q1, q2, q3⟩ | ⟨q1, q2⟩
    · exact Or.inl ⟨h1, ⟨h3, q2⟩, q3⟩
    · exact absurd h2 q1
  · rcases q with ⟨q1, q2, q3⟩ | ⟨q1, q2⟩
    · exact absurd q1 h2
    · exact Or.inr ⟨h1, q2⟩
theorem pf_key2 {A B C D : Prop} (q : (A ∨ B) ∧ C ∨ (¬ A ∧ ¬ B) ∧ D) : ((A ∨ B) ∧ C) ∨ (¬ (A ∨ B) ∧ D) := q.imp id (fun z => ⟨fun h => h.elim z.1.1 z.1.2, z.2⟩)
theorem pf_key3 {A B C D : Prop} (q : (A ∧ B ∧ C) ∨ D) : ((A ∧ B) ∧ C) ∨ D := q.imp (fun z => ⟨⟨z.1, z.2.1⟩, z.2.2⟩) id
set_option maxHeartbeats 4000000 in
set_option maxRecDepth 100000 in
theorem k_L_law (l : Launch) (D : va_G) (cy : Nat → ClassId) (hl0 : l.stackTraces = false) (S : HS) (b L : Nat) (xs : Nat → Int32) (hL6 : L ≤ 6) {p : Program} {e : Env} {s : State} {m : MethodId} {args : Array Value} {below : List Frame} {meth : Method} {c : Code} {A : Nat → Prop} (F : pq_Fx p room_1 s m args c D cy A cL_law 8 yL_law.cls) (hr : meth.sig.returnType = some .boolean) (hlk : meth.locks = false) (hA : A = va_A (pq_pl cy S) s.heap.size) (hEx : pq_Dn s ∧ va_Nc "java/lang/UnsupportedOperationException" "java/lang/IllegalArgumentException" s ∧ va_Nc "java/lang/IndexOutOfBoundsException" "java/lang/IllegalArgumentException" s ∧ va_Nc "java/lang/IndexOutOfBoundsException" "java/lang/UnsupportedOperationException" s) (hX : va_X b L xs s s.heap) (hbl : b < s.heap.size) (hbA : ¬ A b) : pq_At p l e room_1 s m args below meth c (pq_Z below args s D cy S 600002 7302232 (fun v S2 => pq_Fr [(12, 1), (104, 0), (186, 0), (9, 5), (9, 6), (9, 7), (9, 8), (9, 9), (5, 2), (190, 0), (191, 0), (195, 0), (194, 0), (8, 3), (230, 0), (231, 0), (13, 8), (6, 3), (156, 0), (157, 0), (158, 0), (11, 6), (198, 0), (199, 0), (167, 0), (11, 7), (11, 8), (11, 9), (166, 0), (197, 0), (7, 7), (159, 0), (192, 0), (193, 0), (161, 0), (162, 0), (160, 0), (150, 0), (151, 0), (3, 4), (3, 5), (3, 3), (3, 6), (3, 7), (206, 0), (152, 0), (153, 0), (154, 0), (33, 4), (33, 5), (33, 3), (33, 6), (33, 7), (207, 0), (155, 0), (10, 7), (10, 1), (163, 0), (10, 2), (10, 3), (10, 4), (10, 5), (164, 0), (165, 0), (196, 0), (10, 6), (103, 0), (189, 0), (4, 0), (4, 1), (200, 0), (122, 0), (123, 0), (124, 0), (14, 10), (14, 4), (14, 5), (14, 6), (120, 0), (121, 0), (14, 9), (131, 0), (14, 20), (182, 0), (132, 0), (14, 23), (14, 24), (127, 0), (128, 0), (14, 26), (14, 31), (125, 0), (126, 0), (183, 0), (201, 0), (133, 0), (134, 0), (135, 0), (14, 36), (137, 0), (202, 0), (136, 0), (14, 1), (14, 2), (14, 3), (14, 41), (138, 0), (139, 0), (102, 0), (101, 0), (184, 0), (185, 0), (100, 0)] S S2 ∧ ∃ x : Int32, v = some (.int x) ∧ 1 ≤ x.toInt ∧ x.toInt ≤ 1)) D cy A 8 0 0 0 S (pq_l0 [.ref b] 8) [] := by
  have lqm1 : (-1 : Int32).toInt = -1 := rfl
  have lq0 : (0 : Int32).toInt = 0 := rfl
  have lq1 : (1 : Int32).toInt = 1 := rfl
  have lq2 : (2 : Int32).toInt = 2 := rfl
  have lq3 : (3 : Int32).toInt = 3 := rfl
  have lq4 : (4 : Int32).toInt = 4 := rfl
  have lq5 : (5 : Int32).toInt = 5 := rfl
  have lq6 : (6 : Int32).toInt = 6 := rfl
  have lq15 : (15 : Int32).toInt = 15 := rfl
  have lq384 : (384 : Int32).toInt = 384 := rfl
  have hL : L ≤ 384 := (by omega)
  have L23 : ∀  (fu : Nat) (S1 : HS) (iv : Int32) (xx rr ou cc zz : Nat) (hF : pq_Fr [(12, 1), (104, 0), (186, 0), (9, 5), (9, 6), (9, 7), (9, 8), (9, 9), (5, 2), (190, 0), (191, 0), (195, 0), (194, 0), (8, 3), (230, 0), (231, 0), (13, 8), (6, 3), (156, 0), (157, 0), (158, 0), (11, 6), (198, 0), (199, 0), (167, 0), (11, 7), (11, 8), (11, 9), (166, 0), (197, 0), (7, 7), (159, 0), (192, 0), (193, 0), (161, 0), (162, 0), (160, 0), (150, 0), (151, 0), (3, 4), (3, 5), (3, 3), (3, 6), (3, 7), (206, 0), (152, 0), (153, 0), (154, 0), (33, 4), (33, 5), (33, 3), (33, 6), (33, 7), (207, 0), (155, 0), (10, 7), (10, 1), (163, 0), (10, 2), (10, 3), (10, 4), (10, 5), (164, 0), (165, 0), (196, 0), (10, 6), (103, 0), (189, 0), (4, 0), (4, 1), (200, 0), (122, 0), (123, 0), (124, 0), (14, 10), (14, 4), (14, 5), (14, 6), (120, 0), (121, 0), (14, 9), (131, 0), (14, 20), (182, 0), (132, 0), (14, 23), (14, 24), (127, 0), (128, 0), (14, 26), (14, 31), (125, 0), (126, 0), (183, 0), (201, 0), (133, 0), (134, 0), (135, 0), (14, 36), (137, 0), (202, 0), (136, 0), (14, 1), (14, 2), (14, 3), (14, 41), (138, 0), (139, 0), (102, 0), (101, 0), (184, 0), (185, 0), (100, 0)] S S1) (hx1 : pq_R S1 xx 13) (hr1 : pq_R S1 rr 14) (ho1 : pq_R S1 ou 186) (hf : iv.toInt = 0 → hN S1 ou = 1 ∧ pf_Y S1 xx ∧ ∃ (en le si st ao aa : Nat) (xz : Int32), pf_Z S1 rr en le si st ao aa xz) (hiv : (iv.toInt = 0 ∧ cc ≤ 200 ∧ zz ≤ 830000) ∨ iv.toInt = 6) (hcc : cc ≤ 400) (hzz : zz ≤ 840000), (12 - iv.toInt).toNat < fu → pq_At p l e room_1 s m args below meth c (pq_Z below args s D cy S 600002 7302232 (fun v S2 => pq_Fr [(12, 1), (104, 0), (186, 0), (9, 5), (9, 6), (9, 7), (9, 8), (9, 9), (5, 2), (190, 0), (191, 0), (195, 0), (194, 0), (8, 3), (230, 0), (231, 0), (13, 8), (6, 3), (156, 0), (157, 0), (158, 0), (11, 6), (198, 0), (199, 0), (167, 0), (11, 7), (11, 8), (11, 9), (166, 0), (197, 0), (7, 7), (159, 0), (192, 0), (193, 0), (161, 0), (162, 0), (160, 0), (150, 0), (151, 0), (3, 4), (3, 5), (3, 3), (3, 6), (3, 7), (206, 0), (152, 0), (153, 0), (154, 0), (33, 4), (33, 5), (33, 3), (33, 6), (33, 7), (207, 0), (155, 0), (10, 7), (10, 1), (163, 0), (10, 2), (10, 3), (10, 4), (10, 5), (164, 0), (165, 0), (196, 0), (10, 6), (103, 0), (189, 0), (4, 0), (4, 1), (200, 0), (122, 0), (123, 0), (124, 0), (14, 10), (14, 4), (14, 5), (14, 6), (120, 0), (121, 0), (14, 9), (131, 0), (14, 20), (182, 0), (132, 0), (14, 23), (14, 24), (127, 0), (128, 0), (14, 26), (14, 31), (125, 0), (126, 0), (183, 0), (201, 0), (133, 0), (134, 0), (135, 0), (14, 36), (137, 0), (202, 0), (136, 0), (14, 1), (14, 2), (14, 3), (14, 41), (138, 0), (139, 0), (102, 0), (101, 0), (184, 0), (185, 0), (100, 0)] S S2 ∧ ∃ x : Int32, v = some (.int x) ∧ 1 ≤ x.toInt ∧ x.toInt ≤ 1)) D cy A 8 cc zz 23 S1 [some (.ref b), some (.ref xx), some (.ref rr), some (.ref ou), some (.int iv), none, none, none] [] := by
    intro  fu
    induction fu with
    | zero => intro S1 iv xx rr ou cc zz hF hx1 hr1 ho1 hf hiv hcc hzz hm; exact absurd hm (Nat.not_lt_zero _)
    | succ fu ih =>
      intro S1 iv xx rr ou cc zz hF hx1 hr1 ho1 hf hiv hcc hzz hm
      refine pq_iload F dL_law_23 rfl ?_
      refine pq_aload_n F dL_law_25 rfl rfl ?_
      refine pq_slen F hX hbl hbA hL dL_law_26 (fun x26 e26 => ?_)
      refine pq_bipush (v := 6) F dL_law_27 (by decide) ?_
      refine pq_isub F dL_law_29 ?_
      refine pq_icmp_gt (tgt := 632) F dL_law_30 (by decide) (fun c30 => ?_) (fun c30 => ?_)
      · skip
        refine pq_iconst (v := 1) F dL_law_632 (by decide) ?_
        exact pq_zret F hr hlk hA rfl (by show cc ≤ 600002; omega) (by show zz ≤ 7302232; omega) (⟨hF, 1, rfl, (by focus ((try clear hX); (try clear hf); (try clear hY1); (try clear hZ1); (try clear hI0); (try clear hI1); (try clear Zh); (try clear ih); (try clear ph); (try clear pq9); (try clear hEx); (try clear w160); (try clear w216); simp only [vp_in_iff, Int32.lt_iff_toInt_lt, Int32.le_iff_toInt_le, ← Int32.toInt_inj, Int32.toInt_add, Int32.toInt_sub, Int32.toInt_mul, Int32.toInt_neg, pq_NuO, pq_NuI, pq_NuJ, pq_NuR, pq_shr6, pq_shr7, pq_shr8, lqm1, lq0, lq1, lq2, lq3, lq4, lq5, lq6, lq15, lq384] at *; (try simp (disch := omega) only [pq_bm] at *); all_goals omega)), (by focus ((try clear hX); (try clear hf); (try clear hY1); (try clear hZ1); (try clear hI0); (try clear hI1); (try clear Zh); (try clear ih); (try clear ph); (try clear pq9); (try clear hEx); (try clear w160); (try clear w216); simp only [vp_in_iff, Int32.lt_iff_toInt_lt, Int32.le_iff_toInt_le, ← Int32.toInt_inj, Int32.toInt_add, Int32.toInt_sub, Int32.toInt_mul, Int32.toInt_neg, pq_NuO, pq_NuI, pq_NuJ, pq_NuR, pq_shr6, pq_shr7, pq_shr8, lqm1, lq0, lq1, lq2, lq3, lq4, lq5, lq6, lq15, lq384] at *; (try simp (disch := omega) only [pq_bm] at *); all_goals omega))⟩) dL_law_633
      · skip
        have hiv0 : iv.toInt = 0 := (by focus ((try clear hX); (try clear hf); (try clear hY1); (try clear hZ1); (try clear hI0); (try clear hI1); (try clear Zh); (try clear ih); (try clear ph); (try clear pq9); (try clear hEx); (try clear w160); (try clear w216); simp only [vp_in_iff, Int32.lt_iff_toInt_lt, Int32.le_iff_toInt_le, ← Int32.toInt_inj, Int32.toInt_add, Int32.toInt_sub, Int32.toInt_mul, Int32.toInt_neg, pq_NuO, pq_NuI, pq_NuJ, pq_NuR, pq_shr6, pq_shr7, pq_shr8, lqm1, lq0, lq1, lq2, lq3, lq4, lq5, lq6, lq15, lq384] at *; (try simp (disch := omega) only [pq_bm] at *); all_goals omega))
        obtain ⟨hol1, hY1, en, le, si, st, ao, aa, xz, hZ1⟩ := hf hiv0
        refine pf_ixF hY1 (fun hI0 => ?_)
        obtain ⟨t, ht0, hI1, ht1⟩ : ∃ t : Int32, t.toInt = 0 ∧ pq_Ix S1 xx t 0 0 ∧ hO S1 rr 1 = .int t := ⟨0, rfl, hI0, hZ1.2.1.1⟩
        refine pq_aload_n F dL_law_33 rfl rfl ?_
        refine pq_iload F dL_law_34 rfl ?_
        refine pq_sld F hX hbl hbA (by focus ((try clear hX); (try clear hf); (try clear hY1); (try clear hZ1); (try clear hI0); (try clear hI1); (try clear Zh); (try clear ih); (try clear ph); (try clear pq9); (try clear hEx); (try clear w160); (try clear w216); simp only [vp_in_iff, Int32.lt_iff_toInt_lt, Int32.le_iff_toInt_le, ← Int32.toInt_inj, Int32.toInt_add, Int32.toInt_sub, Int32.toInt_mul, Int32.toInt_neg, pq_NuO, pq_NuI, pq_NuJ, pq_NuR, pq_shr6, pq_shr7, pq_shr8, lqm1, lq0, lq1, lq2, lq3, lq4, lq5, lq6, lq15, lq384] at *; (try simp (disch := omega) only [pq_bm] at *); all_goals omega)) dL_law_36 (fun x36 e36 => ?_)
        refine pq_bipush (v := 15) F dL_law_37 (by decide) ?_
        refine pq_iand F dL_law_39 ?_; generalize hsw : x36 &&& 15 = sw
        by_cases c40o : sw.toInt < 0 ∨ 8 < sw.toInt
        · refine pq_tabOut (tgt := 626) F dL_law_40 c40o (by decide) ?_
          refine pq_iinc (v := 6) F dL_law_626 rfl (by decide) (by decide) ?_
          refine pq_goto (tgt := 23) F dL_law_629 (by decide) ?_
          exact pq_fgm [true, true, true, true, true, false, false, false] (ih _ _ xx rr ou (cc + 0) (zz + 0) hF hx1 hr1 ho1 (fun z => absurd z (by focus ((try clear hX); (try clear hf); (try clear hY1); (try clear hZ1); (try clear hI0); (try clear hI1); (try clear Zh); (try clear ih); (try clear ph); (try clear pq9); (try clear hEx); (try clear w160); (try clear w216); simp only [vp_in_iff, Int32.lt_iff_toInt_lt, Int32.le_iff_toInt_le, ← Int32.toInt_inj, Int32.toInt_add, Int32.toInt_sub, Int32.toInt_mul, Int32.toInt_neg, pq_NuO, pq_NuI, pq_NuJ, pq_NuR, pq_shr6, pq_shr7, pq_shr8, lqm1, lq0, lq1, lq2, lq3, lq4, lq5, lq6, lq15, lq384] at *; (try simp (disch := omega) only [pq_bm] at *); all_goals omega))) (Or.inr (by focus ((try clear hX); (try clear hf); (try clear hY1); (try clear hZ1); (try clear hI0); (try clear hI1); (try clear Zh); (try clear ih); (try clear ph); (try clear pq9); (try clear hEx); (try clear w160); (try clear w216); simp only [vp_in_iff, Int32.lt_iff_toInt_lt, Int32.le_iff_toInt_le, ← Int32.toInt_inj, Int32.toInt_add, Int32.toInt_sub, Int32.toInt_mul, Int32.toInt_neg, pq_NuO, pq_NuI, pq_NuJ, pq_NuR, pq_shr6, pq_shr7, pq_shr8, lqm1, lq0, lq1, lq2, lq3, lq4, lq5, lq6, lq15, lq384] at *; (try simp (disch := omega) only [pq_bm] at *); all_goals omega))) (by omega) (by omega) (by focus ((try clear hX); (try clear hf); (try clear hY1); (try clear hZ1); (try clear hI0); (try clear hI1); (try clear Zh); (try clear ih); (try clear ph); (try clear pq9); (try clear hEx); (try clear w160); (try clear w216); simp only [vp_in_iff, Int32.lt_iff_toInt_lt, Int32.le_iff_toInt_le, ← Int32.toInt_inj, Int32.toInt_add, Int32.toInt_sub, Int32.toInt_mul, Int32.toInt_neg, pq_NuO, pq_NuI, pq_NuJ, pq_NuR, pq_shr6, pq_shr7, pq_shr8, lqm1, lq0, lq1, lq2, lq3, lq4, lq5, lq6, lq15, lq384] at *; (try simp (disch := omega) only [pq_bm] at *); all_goals omega)))
        by_cases c40_0 : sw.toInt = 0
        · refine pq_tabIn (tgt := 92) F dL_law_40 (by omega) (by omega) (by rw [c40_0]; rfl) (by decide) ?_
          refine pq_aload_n F dL_law_92 rfl rfl ?_
          refine pq_aload_n F dL_law_93 rfl rfl ?_
          refine pq_iload F dL_law_94 rfl ?_
          refine pq_iconst (v := 1) F dL_law_96 (by decide) ?_
          refine pq_iadd F dL_law_97 ?_
          refine pq_sld F hX hbl hbA (by focus ((try clear hX); (try clear hf); (try clear hY1); (try clear hZ1); (try clear hI0); (try clear hI1); (try clear Zh); (try clear ih); (try clear ph); (try clear pq9); (try clear hEx); (try clear w160); (try clear w216); simp only [vp_in_iff, Int32.lt_iff_toInt_lt, Int32.le_iff_toInt_le, ← Int32.toInt_inj, Int32.toInt_add, Int32.toInt_sub, Int32.toInt_mul, Int32.toInt_neg, pq_NuO, pq_NuI, pq_NuJ, pq_NuR, pq_shr6, pq_shr7, pq_shr8, lqm1, lq0, lq1, lq2, lq3, lq4, lq5, lq6, lq15, lq384] at *; (try simp (disch := omega) only [pq_bm] at *); all_goals omega)) dL_law_98 (fun x98 e98 => ?_)
          refine pq_aload_n F dL_law_99 rfl rfl ?_
          refine pq_iload F dL_law_100 rfl ?_
          refine pq_iconst (v := 2) F dL_law_102 (by decide) ?_
          refine pq_iadd F dL_law_103 ?_
          refine pq_sld F hX hbl hbA (by focus ((try clear hX); (try clear hf); (try clear hY1); (try clear hZ1); (try clear hI0); (try clear hI1); (try clear Zh); (try clear ih); (try clear ph); (try clear pq9); (try clear hEx); (try clear w160); (try clear w216); simp only [vp_in_iff, Int32.lt_iff_toInt_lt, Int32.le_iff_toInt_le, ← Int32.toInt_inj, Int32.toInt_add, Int32.toInt_sub, Int32.toInt_mul, Int32.toInt_neg, pq_NuO, pq_NuI, pq_NuJ, pq_NuR, pq_shr6, pq_shr7, pq_shr8, lqm1, lq0, lq1, lq2, lq3, lq4, lq5, lq6, lq15, lq384] at *; (try simp (disch := omega) only [pq_bm] at *); all_goals omega)) dL_law_104 (fun x104 e104 => ?_)
          refine pq_aload_n F dL_law_105 rfl rfl ?_
          refine pq_iload F dL_law_106 rfl ?_
          refine pq_iconst (v := 3) F dL_law_108 (by decide) ?_
          refine pq_iadd F dL_law_109 ?_
          refine pq_sld F hX hbl hbA (by focus ((try clear hX); (try clear hf); (try clear hY1); (try clear hZ1); (try clear hI0); (try clear hI1); (try clear Zh); (try clear ih); (try clear ph); (try clear pq9); (try clear hEx); (try clear w160); (try clear w216); simp only [vp_in_iff, Int32.lt_iff_toInt_lt, Int32.le_iff_toInt_le, ← Int32.toInt_inj, Int32.toInt_add, Int32.toInt_sub, Int32.toInt_mul, Int32.toInt_neg, pq_NuO, pq_NuI, pq_NuJ, pq_NuR, pq_shr6, pq_shr7, pq_shr8, lqm1, lq0, lq1, lq2, lq3, lq4, lq5, lq6, lq15, lq384] at *; (try simp (disch := omega) only [pq_bm] at *); all_goals omega)) dL_law_110 (fun x110 e110 => ?_)
          refine pq_aload_n F dL_law_111 rfl rfl ?_
          refine pq_iload F dL_law_112 rfl ?_
          refine pq_iconst (v := 4) F dL_law_114 (by decide) ?_
          refine pq_iadd F dL_law_115 ?_
          refine pq_sld F hX hbl hbA (by focus ((try clear hX); (try clear hf); (try clear hY1); (try clear hZ1); (try clear hI0); (try clear hI1); (try clear Zh); (try clear ih); (try clear ph); (try clear pq9); (try clear hEx); (try clear w160); (try clear w216); simp only [vp_in_iff, Int32.lt_iff_toInt_lt, Int32.le_iff_toInt_le, ← Int32.toInt_inj, Int32.toInt_add, Int32.toInt_sub, Int32.toInt_mul, Int32.toInt_neg, pq_NuO, pq_NuI, pq_NuJ, pq_NuR, pq_shr6, pq_shr7, pq_shr8, lqm1, lq0, lq1, lq2, lq3, lq4, lq5, lq6, lq15, lq384] at *; (try simp (disch := omega) only [pq_bm] at *); all_goals omega)) dL_law_116 (fun x116 e116 => ?_)
          refine pq_aload_n F dL_law_117 rfl rfl ?_
          refine pq_iload F dL_law_118 rfl ?_
          refine pq_iconst (v := 5) F dL_law_120 (by decide) ?_
          refine pq_iadd F dL_law_121 ?_
          refine pq_sld F hX hbl hbA (by focus ((try clear hX); (try clear hf); (try clear hY1); (try clear hZ1); (try clear hI0); (try clear hI1); (try clear Zh); (try clear ih); (try clear ph); (try clear pq9); (try clear hEx); (try clear w160); (try clear w216); simp only [vp_in_iff, Int32.lt_iff_toInt_lt, Int32.le_iff_toInt_le, ← Int32.toInt_inj, Int32.toInt_add, Int32.toInt_sub, Int32.toInt_mul, Int32.toInt_neg, pq_NuO, pq_NuI, pq_NuJ, pq_NuR, pq_shr6, pq_shr7, pq_shr8, lqm1, lq0, lq1, lq2, lq3, lq4, lq5, lq6, lq15, lq384] at *; (try simp (disch := omega) only [pq_bm] at *); all_goals omega)) dL_law_122 (fun x122 e122 => ?_)
          refine pq_aload_n F dL_law_123 rfl rfl ?_
          (refine pq_callSH (As := [_, _, _, _, _, _, _]) F (k_L_feed l D cy hl0 _ _ (by exact hx1) _ _ _ _ _ _ (by exact ho1) t 0 0 (by exact hI1) (by exact hol1)) (pq_gt2 (i := 132) rfl rfl) (pq_gt1 (i := 0) rfl rfl) (pq_gt2 (i := 131) rfl rfl) (pq_gt2 (i := 130) rfl rfl) ⟨by decide, by decide, (show Option.map (fun d => d.parameters.length) (parseMethodDescriptor yL_feed.desc) = some 7 from by decide +kernel)⟩ (fun U9 h9 => hEx.1.warm h9) (fun a9 U9 g9 mk9 q9 => pq_Dn.same (u := U9) rfl q9) (Nat.le_of_ble_eq_true rfl) ⟨Nat.le_of_ble_eq_true rfl, Nat.le_of_ble_eq_true rfl⟩ ⟨(by show cc + 1 ≤ 600002; omega), (by show zz + 6 ≤ 7302232; omega)⟩ dL_law_124 (fun v124 S124 w124 => ?_); obtain ⟨hFh, yh, rfl, yh0, yh1, ph⟩ := w124; have xh := hFh.R hx1 (by decide); have rh := hFh.R hr1 (by decide); have oh := hFh.R ho1 (by decide); have olh : hN S124 ou = 1 := (hFh.1 ou 186 ho1 (by decide)).2.trans hol1; have Zh := hZ1.fr hr1 hFh (by decide); have Th := hFh.O hr1 (by decide) (by decide) ht1)
          refine pq_istore F dL_law_127 (by decide) ?_
          refine pq_aload_n F dL_law_129 rfl rfl ?_
          refine pq_aload_n F dL_law_130 rfl rfl ?_
          refine pq_iload F dL_law_131 rfl ?_
          refine pq_iconst (v := 1) F dL_law_133 (by decide) ?_
          refine pq_iadd F dL_law_134 ?_
          refine pq_sld F hX hbl hbA (by focus ((try clear hX); (try clear hf); (try clear hY1); (try clear hZ1); (try clear hI0); (try clear hI1); (try clear Zh); (try clear ih); (try clear ph); (try clear pq9); (try clear hEx); (try clear w160); (try clear w216); simp only [vp_in_iff, Int32.lt_iff_toInt_lt, Int32.le_iff_toInt_le, ← Int32.toInt_inj, Int32.toInt_add, Int32.toInt_sub, Int32.toInt_mul, Int32.toInt_neg, pq_NuO, pq_NuI, pq_NuJ, pq_NuR, pq_shr6, pq_shr7, pq_shr8, lqm1, lq0, lq1, lq2, lq3, lq4, lq5, lq6, lq15, lq384] at *; (try simp (disch := omega) only [pq_bm] at *); all_goals omega)) dL_law_135 (fun x135 e135 => ?_)
          refine pq_aload_n F dL_law_136 rfl rfl ?_
          refine pq_iload F dL_law_137 rfl ?_
          refine pq_iconst (v := 2) F dL_law_139 (by decide) ?_
          refine pq_iadd F dL_law_140 ?_
          refine pq_sld F hX hbl hbA (by focus ((try clear hX); (try clear hf); (try clear hY1); (try clear hZ1); (try clear hI0); (try clear hI1); (try clear Zh); (try clear ih); (try clear ph); (try clear pq9); (try clear hEx); (try clear w160); (try clear w216); simp only [vp_in_iff, Int32.lt_iff_toInt_lt, Int32.le_iff_toInt_le, ← Int32.toInt_inj, Int32.toInt_add, Int32.toInt_sub, Int32.toInt_mul, Int32.toInt_neg, pq_NuO, pq_NuI, pq_NuJ, pq_NuR, pq_shr6, pq_shr7, pq_shr8, lqm1, lq0, lq1, lq2, lq3, lq4, lq5, lq6, lq15, lq384] at *; (try simp (disch := omega) only [pq_bm] at *); all_goals omega)) dL_law_141 (fun x141 e141 => ?_)
          refine pq_aload_n F dL_law_142 rfl rfl ?_
          refine pq_iload F dL_law_143 rfl ?_
          refine pq_iconst (v := 3) F dL_law_145 (by decide) ?_
          refine pq_iadd F dL_law_146 ?_
          refine pq_sld F hX hbl hbA (by focus ((try clear hX); (try clear hf); (try clear hY1); (try clear hZ1); (try clear hI0); (try clear hI1); (try clear Zh); (try clear ih); (try clear ph); (try clear pq9); (try clear hEx); (try clear w160); (try clear w216); simp only [vp_in_iff, Int32.lt_iff_toInt_lt, Int32.le_iff_toInt_le, ← Int32.toInt_inj, Int32.toInt_add, Int32.toInt_sub, Int32.toInt_mul, Int32.toInt_neg, pq_NuO, pq_NuI, pq_NuJ, pq_NuR, pq_shr6, pq_shr7, pq_shr8, lqm1, lq0, lq1, lq2, lq3, lq4, lq5, lq6, lq15, lq384] at *; (try simp (disch := omega) only [pq_bm] at *); all_goals omega)) dL_law_147 (fun x147 e147 => ?_)
          refine pq_aload_n F dL_law_148 rfl rfl ?_
          refine pq_iload F dL_law_149 rfl ?_
          refine pq_iconst (v := 4) F dL_law_151 (by decide) ?_
          refine pq_iadd F dL_law_152 ?_
          refine pq_sld F hX hbl hbA (by focus ((try clear hX); (try clear hf); (try clear hY1); (try clear hZ1); (try clear hI0); (try clear hI1); (try clear Zh); (try clear ih); (try clear ph); (try clear pq9); (try clear hEx); (try clear w160); (try clear w216); simp only [vp_in_iff, Int32.lt_iff_toInt_lt, Int32.le_iff_toInt_le, ← Int32.toInt_inj, Int32.toInt_add, Int32.toInt_sub, Int32.toInt_mul, Int32.toInt_neg, pq_NuO, pq_NuI, pq_NuJ, pq_NuR, pq_shr6, pq_shr7, pq_shr8, lqm1, lq0, lq1, lq2, lq3, lq4, lq5, lq6, lq15, lq384] at *; (try simp (disch := omega) only [pq_bm] at *); all_goals omega)) dL_law_153 (fun x153 e153 => ?_)
          refine pq_aload_n F dL_law_154 rfl rfl ?_
          refine pq_iload F dL_law_155 rfl ?_
          refine pq_iconst (v := 5) F dL_law_157 (by decide) ?_
          refine pq_iadd F dL_law_158 ?_
          refine pq_sld F hX hbl hbA (by focus ((try clear hX); (try clear hf); (try clear hY1); (try clear hZ1); (try clear hI0); (try clear hI1); (try clear Zh); (try clear ih); (try clear ph); (try clear pq9); (try clear hEx); (try clear w160); (try clear w216); simp only [vp_in_iff, Int32.lt_iff_toInt_lt, Int32.le_iff_toInt_le, ← Int32.toInt_inj, Int32.toInt_add, Int32.toInt_sub, Int32.toInt_mul, Int32.toInt_neg, pq_NuO, pq_NuI, pq_NuJ, pq_NuR, pq_shr6, pq_shr7, pq_shr8, lqm1, lq0, lq1, lq2, lq3, lq4, lq5, lq6, lq15, lq384] at *; (try simp (disch := omega) only [pq_bm] at *); all_goals omega)) dL_law_159 (fun x159 e159 => ?_)
          (refine pq_callV (As := [_, _, _, _, _]) F (k_X11_feed l D cy _ _ (by exact rh) _ _ _ _ _ t (by exact Th) (by omega) (by omega)) ml_L_54 rh (by decide) rfl (Nat.le_of_ble_eq_true rfl) ⟨Nat.le_of_ble_eq_true rfl, Nat.le_of_ble_eq_true rfl⟩ ⟨(by show cc + 1 + 0 ≤ 600002; omega), (by show zz + 6 + 0 ≤ 7302232; omega)⟩ dL_law_160 (fun v160 S160 w160 => ?_))
          rcases w160 with ⟨g1, hFq, g3, t3, rfl, g4, g5⟩ | ⟨g1, rfl, rfl⟩
          · skip
            have xq := hFq.R xh (by decide)
            have rq := hFq.R rh (by decide)
            have oq := hFq.R oh (by decide)
            have olq := (hFq.1 ou 186 oh (by decide)).2.trans olh
            obtain ⟨e9, h9, y9, hy9, hy9b, hI9⟩ := ph.resolve_right (fun z => absurd z.2.1 (by omega))
            subst e9
            have hyt : y9 = t3 := Int32.toInt_inj.mp (by omega)
            have h3 := g3
            refine pq_istore F dL_law_163 (by decide) ?_
            refine pq_aload_n F dL_law_165 rfl rfl ?_
            (refine pq_callV (As := []) F (k_X11_thrown l D cy _ _ (by exact rq)) ml_L_55 rq (by decide) rfl (Nat.le_of_ble_eq_true rfl) ⟨Nat.le_of_ble_eq_true rfl, Nat.le_of_ble_eq_true rfl⟩ ⟨(by show cc + 1 ≤ 600002; omega), (by show zz + 6 ≤ 7302232; omega)⟩ dL_law_166 (fun v166 S166 w166 => ?_); obtain ⟨rfl, rfl⟩ := w166; rw [h3])
            refine pq_iload F dL_law_169 rfl ?_
            refine pq_icmp_eq (tgt := 176) F dL_law_171 (by decide) (fun c171 => ?_) (fun c171 => ?_)
            · skip
              refine pq_iload F dL_law_176 rfl ?_
              refine pq_if_ne (tgt := 193) F dL_law_178 (by decide) (fun c178 => ?_) (fun c178 => ?_)
              · exact absurd rfl c178
              · skip
                refine pq_aload_n F dL_law_181 rfl rfl ?_
                refine pq_iconst (v := 0) F dL_law_182 (by decide) ?_
                refine pq_lald F oq (by decide) (by decide) rfl (fun n1_183 n2_183 => (by focus ((try clear hX); (try clear hf); (try clear hY1); (try clear hZ1); (try clear hI0); (try clear hI1); (try clear Zh); (try clear ih); (try clear ph); (try clear pq9); (try clear hEx); (try clear w160); (try clear w216); simp only [vp_in_iff, Int32.lt_iff_toInt_lt, Int32.le_iff_toInt_le, ← Int32.toInt_inj, Int32.toInt_add, Int32.toInt_sub, Int32.toInt_mul, Int32.toInt_neg, pq_NuO, pq_NuI, pq_NuJ, pq_NuR, pq_shr6, pq_shr7, pq_shr8, lqm1, lq0, lq1, lq2, lq3, lq4, lq5, lq6, lq15, lq384] at *; (try simp (disch := omega) only [pq_bm] at *); all_goals omega))) dL_law_183 (fun x183 e183 => ?_)
                refine pq_iload F dL_law_184 rfl ?_
                refine pq_i2l F dL_law_186 ?_
                refine pq_lcmp F dL_law_187 ?_
                refine pq_if_eq (tgt := 193) F dL_law_188 (by decide) (fun c188 => ?_) (fun c188 => ?_)
                · skip
                  refine pq_goto (tgt := 626) F dL_law_193 (by decide) ?_
                  refine pq_iinc (v := 6) F dL_law_626 rfl (by decide) (by decide) ?_
                  refine pq_goto (tgt := 23) F dL_law_629 (by decide) ?_
                  exact pq_fgm [true, true, true, true, true, false, false, false] (ih _ _ xx rr ou (cc + 1) (zz + 6) ((hF.cm hFh (by decide)).cm hFq (by decide)) xq rq oq (fun z => absurd z (by focus ((try clear hX); (try clear hf); (try clear hY1); (try clear hZ1); (try clear hI0); (try clear hI1); (try clear Zh); (try clear ih); (try clear ph); (try clear pq9); (try clear hEx); (try clear w160); (try clear w216); simp only [vp_in_iff, Int32.lt_iff_toInt_lt, Int32.le_iff_toInt_le, ← Int32.toInt_inj, Int32.toInt_add, Int32.toInt_sub, Int32.toInt_mul, Int32.toInt_neg, pq_NuO, pq_NuI, pq_NuJ, pq_NuR, pq_shr6, pq_shr7, pq_shr8, lqm1, lq0, lq1, lq2, lq3, lq4, lq5, lq6, lq15, lq384] at *; (try simp (disch := omega) only [pq_bm] at *); all_goals omega))) (Or.inr (by focus ((try clear hX); (try clear hf); (try clear hY1); (try clear hZ1); (try clear hI0); (try clear hI1); (try clear Zh); (try clear ih); (try clear ph); (try clear pq9); (try clear hEx); (try clear w160); (try clear w216); simp only [vp_in_iff, Int32.lt_iff_toInt_lt, Int32.le_iff_toInt_le, ← Int32.toInt_inj, Int32.toInt_add, Int32.toInt_sub, Int32.toInt_mul, Int32.toInt_neg, pq_NuO, pq_NuI, pq_NuJ, pq_NuR, pq_shr6, pq_shr7, pq_shr8, lqm1, lq0, lq1, lq2, lq3, lq4, lq5, lq6, lq15, lq384] at *; (try simp (disch := omega) only [pq_bm] at *); all_goals omega))) (by omega) (by omega) (by focus ((try clear hX); (try clear hf); (try clear hY1); (try clear hZ1); (try clear hI0); (try clear hI1); (try clear Zh); (try clear ih); (try clear ph); (try clear pq9); (try clear hEx); (try clear w160); (try clear w216); simp only [vp_in_iff, Int32.lt_iff_toInt_lt, Int32.le_iff_toInt_le, ← Int32.toInt_inj, Int32.toInt_add, Int32.toInt_sub, Int32.toInt_mul, Int32.toInt_neg, pq_NuO, pq_NuI, pq_NuJ, pq_NuR, pq_shr6, pq_shr7, pq_shr8, lqm1, lq0, lq1, lq2, lq3, lq4, lq5, lq6, lq15, lq384] at *; (try simp (disch := omega) only [pq_bm] at *); all_goals omega)))
                · exact absurd (by rw [show x183 = t3.toInt64 from e183.trans ((congrFun (hFq.2.2 ou 186 oh (by decide) (by decide)).2.1 _).trans (hy9.trans (by rw [hyt])))]; exact pq_lgc _) c188
            · exact absurd rfl c171
          · skip
            have hFq := ((pq_Fr.rf (M := [(14, 3)]) (S := S124)).uO (k := 3) (v := .int 0) rh (by decide)).uO (k := 3) (v := .int 1) (show pq_R _ rr 14 from rh) (by decide)
            have xq := hFq.R xh (by decide)
            have rq := hFq.R rh (by decide)
            have oq := hFq.R oh (by decide)
            have olq := (hFq.1 ou 186 oh (by decide)).2.trans olh
            obtain ⟨e9, h9, hI9⟩ := ph.resolve_left (fun z => absurd z.2.1 (by omega))
            subst e9
            have h3 : hO (pq_uO (pq_uO S124 rr 3 (.int 0)) rr 3 (.int 1)) rr 3 = .int 1 := pq_ks
            refine pq_istore F dL_law_163 (by decide) ?_
            refine pq_aload_n F dL_law_165 rfl rfl ?_
            (refine pq_callV (As := []) F (k_X11_thrown l D cy _ _ (by exact rq)) ml_L_55 rq (by decide) rfl (Nat.le_of_ble_eq_true rfl) ⟨Nat.le_of_ble_eq_true rfl, Nat.le_of_ble_eq_true rfl⟩ ⟨(by show cc + 1 ≤ 600002; omega), (by show zz + 6 ≤ 7302232; omega)⟩ dL_law_166 (fun v166 S166 w166 => ?_); obtain ⟨rfl, rfl⟩ := w166; rw [h3])
            refine pq_iload F dL_law_169 rfl ?_
            refine pq_icmp_eq (tgt := 176) F dL_law_171 (by decide) (fun c171 => ?_) (fun c171 => ?_)
            · skip
              refine pq_iload F dL_law_176 rfl ?_
              refine pq_if_ne (tgt := 193) F dL_law_178 (by decide) (fun c178 => ?_) (fun c178 => ?_)
              · skip
                refine pq_goto (tgt := 626) F dL_law_193 (by decide) ?_
                refine pq_iinc (v := 6) F dL_law_626 rfl (by decide) (by decide) ?_
                refine pq_goto (tgt := 23) F dL_law_629 (by decide) ?_
                exact pq_fgm [true, true, true, true, true, false, false, false] (ih _ _ xx rr ou (cc + 1) (zz + 6) ((hF.cm hFh (by decide)).cm hFq (by decide)) xq rq oq (fun z => absurd z (by focus ((try clear hX); (try clear hf); (try clear hY1); (try clear hZ1); (try clear hI0); (try clear hI1); (try clear Zh); (try clear ih); (try clear ph); (try clear pq9); (try clear hEx); (try clear w160); (try clear w216); simp only [vp_in_iff, Int32.lt_iff_toInt_lt, Int32.le_iff_toInt_le, ← Int32.toInt_inj, Int32.toInt_add, Int32.toInt_sub, Int32.toInt_mul, Int32.toInt_neg, pq_NuO, pq_NuI, pq_NuJ, pq_NuR, pq_shr6, pq_shr7, pq_shr8, lqm1, lq0, lq1, lq2, lq3, lq4, lq5, lq6, lq15, lq384] at *; (try simp (disch := omega) only [pq_bm] at *); all_goals omega))) (Or.inr (by focus ((try clear hX); (try clear hf); (try clear hY1); (try clear hZ1); (try clear hI0); (try clear hI1); (try clear Zh); (try clear ih); (try clear ph); (try clear pq9); (try clear hEx); (try clear w160); (try clear w216); simp only [vp_in_iff, Int32.lt_iff_toInt_lt, Int32.le_iff_toInt_le, ← Int32.toInt_inj, Int32.toInt_add, Int32.toInt_sub, Int32.toInt_mul, Int32.toInt_neg, pq_NuO, pq_NuI, pq_NuJ, pq_NuR, pq_shr6, pq_shr7, pq_shr8, lqm1, lq0, lq1, lq2, lq3, lq4, lq5, lq6, lq15, lq384] at *; (try simp (disch := omega) only [pq_bm] at *); all_goals omega))) (by omega) (by omega) (by focus ((try clear hX); (try clear hf); (try clear hY1); (try clear hZ1); (try clear hI0); (try clear hI1); (try clear Zh); (try clear ih); (try clear ph); (try clear pq9); (try clear hEx); (try clear w160); (try clear w216); simp only [vp_in_iff, Int32.lt_iff_toInt_lt, Int32.le_iff_toInt_le, ← Int32.toInt_inj, Int32.toInt_add, Int32.toInt_sub, Int32.toInt_mul, Int32.toInt_neg, pq_NuO, pq_NuI, pq_NuJ, pq_NuR, pq_shr6, pq_shr7, pq_shr8, lqm1, lq0, lq1, lq2, lq3, lq4, lq5, lq6, lq15, lq384] at *; (try simp (disch := omega) only [pq_bm] at *); all_goals omega)))
              · exact absurd c178 (by decide)
            · exact absurd rfl c171
        by_cases c40_1 : sw.toInt = 1
        · refine pq_tabIn (tgt := 196) F dL_law_40 (by omega) (by omega) (by rw [c40_1]; rfl) (by decide) ?_
          refine pq_aload_n F dL_law_196 rfl rfl ?_
          refine pq_aload_n F dL_law_197 rfl rfl ?_
          refine pq_iload F dL_law_198 rfl ?_
          refine pq_iconst (v := 1) F dL_law_200 (by decide) ?_
          refine pq_iadd F dL_law_201 ?_
          refine pq_sld F hX hbl hbA (by focus ((try clear hX); (try clear hf); (try clear hY1); (try clear hZ1); (try clear hI0); (try clear hI1); (try clear Zh); (try clear ih); (try clear ph); (try clear pq9); (try clear hEx); (try clear w160); (try clear w216); simp only [vp_in_iff, Int32.lt_iff_toInt_lt, Int32.le_iff_toInt_le, ← Int32.toInt_inj, Int32.toInt_add, Int32.toInt_sub, Int32.toInt_mul, Int32.toInt_neg, pq_NuO, pq_NuI, pq_NuJ, pq_NuR, pq_shr6, pq_shr7, pq_shr8, lqm1, lq0, lq1, lq2, lq3, lq4, lq5, lq6, lq15, lq384] at *; (try simp (disch := omega) only [pq_bm] at *); all_goals omega)) dL_law_202 (fun x202 e202 => ?_)
          refine pq_aload_n F dL_law_203 rfl rfl ?_
          (refine pq_callSH (As := [_, _, _]) F (k_L_end l D cy hl0 _ _ (by exact hx1) _ _ (by exact ho1) t 0 0 (by exact hI1) (by exact hol1)) (pq_gt2 (i := 213) rfl rfl) (pq_gt1 (i := 0) rfl rfl) (pq_gt2 (i := 212) rfl rfl) (pq_gt2 (i := 211) rfl rfl) ⟨by decide, by decide, (show Option.map (fun d => d.parameters.length) (parseMethodDescriptor yL_end.desc) = some 3 from by decide +kernel)⟩ (fun U9 h9 => hEx.1.warm h9) (fun a9 U9 g9 mk9 q9 => pq_Dn.same (u := U9) rfl q9) (Nat.le_of_ble_eq_true rfl) ⟨Nat.le_of_ble_eq_true rfl, Nat.le_of_ble_eq_true rfl⟩ ⟨(by show cc + 1 ≤ 600002; omega), (by show zz + 6 ≤ 7302232; omega)⟩ dL_law_204 (fun v204 S204 w204 => ?_); obtain ⟨hFh, yh, rfl, yh0, yh1, ph⟩ := w204; have xh := hFh.R hx1 (by decide); have rh := hFh.R hr1 (by decide); have oh := hFh.R ho1 (by decide); have olh : hN S204 ou = 1 := (hFh.1 ou 186 ho1 (by decide)).2.trans hol1; have Zh := hZ1.fr hr1 hFh (by decide); have Th := hFh.O hr1 (by decide) (by decide) ht1)
          refine pq_istore F dL_law_207 (by decide) ?_
          refine pq_aload_n F dL_law_209 rfl rfl ?_
          refine pq_aload_n F dL_law_210 rfl rfl ?_
          refine pq_iload F dL_law_211 rfl ?_
          refine pq_iconst (v := 1) F dL_law_213 (by decide) ?_
          refine pq_iadd F dL_law_214 ?_
          refine pq_sld F hX hbl hbA (by focus ((try clear hX); (try clear hf); (try clear hY1); (try clear hZ1); (try clear hI0); (try clear hI1); (try clear Zh); (try clear ih); (try clear ph); (try clear pq9); (try clear hEx); (try clear w160); (try clear w216); simp only [vp_in_iff, Int32.lt_iff_toInt_lt, Int32.le_iff_toInt_le, ← Int32.toInt_inj, Int32.toInt_add, Int32.toInt_sub, Int32.toInt_mul, Int32.toInt_neg, pq_NuO, pq_NuI, pq_NuJ, pq_NuR, pq_shr6, pq_shr7, pq_shr8, lqm1, lq0, lq1, lq2, lq3, lq4, lq5, lq6, lq15, lq384] at *; (try simp (disch := omega) only [pq_bm] at *); all_goals omega)) dL_law_215 (fun x215 e215 => ?_)
          have exx : x202 = x215 := e202.trans e215.symm
          subst exx
          (refine pq_callV (As := [_]) F (k_X11_end l D cy _ _ (by exact rh) x202 t (by exact Th) (by omega)) ml_L_62 rh (by decide) rfl (Nat.le_of_ble_eq_true rfl) ⟨Nat.le_of_ble_eq_true rfl, Nat.le_of_ble_eq_true rfl⟩ ⟨(by show cc + 1 + 0 ≤ 600002; omega), (by show zz + 6 + 0 ≤ 7302232; omega)⟩ dL_law_216 (fun v216 S216 w216 => ?_))
          rcases w216 with ⟨g1, g2, rfl, rfl⟩ | ⟨g1, rfl, rfl⟩
          · skip
            have hFq := ((pq_Fr.rf (M := [(14, 1), (14, 3)]) (S := S204)).uO (k := 3) (v := .int 0) rh (by decide)).uO (k := 1) (v := .int x202) (show pq_R _ rr 14 from rh) (by decide)
            have xq := hFq.R xh (by decide)
            have rq := hFq.R rh (by decide)
            have oq := hFq.R oh (by decide)
            have olq := (hFq.1 ou 186 oh (by decide)).2.trans olh
            obtain ⟨e9, h9, hy9, hI9⟩ := ph.resolve_right (fun z => absurd (And.intro g1 g2) z.2.1)
            subst e9
            have h3 : hO (pq_uO (pq_uO S204 rr 3 (.int 0)) rr 1 (.int x202)) rr 3 = .int 0 := pq_kp pq_ks (by decide)
            refine pq_istore F dL_law_219 (by decide) ?_
            refine pq_aload_n F dL_law_221 rfl rfl ?_
            (refine pq_callV (As := []) F (k_X11_thrown l D cy _ _ (by exact rq)) ml_L_55 rq (by decide) rfl (Nat.le_of_ble_eq_true rfl) ⟨Nat.le_of_ble_eq_true rfl, Nat.le_of_ble_eq_true rfl⟩ ⟨(by show cc + 1 ≤ 600002; omega), (by show zz + 6 ≤ 7302232; omega)⟩ dL_law_222 (fun v222 S222 w222 => ?_); obtain ⟨rfl, rfl⟩ := w222; rw [h3])
            refine pq_iload F dL_law_225 rfl ?_
            refine pq_icmp_eq (tgt := 232) F dL_law_227 (by decide) (fun c227 => ?_) (fun c227 => ?_)
            · skip
              refine pq_iload F dL_law_232 rfl ?_
              refine pq_if_ne (tgt := 249) F dL_law_234 (by decide) (fun c234 => ?_) (fun c234 => ?_)
              · exact absurd rfl c234
              · skip
                refine pq_aload_n F dL_law_237 rfl rfl ?_
                refine pq_iconst (v := 0) F dL_law_238 (by decide) ?_
                refine pq_lald F oq (by decide) (by decide) rfl (fun n1_239 n2_239 => (by focus ((try clear hX); (try clear hf); (try clear hY1); (try clear hZ1); (try clear hI0); (try clear hI1); (try clear Zh); (try clear ih); (try clear ph); (try clear pq9); (try clear hEx); (try clear w160); (try clear w216); simp only [vp_in_iff, Int32.lt_iff_toInt_lt, Int32.le_iff_toInt_le, ← Int32.toInt_inj, Int32.toInt_add, Int32.toInt_sub, Int32.toInt_mul, Int32.toInt_neg, pq_NuO, pq_NuI, pq_NuJ, pq_NuR, pq_shr6, pq_shr7, pq_shr8, lqm1, lq0, lq1, lq2, lq3, lq4, lq5, lq6, lq15, lq384] at *; (try simp (disch := omega) only [pq_bm] at *); all_goals omega))) dL_law_239 (fun x239 e239 => ?_)
                refine pq_iload F dL_law_240 rfl ?_
                refine pq_i2l F dL_law_242 ?_
                refine pq_lcmp F dL_law_243 ?_
                refine pq_if_eq (tgt := 249) F dL_law_244 (by decide) (fun c244 => ?_) (fun c244 => ?_)
                · skip
                  refine pq_goto (tgt := 626) F dL_law_249 (by decide) ?_
                  refine pq_iinc (v := 6) F dL_law_626 rfl (by decide) (by decide) ?_
                  refine pq_goto (tgt := 23) F dL_law_629 (by decide) ?_
                  exact pq_fgm [true, true, true, true, true, false, false, false] (ih _ _ xx rr ou (cc + 1) (zz + 6) ((hF.cm hFh (by decide)).cm hFq (by decide)) xq rq oq (fun z => absurd z (by focus ((try clear hX); (try clear hf); (try clear hY1); (try clear hZ1); (try clear hI0); (try clear hI1); (try clear Zh); (try clear ih); (try clear ph); (try clear pq9); (try clear hEx); (try clear w160); (try clear w216); simp only [vp_in_iff, Int32.lt_iff_toInt_lt, Int32.le_iff_toInt_le, ← Int32.toInt_inj, Int32.toInt_add, Int32.toInt_sub, Int32.toInt_mul, Int32.toInt_neg, pq_NuO, pq_NuI, pq_NuJ, pq_NuR, pq_shr6, pq_shr7, pq_shr8, lqm1, lq0, lq1, lq2, lq3, lq4, lq5, lq6, lq15, lq384] at *; (try simp (disch := omega) only [pq_bm] at *); all_goals omega))) (Or.inr (by focus ((try clear hX); (try clear hf); (try clear hY1); (try clear hZ1); (try clear hI0); (try clear hI1); (try clear Zh); (try clear ih); (try clear ph); (try clear pq9); (try clear hEx); (try clear w160); (try clear w216); simp only [vp_in_iff, Int32.lt_iff_toInt_lt, Int32.le_iff_toInt_le, ← Int32.toInt_inj, Int32.toInt_add, Int32.toInt_sub, Int32.toInt_mul, Int32.toInt_neg, pq_NuO, pq_NuI, pq_NuJ, pq_NuR, pq_shr6, pq_shr7, pq_shr8, lqm1, lq0, lq1, lq2, lq3, lq4, lq5, lq6, lq15, lq384] at *; (try simp (disch := omega) only [pq_bm] at *); all_goals omega))) (by omega) (by omega) (by focus ((try clear hX); (try clear hf); (try clear hY1); (try clear hZ1); (try clear hI0); (try clear hI1); (try clear Zh); (try clear ih); (try clear ph); (try clear pq9); (try clear hEx); (try clear w160); (try clear w216); simp only [vp_in_iff, Int32.lt_iff_toInt_lt, Int32.le_iff_toInt_le, ← Int32.toInt_inj, Int32.toInt_add, Int32.toInt_sub, Int32.toInt_mul, Int32.toInt_neg, pq_NuO, pq_NuI, pq_NuJ, pq_NuR, pq_shr6, pq_shr7, pq_shr8, lqm1, lq0, lq1, lq2, lq3, lq4, lq5, lq6, lq15, lq384] at *; (try simp (disch := omega) only [pq_bm] at *); all_goals omega)))
                · exact absurd (by rw [show x239 = x202.toInt64 from e239.trans ((congrFun (hFq.2.2 ou 186 oh (by decide) (by decide)).2.1 _).trans (hy9))]; exact pq_lgc _) c244
            · exact absurd rfl c227
          · skip
            have hFq := ((pq_Fr.rf (M := [(14, 3)]) (S := S204)).uO (k := 3) (v := .int 0) rh (by decide)).uO (k := 3) (v := .int 1) (show pq_R _ rr 14 from rh) (by decide)
            have xq := hFq.R xh (by decide)
            have rq := hFq.R rh (by decide)
            have oq := hFq.R oh (by decide)
            have olq := (hFq.1 ou 186 oh (by decide)).2.trans olh
            obtain ⟨e9, h9, hI9⟩ := ph.resolve_left (fun z => absurd z.2.1 g1)
            subst e9
            have h3 : hO (pq_uO (pq_uO S204 rr 3 (.int 0)) rr 3 (.int 1)) rr 3 = .int 1 := pq_ks
            refine pq_istore F dL_law_219 (by decide) ?_
            refine pq_aload_n F dL_law_221 rfl rfl ?_
            (refine pq_callV (As := []) F (k_X11_thrown l D cy _ _ (by exact rq)) ml_L_55 rq (by decide) rfl (Nat.le_of_ble_eq_true rfl) ⟨Nat.le_of_ble_eq_true rfl, Nat.le_of_ble_eq_true rfl⟩ ⟨(by show cc + 1 ≤ 600002; omega), (by show zz + 6 ≤ 7302232; omega)⟩ dL_law_222 (fun v222 S222 w222 => ?_); obtain ⟨rfl, rfl⟩ := w222; rw [h3])
            refine pq_iload F dL_law_225 rfl ?_
            refine pq_icmp_eq (tgt := 232) F dL_law_227 (by decide) (fun c227 => ?_) (fun c227 => ?_)
            · skip
              refine pq_iload F dL_law_232 rfl ?_
              refine pq_if_ne (tgt := 249) F dL_law_234 (by decide) (fun c234 => ?_) (fun c234 => ?_)
              · skip
                refine pq_goto (tgt := 626) F dL_law_249 (by decide) ?_
                refine pq_iinc (v := 6) F dL_law_626 rfl (by decide) (by decide) ?_
                refine pq_goto (tgt := 23) F dL_law_629 (by decide) ?_
                exact pq_fgm [true, true, true, true, true, false, false, false] (ih _ _ xx rr ou (cc + 1) (zz + 6) ((hF.cm hFh (by decide)).cm hFq (by decide)) xq rq oq (fun z => absurd z (by focus ((try clear hX); (try clear hf); (try clear hY1); (try clear hZ1); (try clear hI0); (try clear hI1); (try clear Zh); (try clear ih); (try clear ph); (try clear pq9); (try clear hEx); (try clear w160); (try clear w216); simp only [vp_in_iff, Int32.lt_iff_toInt_lt, Int32.le_iff_toInt_le, ← Int32.toInt_inj, Int32.toInt_add, Int32.toInt_sub, Int32.toInt_mul, Int32.toInt_neg, pq_NuO, pq_NuI, pq_NuJ, pq_NuR, pq_shr6, pq_shr7, pq_shr8, lqm1, lq0, lq1, lq2, lq3, lq4, lq5, lq6, lq15, lq384] at *; (try simp (disch := omega) only [pq_bm] at *); all_goals omega))) (Or.inr (by focus ((try clear hX); (try clear hf); (try clear hY1); (try clear hZ1); (try clear hI0); (try clear hI1); (try clear Zh); (try clear ih); (try clear ph); (try clear pq9); (try clear hEx); (try clear w160); (try clear w216); simp only [vp_in_iff, Int32.lt_iff_toInt_lt, Int32.le_iff_toInt_le, ← Int32.toInt_inj, Int32.toInt_add, Int32.toInt_sub, Int32.toInt_mul, Int32.toInt_neg, pq_NuO, pq_NuI, pq_NuJ, pq_NuR, pq_shr6, pq_shr7, pq_shr8, lqm1, lq0, lq1, lq2, lq3, lq4, lq5, lq6, lq15, lq384] at *; (try simp (disch := omega) only [pq_bm] at *); all_goals omega))) (by omega) (by omega) (by focus ((try clear hX); (try clear hf); (try clear hY1); (try clear hZ1); (try clear hI0); (try clear hI1); (try clear Zh); (try clear ih); (try clear ph); (try clear pq9); (try clear hEx); (try clear w160); (try clear w216); simp only [vp_in_iff, Int32.lt_iff_toInt_lt, Int32.le_iff_toInt_le, ← Int32.toInt_inj, Int32.toInt_add, Int32.toInt_sub, Int32.toInt_mul, Int32.toInt_neg, pq_NuO, pq_NuI, pq_NuJ, pq_NuR, pq_shr6, pq_shr7, pq_shr8, lqm1, lq0, lq1, lq2, lq3, lq4, lq5, lq6, lq15, lq384] at *; (try simp (disch := omega) only [pq_bm] at *); all_goals omega)))
              · exact absurd c234 (by decide)
            · exact absurd rfl c227
        by_cases c40_2 : sw.toInt = 2
        · refine pq_tabIn (tgt := 252) F dL_law_40 (by omega) (by omega) (by rw [c40_2]; rfl) (by decide) ?_
          refine pq_aload_n F dL_law_252 rfl rfl ?_
          refine pq_aload_n F dL_law_253 rfl rfl ?_
          refine pq_iload F dL_law_254 rfl ?_
          refine pq_iconst (v := 1) F dL_law_256 (by decide) ?_
          refine pq_iadd F dL_law_257 ?_
          refine pq_sld F hX hbl hbA (by focus ((try clear hX); (try clear hf); (try clear hY1); (try clear hZ1); (try clear hI0); (try clear hI1); (try clear Zh); (try clear ih); (try clear ph); (try clear pq9); (try clear hEx); (try clear w160); (try clear w216); simp only [vp_in_iff, Int32.lt_iff_toInt_lt, Int32.le_iff_toInt_le, ← Int32.toInt_inj, Int32.toInt_add, Int32.toInt_sub, Int32.toInt_mul, Int32.toInt_neg, pq_NuO, pq_NuI, pq_NuJ, pq_NuR, pq_shr6, pq_shr7, pq_shr8, lqm1, lq0, lq1, lq2, lq3, lq4, lq5, lq6, lq15, lq384] at *; (try simp (disch := omega) only [pq_bm] at *); all_goals omega)) dL_law_258 (fun x258 e258 => ?_)
          refine pq_aload_n F dL_law_259 rfl rfl ?_
          (refine pq_callSH (As := [_, _, _]) F (k_L_setY l D cy hl0 _ _ (by exact hx1) _ _ (by exact ho1) (by exact hY1) (by exact hol1)) (pq_gt2 (i := 237) rfl rfl) (pq_gt1 (i := 0) rfl rfl) (pq_gt2 (i := 236) rfl rfl) (pq_gt2 (i := 235) rfl rfl) ⟨by decide, by decide, (show Option.map (fun d => d.parameters.length) (parseMethodDescriptor yL_set.desc) = some 3 from by decide +kernel)⟩ (fun U9 h9 => ⟨hEx.1.warm h9, hEx.2.1.moved h9.alike, hEx.2.2.1.moved h9.alike, hEx.2.2.2.moved h9.alike⟩) (fun a9 U9 g9 mk9 q9 => ⟨pq_Dn.same (u := U9) rfl q9.1, q9.2⟩) (Nat.le_of_ble_eq_true rfl) ⟨Nat.le_of_ble_eq_true rfl, Nat.le_of_ble_eq_true rfl⟩ ⟨(by show cc + 9 ≤ 600002; omega), (by show zz + 1246 ≤ 7302232; omega)⟩ dL_law_260 (fun v260 S260 w260 => ?_); obtain ⟨hFh, yh, rfl, yh0, yh1, ph⟩ := w260; have xh := hFh.R hx1 (by decide); have rh := hFh.R hr1 (by decide); have oh := hFh.R ho1 (by decide); have olh : hN S260 ou = 1 := (hFh.1 ou 186 ho1 (by decide)).2.trans hol1; have Zh := hZ1.fr hr1 hFh (by decide); have Th := hFh.O hr1 (by decide) (by decide) ht1)
          refine pq_istore F dL_law_263 (by decide) ?_
          refine pq_aload_n F dL_law_265 rfl rfl ?_
          refine pq_aload_n F dL_law_266 rfl rfl ?_
          refine pq_iload F dL_law_267 rfl ?_
          refine pq_iconst (v := 1) F dL_law_269 (by decide) ?_
          refine pq_iadd F dL_law_270 ?_
          refine pq_sld F hX hbl hbA (by focus ((try clear hX); (try clear hf); (try clear hY1); (try clear hZ1); (try clear hI0); (try clear hI1); (try clear Zh); (try clear ih); (try clear ph); (try clear pq9); (try clear hEx); (try clear w160); (try clear w216); simp only [vp_in_iff, Int32.lt_iff_toInt_lt, Int32.le_iff_toInt_le, ← Int32.toInt_inj, Int32.toInt_add, Int32.toInt_sub, Int32.toInt_mul, Int32.toInt_neg, pq_NuO, pq_NuI, pq_NuJ, pq_NuR, pq_shr6, pq_shr7, pq_shr8, lqm1, lq0, lq1, lq2, lq3, lq4, lq5, lq6, lq15, lq384] at *; (try simp (disch := omega) only [pq_bm] at *); all_goals omega)) dL_law_271 (fun x271 e271 => ?_)
          have exx : x271 = x258 := e271.trans e258.symm
          subst exx
          (refine pq_callV (As := [_]) F (k_X11_setF l D cy _ _ (by exact rh) _ en le si st ao aa xz (by exact Zh)) ml_L_65 rh (by decide) rfl (Nat.le_of_ble_eq_true rfl) ⟨Nat.le_of_ble_eq_true rfl, Nat.le_of_ble_eq_true rfl⟩ ⟨(by show cc + 9 + 0 ≤ 600002; omega), (by show zz + 1246 + 0 ≤ 7302232; omega)⟩ dL_law_272 (fun v272 S272 w272 => ?_); obtain ⟨hFq, y9, rfl, pq9⟩ := w272; have xq := hFq.R xh (by decide); have rq := hFq.R rh (by decide); have oq := hFq.R oh (by decide); have olq := (hFq.1 ou 186 oh (by decide)).2.trans olh)
          rcases pf_key ph (pf_key2 pq9) with ⟨rfl, ⟨hv, hy⟩, h3⟩ | ⟨rfl, h3⟩
          · skip
            refine pq_istore F dL_law_275 (by decide) ?_
            refine pq_aload_n F dL_law_277 rfl rfl ?_
            (refine pq_callV (As := []) F (k_X11_thrown l D cy _ _ (by exact rq)) ml_L_55 rq (by decide) rfl (Nat.le_of_ble_eq_true rfl) ⟨Nat.le_of_ble_eq_true rfl, Nat.le_of_ble_eq_true rfl⟩ ⟨(by show cc + 9 ≤ 600002; omega), (by show zz + 1246 ≤ 7302232; omega)⟩ dL_law_278 (fun v278 S278 w278 => ?_); obtain ⟨rfl, rfl⟩ := w278; rw [h3])
            refine pq_iload F dL_law_281 rfl ?_
            refine pq_icmp_eq (tgt := 288) F dL_law_283 (by decide) (fun c283 => ?_) (fun c283 => ?_)
            · skip
              refine pq_iload F dL_law_288 rfl ?_
              refine pq_if_ne (tgt := 305) F dL_law_290 (by decide) (fun c290 => ?_) (fun c290 => ?_)
              · exact absurd rfl c290
              · skip
                refine pq_aload_n F dL_law_293 rfl rfl ?_
                refine pq_iconst (v := 0) F dL_law_294 (by decide) ?_
                refine pq_lald F oq (by decide) (by decide) rfl (fun n1_295 n2_295 => (by focus ((try clear hX); (try clear hf); (try clear hY1); (try clear hZ1); (try clear hI0); (try clear hI1); (try clear Zh); (try clear ih); (try clear ph); (try clear pq9); (try clear hEx); (try clear w160); (try clear w216); simp only [vp_in_iff, Int32.lt_iff_toInt_lt, Int32.le_iff_toInt_le, ← Int32.toInt_inj, Int32.toInt_add, Int32.toInt_sub, Int32.toInt_mul, Int32.toInt_neg, pq_NuO, pq_NuI, pq_NuJ, pq_NuR, pq_shr6, pq_shr7, pq_shr8, lqm1, lq0, lq1, lq2, lq3, lq4, lq5, lq6, lq15, lq384] at *; (try simp (disch := omega) only [pq_bm] at *); all_goals omega))) dL_law_295 (fun x295 e295 => ?_)
                refine pq_iload F dL_law_296 rfl ?_
                refine pq_i2l F dL_law_298 ?_
                refine pq_lcmp F dL_law_299 ?_
                refine pq_if_eq (tgt := 305) F dL_law_300 (by decide) (fun c300 => ?_) (fun c300 => ?_)
                · skip
                  refine pq_goto (tgt := 626) F dL_law_305 (by decide) ?_
                  refine pq_iinc (v := 6) F dL_law_626 rfl (by decide) (by decide) ?_
                  refine pq_goto (tgt := 23) F dL_law_629 (by decide) ?_
                  exact pq_fgm [true, true, true, true, true, false, false, false] (ih _ _ xx rr ou (cc + 9) (zz + 1246) ((hF.cm hFh (by decide)).cm hFq (by decide)) xq rq oq (fun z => absurd z (by focus ((try clear hX); (try clear hf); (try clear hY1); (try clear hZ1); (try clear hI0); (try clear hI1); (try clear Zh); (try clear ih); (try clear ph); (try clear pq9); (try clear hEx); (try clear w160); (try clear w216); simp only [vp_in_iff, Int32.lt_iff_toInt_lt, Int32.le_iff_toInt_le, ← Int32.toInt_inj, Int32.toInt_add, Int32.toInt_sub, Int32.toInt_mul, Int32.toInt_neg, pq_NuO, pq_NuI, pq_NuJ, pq_NuR, pq_shr6, pq_shr7, pq_shr8, lqm1, lq0, lq1, lq2, lq3, lq4, lq5, lq6, lq15, lq384] at *; (try simp (disch := omega) only [pq_bm] at *); all_goals omega))) (Or.inr (by focus ((try clear hX); (try clear hf); (try clear hY1); (try clear hZ1); (try clear hI0); (try clear hI1); (try clear Zh); (try clear ih); (try clear ph); (try clear pq9); (try clear hEx); (try clear w160); (try clear w216); simp only [vp_in_iff, Int32.lt_iff_toInt_lt, Int32.le_iff_toInt_le, ← Int32.toInt_inj, Int32.toInt_add, Int32.toInt_sub, Int32.toInt_mul, Int32.toInt_neg, pq_NuO, pq_NuI, pq_NuJ, pq_NuR, pq_shr6, pq_shr7, pq_shr8, lqm1, lq0, lq1, lq2, lq3, lq4, lq5, lq6, lq15, lq384] at *; (try simp (disch := omega) only [pq_bm] at *); all_goals omega))) (by omega) (by omega) (by focus ((try clear hX); (try clear hf); (try clear hY1); (try clear hZ1); (try clear hI0); (try clear hI1); (try clear Zh); (try clear ih); (try clear ph); (try clear pq9); (try clear hEx); (try clear w160); (try clear w216); simp only [vp_in_iff, Int32.lt_iff_toInt_lt, Int32.le_iff_toInt_le, ← Int32.toInt_inj, Int32.toInt_add, Int32.toInt_sub, Int32.toInt_mul, Int32.toInt_neg, pq_NuO, pq_NuI, pq_NuJ, pq_NuR, pq_shr6, pq_shr7, pq_shr8, lqm1, lq0, lq1, lq2, lq3, lq4, lq5, lq6, lq15, lq384] at *; (try simp (disch := omega) only [pq_bm] at *); all_goals omega)))
                · exact absurd (by rw [show x295 = y9.toInt64 from e295.trans ((congrFun (hFq.2.2 ou 186 oh (by decide) (by decide)).2.1 _).trans (hv.trans (by rw [hy])))]; exact pq_lgc _) c300
            · exact absurd rfl c283
          · skip
            refine pq_istore F dL_law_275 (by decide) ?_
            refine pq_aload_n F dL_law_277 rfl rfl ?_
            (refine pq_callV (As := []) F (k_X11_thrown l D cy _ _ (by exact rq)) ml_L_55 rq (by decide) rfl (Nat.le_of_ble_eq_true rfl) ⟨Nat.le_of_ble_eq_true rfl, Nat.le_of_ble_eq_true rfl⟩ ⟨(by show cc + 9 ≤ 600002; omega), (by show zz + 1246 ≤ 7302232; omega)⟩ dL_law_278 (fun v278 S278 w278 => ?_); obtain ⟨rfl, rfl⟩ := w278; rw [h3])
            refine pq_iload F dL_law_281 rfl ?_
            refine pq_icmp_eq (tgt := 288) F dL_law_283 (by decide) (fun c283 => ?_) (fun c283 => ?_)
            · skip
              refine pq_iload F dL_law_288 rfl ?_
              refine pq_if_ne (tgt := 305) F dL_law_290 (by decide) (fun c290 => ?_) (fun c290 => ?_)
              · skip
                refine pq_goto (tgt := 626) F dL_law_305 (by decide) ?_
                refine pq_iinc (v := 6) F dL_law_626 rfl (by decide) (by decide) ?_
                refine pq_goto (tgt := 23) F dL_law_629 (by decide) ?_
                exact pq_fgm [true, true, true, true, true, false, false, false] (ih _ _ xx rr ou (cc + 9) (zz + 1246) ((hF.cm hFh (by decide)).cm hFq (by decide)) xq rq oq (fun z => absurd z (by focus ((try clear hX); (try clear hf); (try clear hY1); (try clear hZ1); (try clear hI0); (try clear hI1); (try clear Zh); (try clear ih); (try clear ph); (try clear pq9); (try clear hEx); (try clear w160); (try clear w216); simp only [vp_in_iff, Int32.lt_iff_toInt_lt, Int32.le_iff_toInt_le, ← Int32.toInt_inj, Int32.toInt_add, Int32.toInt_sub, Int32.toInt_mul, Int32.toInt_neg, pq_NuO, pq_NuI, pq_NuJ, pq_NuR, pq_shr6, pq_shr7, pq_shr8, lqm1, lq0, lq1, lq2, lq3, lq4, lq5, lq6, lq15, lq384] at *; (try simp (disch := omega) only [pq_bm] at *); all_goals omega))) (Or.inr (by focus ((try clear hX); (try clear hf); (try clear hY1); (try clear hZ1); (try clear hI0); (try clear hI1); (try clear Zh); (try clear ih); (try clear ph); (try clear pq9); (try clear hEx); (try clear w160); (try clear w216); simp only [vp_in_iff, Int32.lt_iff_toInt_lt, Int32.le_iff_toInt_le, ← Int32.toInt_inj, Int32.toInt_add, Int32.toInt_sub, Int32.toInt_mul, Int32.toInt_neg, pq_NuO, pq_NuI, pq_NuJ, pq_NuR, pq_shr6, pq_shr7, pq_shr8, lqm1, lq0, lq1, lq2, lq3, lq4, lq5, lq6, lq15, lq384] at *; (try simp (disch := omega) only [pq_bm] at *); all_goals omega))) (by omega) (by omega) (by focus ((try clear hX); (try clear hf); (try clear hY1); (try clear hZ1); (try clear hI0); (try clear hI1); (try clear Zh); (try clear ih); (try clear ph); (try clear pq9); (try clear hEx); (try clear w160); (try clear w216); simp only [vp_in_iff, Int32.lt_iff_toInt_lt, Int32.le_iff_toInt_le, ← Int32.toInt_inj, Int32.toInt_add, Int32.toInt_sub, Int32.toInt_mul, Int32.toInt_neg, pq_NuO, pq_NuI, pq_NuJ, pq_NuR, pq_shr6, pq_shr7, pq_shr8, lqm1, lq0, lq1, lq2, lq3, lq4, lq5, lq6, lq15, lq384] at *; (try simp (disch := omega) only [pq_bm] at *); all_goals omega)))
              · exact absurd c290 (by decide)
            · exact absurd rfl c283
        by_cases c40_3 : sw.toInt = 3
        · refine pq_tabIn (tgt := 308) F dL_law_40 (by omega) (by omega) (by rw [c40_3]; rfl) (by decide) ?_
          refine pq_aload_n F dL_law_308 rfl rfl ?_
          refine pq_aload_n F dL_law_309 rfl rfl ?_
          refine pq_iload F dL_law_310 rfl ?_
          refine pq_iconst (v := 1) F dL_law_312 (by decide) ?_
          refine pq_iadd F dL_law_313 ?_
          refine pq_sld F hX hbl hbA (by focus ((try clear hX); (try clear hf); (try clear hY1); (try clear hZ1); (try clear hI0); (try clear hI1); (try clear Zh); (try clear ih); (try clear ph); (try clear pq9); (try clear hEx); (try clear w160); (try clear w216); simp only [vp_in_iff, Int32.lt_iff_toInt_lt, Int32.le_iff_toInt_le, ← Int32.toInt_inj, Int32.toInt_add, Int32.toInt_sub, Int32.toInt_mul, Int32.toInt_neg, pq_NuO, pq_NuI, pq_NuJ, pq_NuR, pq_shr6, pq_shr7, pq_shr8, lqm1, lq0, lq1, lq2, lq3, lq4, lq5, lq6, lq15, lq384] at *; (try simp (disch := omega) only [pq_bm] at *); all_goals omega)) dL_law_314 (fun x314 e314 => ?_)
          refine pq_aload_n F dL_law_315 rfl rfl ?_
          (refine pq_callSH (As := [_, _, _]) F (k_L_emptyY l D cy hl0 _ _ (by exact hx1) _ _ (by exact ho1) (by exact hY1) (by exact hol1)) (pq_gt5 (i := 106) rfl rfl) (pq_gt1 (i := 0) rfl rfl) (pq_gt5 (i := 105) rfl rfl) (pq_gt5 (i := 104) rfl rfl) ⟨by decide, by decide, (show Option.map (fun d => d.parameters.length) (parseMethodDescriptor yL_empty.desc) = some 3 from by decide +kernel)⟩ (fun U9 h9 => hEx.1.warm h9) (fun a9 U9 g9 mk9 q9 => pq_Dn.same (u := U9) rfl q9) (Nat.le_of_ble_eq_true rfl) ⟨Nat.le_of_ble_eq_true rfl, Nat.le_of_ble_eq_true rfl⟩ ⟨(by show cc + 1 ≤ 600002; omega), (by show zz + 6 ≤ 7302232; omega)⟩ dL_law_316 (fun v316 S316 w316 => ?_); obtain ⟨hFh, yh, rfl, yh0, yh1, ph⟩ := w316; have xh := hFh.R hx1 (by decide); have rh := hFh.R hr1 (by decide); have oh := hFh.R ho1 (by decide); have olh : hN S316 ou = 1 := (hFh.1 ou 186 ho1 (by decide)).2.trans hol1; have Zh := hZ1.fr hr1 hFh (by decide); have Th := hFh.O hr1 (by decide) (by decide) ht1)
          refine pq_istore F dL_law_319 (by decide) ?_
          refine pq_aload_n F dL_law_321 rfl rfl ?_
          refine pq_aload_n F dL_law_322 rfl rfl ?_
          refine pq_iload F dL_law_323 rfl ?_
          refine pq_iconst (v := 1) F dL_law_325 (by decide) ?_
          refine pq_iadd F dL_law_326 ?_
          refine pq_sld F hX hbl hbA (by focus ((try clear hX); (try clear hf); (try clear hY1); (try clear hZ1); (try clear hI0); (try clear hI1); (try clear Zh); (try clear ih); (try clear ph); (try clear pq9); (try clear hEx); (try clear w160); (try clear w216); simp only [vp_in_iff, Int32.lt_iff_toInt_lt, Int32.le_iff_toInt_le, ← Int32.toInt_inj, Int32.toInt_add, Int32.toInt_sub, Int32.toInt_mul, Int32.toInt_neg, pq_NuO, pq_NuI, pq_NuJ, pq_NuR, pq_shr6, pq_shr7, pq_shr8, lqm1, lq0, lq1, lq2, lq3, lq4, lq5, lq6, lq15, lq384] at *; (try simp (disch := omega) only [pq_bm] at *); all_goals omega)) dL_law_327 (fun x327 e327 => ?_)
          have exx : x327 = x314 := e327.trans e314.symm
          subst exx
          (refine pq_callV (As := [_]) F (k_X11_emptyF l D cy _ _ (by exact rh) _ en (by exact Zh.1.1.1) (by exact Zh.1.1.2) (by exact Zh.2.2.2.1.1.1) (by exact Zh.2.2.2.1.2.1)) ml_L_68 rh (by decide) rfl (Nat.le_of_ble_eq_true rfl) ⟨Nat.le_of_ble_eq_true rfl, Nat.le_of_ble_eq_true rfl⟩ ⟨(by show cc + 1 + 0 ≤ 600002; omega), (by show zz + 6 + 0 ≤ 7302232; omega)⟩ dL_law_328 (fun v328 S328 w328 => ?_); obtain ⟨hFq, y9, rfl, y9a, y9b, pq9⟩ := w328; have xq := hFq.R xh (by decide); have rq := hFq.R rh (by decide); have oq := hFq.R oh (by decide); have olq := (hFq.1 ou 186 oh (by decide)).2.trans olh)
          rcases pf_key ph (pf_key2 pq9) with ⟨rfl, ⟨hv, hy⟩, h3⟩ | ⟨rfl, h3⟩
          · skip
            refine pq_istore F dL_law_331 (by decide) ?_
            refine pq_aload_n F dL_law_333 rfl rfl ?_
            (refine pq_callV (As := []) F (k_X11_thrown l D cy _ _ (by exact rq)) ml_L_55 rq (by decide) rfl (Nat.le_of_ble_eq_true rfl) ⟨Nat.le_of_ble_eq_true rfl, Nat.le_of_ble_eq_true rfl⟩ ⟨(by show cc + 1 ≤ 600002; omega), (by show zz + 6 ≤ 7302232; omega)⟩ dL_law_334 (fun v334 S334 w334 => ?_); obtain ⟨rfl, rfl⟩ := w334; rw [h3])
            refine pq_iload F dL_law_337 rfl ?_
            refine pq_icmp_eq (tgt := 344) F dL_law_339 (by decide) (fun c339 => ?_) (fun c339 => ?_)
            · skip
              refine pq_iload F dL_law_344 rfl ?_
              refine pq_if_ne (tgt := 368) F dL_law_346 (by decide) (fun c346 => ?_) (fun c346 => ?_)
              · exact absurd rfl c346
              · skip
                refine pq_aload_n F dL_law_349 rfl rfl ?_
                refine pq_iconst (v := 0) F dL_law_350 (by decide) ?_
                refine pq_lald F oq (by decide) (by decide) rfl (fun n1_351 n2_351 => (by focus ((try clear hX); (try clear hf); (try clear hY1); (try clear hZ1); (try clear hI0); (try clear hI1); (try clear Zh); (try clear ih); (try clear ph); (try clear pq9); (try clear hEx); (try clear w160); (try clear w216); simp only [vp_in_iff, Int32.lt_iff_toInt_lt, Int32.le_iff_toInt_le, ← Int32.toInt_inj, Int32.toInt_add, Int32.toInt_sub, Int32.toInt_mul, Int32.toInt_neg, pq_NuO, pq_NuI, pq_NuJ, pq_NuR, pq_shr6, pq_shr7, pq_shr8, lqm1, lq0, lq1, lq2, lq3, lq4, lq5, lq6, lq15, lq384] at *; (try simp (disch := omega) only [pq_bm] at *); all_goals omega))) dL_law_351 (fun x351 e351 => ?_)
                refine pq_iload F dL_law_352 rfl ?_
                refine pq_if_eq (tgt := 361) F dL_law_354 (by decide) (fun c354 => ?_) (fun c354 => ?_)
                · exact absurd (c354.symm.trans hy) (by decide)
                · skip
                  refine pq_lconst (v := 1) F dL_law_357 (by decide) ?_
                  refine pq_goto (tgt := 362) F dL_law_358 (by decide) ?_
                  refine pq_lcmp F dL_law_362 ?_
                  refine pq_if_eq (tgt := 368) F dL_law_363 (by decide) (fun c363 => ?_) (fun c363 => ?_)
                  · skip
                    refine pq_goto (tgt := 626) F dL_law_368 (by decide) ?_
                    refine pq_iinc (v := 6) F dL_law_626 rfl (by decide) (by decide) ?_
                    refine pq_goto (tgt := 23) F dL_law_629 (by decide) ?_
                    exact pq_fgm [true, true, true, true, true, false, false, false] (ih _ _ xx rr ou (cc + 1) (zz + 6) ((hF.cm hFh (by decide)).cm hFq (by decide)) xq rq oq (fun z => absurd z (by focus ((try clear hX); (try clear hf); (try clear hY1); (try clear hZ1); (try clear hI0); (try clear hI1); (try clear Zh); (try clear ih); (try clear ph); (try clear pq9); (try clear hEx); (try clear w160); (try clear w216); simp only [vp_in_iff, Int32.lt_iff_toInt_lt, Int32.le_iff_toInt_le, ← Int32.toInt_inj, Int32.toInt_add, Int32.toInt_sub, Int32.toInt_mul, Int32.toInt_neg, pq_NuO, pq_NuI, pq_NuJ, pq_NuR, pq_shr6, pq_shr7, pq_shr8, lqm1, lq0, lq1, lq2, lq3, lq4, lq5, lq6, lq15, lq384] at *; (try simp (disch := omega) only [pq_bm] at *); all_goals omega))) (Or.inr (by focus ((try clear hX); (try clear hf); (try clear hY1); (try clear hZ1); (try clear hI0); (try clear hI1); (try clear Zh); (try clear ih); (try clear ph); (try clear pq9); (try clear hEx); (try clear w160); (try clear w216); simp only [vp_in_iff, Int32.lt_iff_toInt_lt, Int32.le_iff_toInt_le, ← Int32.toInt_inj, Int32.toInt_add, Int32.toInt_sub, Int32.toInt_mul, Int32.toInt_neg, pq_NuO, pq_NuI, pq_NuJ, pq_NuR, pq_shr6, pq_shr7, pq_shr8, lqm1, lq0, lq1, lq2, lq3, lq4, lq5, lq6, lq15, lq384] at *; (try simp (disch := omega) only [pq_bm] at *); all_goals omega))) (by omega) (by omega) (by focus ((try clear hX); (try clear hf); (try clear hY1); (try clear hZ1); (try clear hI0); (try clear hI1); (try clear Zh); (try clear ih); (try clear ph); (try clear pq9); (try clear hEx); (try clear w160); (try clear w216); simp only [vp_in_iff, Int32.lt_iff_toInt_lt, Int32.le_iff_toInt_le, ← Int32.toInt_inj, Int32.toInt_add, Int32.toInt_sub, Int32.toInt_mul, Int32.toInt_neg, pq_NuO, pq_NuI, pq_NuJ, pq_NuR, pq_shr6, pq_shr7, pq_shr8, lqm1, lq0, lq1, lq2, lq3, lq4, lq5, lq6, lq15, lq384] at *; (try simp (disch := omega) only [pq_bm] at *); all_goals omega)))
                  · exact absurd (by rw [show x351 = 1 from e351.trans ((congrFun (hFq.2.2 ou 186 oh (by decide) (by decide)).2.1 _).trans (hv))]; exact pq_lgc _) c363
            · exact absurd rfl c339
          · skip
            refine pq_istore F dL_law_331 (by decide) ?_
            refine pq_aload_n F dL_law_333 rfl rfl ?_
            (refine pq_callV (As := []) F (k_X11_thrown l D cy _ _ (by exact rq)) ml_L_55 rq (by decide) rfl (Nat.le_of_ble_eq_true rfl) ⟨Nat.le_of_ble_eq_true rfl, Nat.le_of_ble_eq_true rfl⟩ ⟨(by show cc + 1 ≤ 600002; omega), (by show zz + 6 ≤ 7302232; omega)⟩ dL_law_334 (fun v334 S334 w334 => ?_); obtain ⟨rfl, rfl⟩ := w334; rw [h3])
            refine pq_iload F dL_law_337 rfl ?_
            refine pq_icmp_eq (tgt := 344) F dL_law_339 (by decide) (fun c339 => ?_) (fun c339 => ?_)
            · skip
              refine pq_iload F dL_law_344 rfl ?_
              refine pq_if_ne (tgt := 368) F dL_law_346 (by decide) (fun c346 => ?_) (fun c346 => ?_)
              · skip
                refine pq_goto (tgt := 626) F dL_law_368 (by decide) ?_
                refine pq_iinc (v := 6) F dL_law_626 rfl (by decide) (by decide) ?_
                refine pq_goto (tgt := 23) F dL_law_629 (by decide) ?_
                exact pq_fgm [true, true, true, true, true, false, false, false] (ih _ _ xx rr ou (cc + 1) (zz + 6) ((hF.cm hFh (by decide)).cm hFq (by decide)) xq rq oq (fun z => absurd z (by focus ((try clear hX); (try clear hf); (try clear hY1); (try clear hZ1); (try clear hI0); (try clear hI1); (try clear Zh); (try clear ih); (try clear ph); (try clear pq9); (try clear hEx); (try clear w160); (try clear w216); simp only [vp_in_iff, Int32.lt_iff_toInt_lt, Int32.le_iff_toInt_le, ← Int32.toInt_inj, Int32.toInt_add, Int32.toInt_sub, Int32.toInt_mul, Int32.toInt_neg, pq_NuO, pq_NuI, pq_NuJ, pq_NuR, pq_shr6, pq_shr7, pq_shr8, lqm1, lq0, lq1, lq2, lq3, lq4, lq5, lq6, lq15, lq384] at *; (try simp (disch := omega) only [pq_bm] at *); all_goals omega))) (Or.inr (by focus ((try clear hX); (try clear hf); (try clear hY1); (try clear hZ1); (try clear hI0); (try clear hI1); (try clear Zh); (try clear ih); (try clear ph); (try clear pq9); (try clear hEx); (try clear w160); (try clear w216); simp only [vp_in_iff, Int32.lt_iff_toInt_lt, Int32.le_iff_toInt_le, ← Int32.toInt_inj, Int32.toInt_add, Int32.toInt_sub, Int32.toInt_mul, Int32.toInt_neg, pq_NuO, pq_NuI, pq_NuJ, pq_NuR, pq_shr6, pq_shr7, pq_shr8, lqm1, lq0, lq1, lq2, lq3, lq4, lq5, lq6, lq15, lq384] at *; (try simp (disch := omega) only [pq_bm] at *); all_goals omega))) (by omega) (by omega) (by focus ((try clear hX); (try clear hf); (try clear hY1); (try clear hZ1); (try clear hI0); (try clear hI1); (try clear Zh); (try clear ih); (try clear ph); (try clear pq9); (try clear hEx); (try clear w160); (try clear w216); simp only [vp_in_iff, Int32.lt_iff_toInt_lt, Int32.le_iff_toInt_le, ← Int32.toInt_inj, Int32.toInt_add, Int32.toInt_sub, Int32.toInt_mul, Int32.toInt_neg, pq_NuO, pq_NuI, pq_NuJ, pq_NuR, pq_shr6, pq_shr7, pq_shr8, lqm1, lq0, lq1, lq2, lq3, lq4, lq5, lq6, lq15, lq384] at *; (try simp (disch := omega) only [pq_bm] at *); all_goals omega)))
              · exact absurd c346 (by decide)
            · exact absurd rfl c339
        by_cases c40_4 : sw.toInt = 4
        · refine pq_tabIn (tgt := 371) F dL_law_40 (by omega) (by omega) (by rw [c40_4]; rfl) (by decide) ?_
          refine pq_aload_n F dL_law_371 rfl rfl ?_
          refine pq_aload_n F dL_law_372 rfl rfl ?_
          refine pq_iload F dL_law_373 rfl ?_
          refine pq_iconst (v := 1) F dL_law_375 (by decide) ?_
          refine pq_iadd F dL_law_376 ?_
          refine pq_sld F hX hbl hbA (by focus ((try clear hX); (try clear hf); (try clear hY1); (try clear hZ1); (try clear hI0); (try clear hI1); (try clear Zh); (try clear ih); (try clear ph); (try clear pq9); (try clear hEx); (try clear w160); (try clear w216); simp only [vp_in_iff, Int32.lt_iff_toInt_lt, Int32.le_iff_toInt_le, ← Int32.toInt_inj, Int32.toInt_add, Int32.toInt_sub, Int32.toInt_mul, Int32.toInt_neg, pq_NuO, pq_NuI, pq_NuJ, pq_NuR, pq_shr6, pq_shr7, pq_shr8, lqm1, lq0, lq1, lq2, lq3, lq4, lq5, lq6, lq15, lq384] at *; (try simp (disch := omega) only [pq_bm] at *); all_goals omega)) dL_law_377 (fun x377 e377 => ?_)
          refine pq_aload_n F dL_law_378 rfl rfl ?_
          (refine pq_callSH (As := [_, _, _]) F (k_L_fitsY l D cy hl0 _ _ (by exact hx1) _ _ (by exact ho1) (by exact hY1) (by exact hol1)) (pq_gt5 (i := 113) rfl rfl) (pq_gt1 (i := 0) rfl rfl) (pq_gt5 (i := 112) rfl rfl) (pq_gt5 (i := 111) rfl rfl) ⟨by decide, by decide, (show Option.map (fun d => d.parameters.length) (parseMethodDescriptor yL_fits.desc) = some 3 from by decide +kernel)⟩ (fun U9 h9 => hEx.1.warm h9) (fun a9 U9 g9 mk9 q9 => pq_Dn.same (u := U9) rfl q9) (Nat.le_of_ble_eq_true rfl) ⟨Nat.le_of_ble_eq_true rfl, Nat.le_of_ble_eq_true rfl⟩ ⟨(by show cc + 1 ≤ 600002; omega), (by show zz + 6 ≤ 7302232; omega)⟩ dL_law_379 (fun v379 S379 w379 => ?_); obtain ⟨hFh, yh, rfl, yh0, yh1, ph⟩ := w379; have xh := hFh.R hx1 (by decide); have rh := hFh.R hr1 (by decide); have oh := hFh.R ho1 (by decide); have olh : hN S379 ou = 1 := (hFh.1 ou 186 ho1 (by decide)).2.trans hol1; have Zh := hZ1.fr hr1 hFh (by decide); have Th := hFh.O hr1 (by decide) (by decide) ht1)
          refine pq_istore F dL_law_382 (by decide) ?_
          refine pq_aload_n F dL_law_384 rfl rfl ?_
          refine pq_aload_n F dL_law_385 rfl rfl ?_
          refine pq_iload F dL_law_386 rfl ?_
          refine pq_iconst (v := 1) F dL_law_388 (by decide) ?_
          refine pq_iadd F dL_law_389 ?_
          refine pq_sld F hX hbl hbA (by focus ((try clear hX); (try clear hf); (try clear hY1); (try clear hZ1); (try clear hI0); (try clear hI1); (try clear Zh); (try clear ih); (try clear ph); (try clear pq9); (try clear hEx); (try clear w160); (try clear w216); simp only [vp_in_iff, Int32.lt_iff_toInt_lt, Int32.le_iff_toInt_le, ← Int32.toInt_inj, Int32.toInt_add, Int32.toInt_sub, Int32.toInt_mul, Int32.toInt_neg, pq_NuO, pq_NuI, pq_NuJ, pq_NuR, pq_shr6, pq_shr7, pq_shr8, lqm1, lq0, lq1, lq2, lq3, lq4, lq5, lq6, lq15, lq384] at *; (try simp (disch := omega) only [pq_bm] at *); all_goals omega)) dL_law_390 (fun x390 e390 => ?_)
          have exx : x390 = x377 := e390.trans e377.symm
          subst exx
          (refine pq_callV (As := [_]) F (k_X11_fitsF l D cy _ _ (by exact rh) _ en (by exact Zh.1.1.1) (by exact Zh.1.1.2) (by exact Zh.2.2.2.1.1.1) (by exact Zh.2.2.2.1.2.1) (by exact Zh.2.1.1)) ml_L_71 rh (by decide) rfl (Nat.le_of_ble_eq_true rfl) ⟨Nat.le_of_ble_eq_true rfl, Nat.le_of_ble_eq_true rfl⟩ ⟨(by show cc + 1 + 0 ≤ 600002; omega), (by show zz + 6 + 0 ≤ 7302232; omega)⟩ dL_law_391 (fun v391 S391 w391 => ?_); obtain ⟨hFq, y9, rfl, y9a, y9b, pq9⟩ := w391; have xq := hFq.R xh (by decide); have rq := hFq.R rh (by decide); have oq := hFq.R oh (by decide); have olq := (hFq.1 ou 186 oh (by decide)).2.trans olh)
          rcases pf_key ph (pf_key2 pq9) with ⟨rfl, ⟨hv, hy⟩, h3⟩ | ⟨rfl, h3⟩
          · skip
            refine pq_istore F dL_law_394 (by decide) ?_
            refine pq_aload_n F dL_law_396 rfl rfl ?_
            (refine pq_callV (As := []) F (k_X11_thrown l D cy _ _ (by exact rq)) ml_L_55 rq (by decide) rfl (Nat.le_of_ble_eq_true rfl) ⟨Nat.le_of_ble_eq_true rfl, Nat.le_of_ble_eq_true rfl⟩ ⟨(by show cc + 1 ≤ 600002; omega), (by show zz + 6 ≤ 7302232; omega)⟩ dL_law_397 (fun v397 S397 w397 => ?_); obtain ⟨rfl, rfl⟩ := w397; rw [h3])
            refine pq_iload F dL_law_400 rfl ?_
            refine pq_icmp_eq (tgt := 407) F dL_law_402 (by decide) (fun c402 => ?_) (fun c402 => ?_)
            · skip
              refine pq_iload F dL_law_407 rfl ?_
              refine pq_if_ne (tgt := 431) F dL_law_409 (by decide) (fun c409 => ?_) (fun c409 => ?_)
              · exact absurd rfl c409
              · skip
                refine pq_aload_n F dL_law_412 rfl rfl ?_
                refine pq_iconst (v := 0) F dL_law_413 (by decide) ?_
                refine pq_lald F oq (by decide) (by decide) rfl (fun n1_414 n2_414 => (by focus ((try clear hX); (try clear hf); (try clear hY1); (try clear hZ1); (try clear hI0); (try clear hI1); (try clear Zh); (try clear ih); (try clear ph); (try clear pq9); (try clear hEx); (try clear w160); (try clear w216); simp only [vp_in_iff, Int32.lt_iff_toInt_lt, Int32.le_iff_toInt_le, ← Int32.toInt_inj, Int32.toInt_add, Int32.toInt_sub, Int32.toInt_mul, Int32.toInt_neg, pq_NuO, pq_NuI, pq_NuJ, pq_NuR, pq_shr6, pq_shr7, pq_shr8, lqm1, lq0, lq1, lq2, lq3, lq4, lq5, lq6, lq15, lq384] at *; (try simp (disch := omega) only [pq_bm] at *); all_goals omega))) dL_law_414 (fun x414 e414 => ?_)
                refine pq_iload F dL_law_415 rfl ?_
                refine pq_if_eq (tgt := 424) F dL_law_417 (by decide) (fun c417 => ?_) (fun c417 => ?_)
                · exact absurd (c417.symm.trans hy) (by decide)
                · skip
                  refine pq_lconst (v := 1) F dL_law_420 (by decide) ?_
                  refine pq_goto (tgt := 425) F dL_law_421 (by decide) ?_
                  refine pq_lcmp F dL_law_425 ?_
                  refine pq_if_eq (tgt := 431) F dL_law_426 (by decide) (fun c426 => ?_) (fun c426 => ?_)
                  · skip
                    refine pq_goto (tgt := 626) F dL_law_431 (by decide) ?_
                    refine pq_iinc (v := 6) F dL_law_626 rfl (by decide) (by decide) ?_
                    refine pq_goto (tgt := 23) F dL_law_629 (by decide) ?_
                    exact pq_fgm [true, true, true, true, true, false, false, false] (ih _ _ xx rr ou (cc + 1) (zz + 6) ((hF.cm hFh (by decide)).cm hFq (by decide)) xq rq oq (fun z => absurd z (by focus ((try clear hX); (try clear hf); (try clear hY1); (try clear hZ1); (try clear hI0); (try clear hI1); (try clear Zh); (try clear ih); (try clear ph); (try clear pq9); (try clear hEx); (try clear w160); (try clear w216); simp only [vp_in_iff, Int32.lt_iff_toInt_lt, Int32.le_iff_toInt_le, ← Int32.toInt_inj, Int32.toInt_add, Int32.toInt_sub, Int32.toInt_mul, Int32.toInt_neg, pq_NuO, pq_NuI, pq_NuJ, pq_NuR, pq_shr6, pq_shr7, pq_shr8, lqm1, lq0, lq1, lq2, lq3, lq4, lq5, lq6, lq15, lq384] at *; (try simp (disch := omega) only [pq_bm] at *); all_goals omega))) (Or.inr (by focus ((try clear hX); (try clear hf); (try clear hY1); (try clear hZ1); (try clear hI0); (try clear hI1); (try clear Zh); (try clear ih); (try clear ph); (try clear pq9); (try clear hEx); (try clear w160); (try clear w216); simp only [vp_in_iff, Int32.lt_iff_toInt_lt, Int32.le_iff_toInt_le, ← Int32.toInt_inj, Int32.toInt_add, Int32.toInt_sub, Int32.toInt_mul, Int32.toInt_neg, pq_NuO, pq_NuI, pq_NuJ, pq_NuR, pq_shr6, pq_shr7, pq_shr8, lqm1, lq0, lq1, lq2, lq3, lq4, lq5, lq6, lq15, lq384] at *; (try simp (disch := omega) only [pq_bm] at *); all_goals omega))) (by omega) (by omega) (by focus ((try clear hX); (try clear hf); (try clear hY1); (try clear hZ1); (try clear hI0); (try clear hI1); (try clear Zh); (try clear ih); (try clear ph); (try clear pq9); (try clear hEx); (try clear w160); (try clear w216); simp only [vp_in_iff, Int32.lt_iff_toInt_lt, Int32.le_iff_toInt_le, ← Int32.toInt_inj, Int32.toInt_add, Int32.toInt_sub, Int32.toInt_mul, Int32.toInt_neg, pq_NuO, pq_NuI, pq_NuJ, pq_NuR, pq_shr6, pq_shr7, pq_shr8, lqm1, lq0, lq1, lq2, lq3, lq4, lq5, lq6, lq15, lq384] at *; (try simp (disch := omega) only [pq_bm] at *); all_goals omega)))
                  · exact absurd (by rw [show x414 = 1 from e414.trans ((congrFun (hFq.2.2 ou 186 oh (by decide) (by decide)).2.1 _).trans (hv))]; exact pq_lgc _) c426
            · exact absurd rfl c402
          · skip
            refine pq_istore F dL_law_394 (by decide) ?_
            refine pq_aload_n F dL_law_396 rfl rfl ?_
            (refine pq_callV (As := []) F (k_X11_thrown l D cy _ _ (by exact rq)) ml_L_55 rq (by decide) rfl (Nat.le_of_ble_eq_true rfl) ⟨Nat.le_of_ble_eq_true rfl, Nat.le_of_ble_eq_true rfl⟩ ⟨(by show cc + 1 ≤ 600002; omega), (by show zz + 6 ≤ 7302232; omega)⟩ dL_law_397 (fun v397 S397 w397 => ?_); obtain ⟨rfl, rfl⟩ := w397; rw [h3])
            refine pq_iload F dL_law_400 rfl ?_
            refine pq_icmp_eq (tgt := 407) F dL_law_402 (by decide) (fun c402 => ?_) (fun c402 => ?_)
            · skip
              refine pq_iload F dL_law_407 rfl ?_
              refine pq_if_ne (tgt := 431) F dL_law_409 (by decide) (fun c409 => ?_) (fun c409 => ?_)
              · skip
                refine pq_goto (tgt := 626) F dL_law_431 (by decide) ?_
                refine pq_iinc (v := 6) F dL_law_626 rfl (by decide) (by decide) ?_
                refine pq_goto (tgt := 23) F dL_law_629 (by decide) ?_
                exact pq_fgm [true, true, true, true, true, false, false, false] (ih _ _ xx rr ou (cc + 1) (zz + 6) ((hF.cm hFh (by decide)).cm hFq (by decide)) xq rq oq (fun z => absurd z (by focus ((try clear hX); (try clear hf); (try clear hY1); (try clear hZ1); (try clear hI0); (try clear hI1); (try clear Zh); (try clear ih); (try clear ph); (try clear pq9); (try clear hEx); (try clear w160); (try clear w216); simp only [vp_in_iff, Int32.lt_iff_toInt_lt, Int32.le_iff_toInt_le, ← Int32.toInt_inj, Int32.toInt_add, Int32.toInt_sub, Int32.toInt_mul, Int32.toInt_neg, pq_NuO, pq_NuI, pq_NuJ, pq_NuR, pq_shr6, pq_shr7, pq_shr8, lqm1, lq0, lq1, lq2, lq3, lq4, lq5, lq6, lq15, lq384] at *; (try simp (disch := omega) only [pq_bm] at *); all_goals omega))) (Or.inr (by focus ((try clear hX); (try clear hf); (try clear hY1); (try clear hZ1); (try clear hI0); (try clear hI1); (try clear Zh); (try clear ih); (try clear ph); (try clear pq9); (try clear hEx); (try clear w160); (try clear w216); simp only [vp_in_iff, Int32.lt_iff_toInt_lt, Int32.le_iff_toInt_le, ← Int32.toInt_inj, Int32.toInt_add, Int32.toInt_sub, Int32.toInt_mul, Int32.toInt_neg, pq_NuO, pq_NuI, pq_NuJ, pq_NuR, pq_shr6, pq_shr7, pq_shr8, lqm1, lq0, lq1, lq2, lq3, lq4, lq5, lq6, lq15, lq384] at *; (try simp (disch := omega) only [pq_bm] at *); all_goals omega))) (by omega) (by omega) (by focus ((try clear hX); (try clear hf); (try clear hY1); (try clear hZ1); (try clear hI0); (try clear hI1); (try clear Zh); (try clear ih); (try clear ph); (try clear pq9); (try clear hEx); (try clear w160); (try clear w216); simp only [vp_in_iff, Int32.lt_iff_toInt_lt, Int32.le_iff_toInt_le, ← Int32.toInt_inj, Int32.toInt_add, Int32.toInt_sub, Int32.toInt_mul, Int32.toInt_neg, pq_NuO, pq_NuI, pq_NuJ, pq_NuR, pq_shr6, pq_shr7, pq_shr8, lqm1, lq0, lq1, lq2, lq3, lq4, lq5, lq6, lq15, lq384] at *; (try simp (disch := omega) only [pq_bm] at *); all_goals omega)))
              · exact absurd c409 (by decide)
            · exact absurd rfl c402
        by_cases c40_5 : sw.toInt = 5
        · refine pq_tabIn (tgt := 434) F dL_law_40 (by omega) (by omega) (by rw [c40_5]; rfl) (by decide) ?_
          refine pq_aload_n F dL_law_434 rfl rfl ?_
          refine pq_aload_n F dL_law_435 rfl rfl ?_
          refine pq_iload F dL_law_436 rfl ?_
          refine pq_iconst (v := 1) F dL_law_438 (by decide) ?_
          refine pq_iadd F dL_law_439 ?_
          refine pq_sld F hX hbl hbA (by focus ((try clear hX); (try clear hf); (try clear hY1); (try clear hZ1); (try clear hI0); (try clear hI1); (try clear Zh); (try clear ih); (try clear ph); (try clear pq9); (try clear hEx); (try clear w160); (try clear w216); simp only [vp_in_iff, Int32.lt_iff_toInt_lt, Int32.le_iff_toInt_le, ← Int32.toInt_inj, Int32.toInt_add, Int32.toInt_sub, Int32.toInt_mul, Int32.toInt_neg, pq_NuO, pq_NuI, pq_NuJ, pq_NuR, pq_shr6, pq_shr7, pq_shr8, lqm1, lq0, lq1, lq2, lq3, lq4, lq5, lq6, lq15, lq384] at *; (try simp (disch := omega) only [pq_bm] at *); all_goals omega)) dL_law_440 (fun x440 e440 => ?_)
          refine pq_aload_n F dL_law_441 rfl rfl ?_
          (refine pq_callSH (As := [_, _, _]) F (k_L_firstY l D cy hl0 _ _ (by exact hx1) _ _ (by exact ho1) (by exact hY1) (by exact hol1)) (pq_gt5 (i := 129) rfl rfl) (pq_gt1 (i := 0) rfl rfl) (pq_gt5 (i := 128) rfl rfl) (pq_gt5 (i := 127) rfl rfl) ⟨by decide, by decide, (show Option.map (fun d => d.parameters.length) (parseMethodDescriptor yL_first.desc) = some 3 from by decide +kernel)⟩ (fun U9 h9 => hEx.1.warm h9) (fun a9 U9 g9 mk9 q9 => pq_Dn.same (u := U9) rfl q9) (Nat.le_of_ble_eq_true rfl) ⟨Nat.le_of_ble_eq_true rfl, Nat.le_of_ble_eq_true rfl⟩ ⟨(by show cc + 4 ≤ 600002; omega), (by show zz + 9 ≤ 7302232; omega)⟩ dL_law_442 (fun v442 S442 w442 => ?_); obtain ⟨hFh, yh, rfl, yh0, yh1, ph⟩ := w442; have xh := hFh.R hx1 (by decide); have rh := hFh.R hr1 (by decide); have oh := hFh.R ho1 (by decide); have olh : hN S442 ou = 1 := (hFh.1 ou 186 ho1 (by decide)).2.trans hol1; have Zh := hZ1.fr hr1 hFh (by decide); have Th := hFh.O hr1 (by decide) (by decide) ht1)
          refine pq_istore F dL_law_445 (by decide) ?_
          refine pq_aload_n F dL_law_447 rfl rfl ?_
          refine pq_aload_n F dL_law_448 rfl rfl ?_
          refine pq_iload F dL_law_449 rfl ?_
          refine pq_iconst (v := 1) F dL_law_451 (by decide) ?_
          refine pq_iadd F dL_law_452 ?_
          refine pq_sld F hX hbl hbA (by focus ((try clear hX); (try clear hf); (try clear hY1); (try clear hZ1); (try clear hI0); (try clear hI1); (try clear Zh); (try clear ih); (try clear ph); (try clear pq9); (try clear hEx); (try clear w160); (try clear w216); simp only [vp_in_iff, Int32.lt_iff_toInt_lt, Int32.le_iff_toInt_le, ← Int32.toInt_inj, Int32.toInt_add, Int32.toInt_sub, Int32.toInt_mul, Int32.toInt_neg, pq_NuO, pq_NuI, pq_NuJ, pq_NuR, pq_shr6, pq_shr7, pq_shr8, lqm1, lq0, lq1, lq2, lq3, lq4, lq5, lq6, lq15, lq384] at *; (try simp (disch := omega) only [pq_bm] at *); all_goals omega)) dL_law_453 (fun x453 e453 => ?_)
          have exx : x453 = x440 := e453.trans e440.symm
          subst exx
          (refine pq_callV (As := [_]) F (k_X11_firstF l D cy _ _ (by exact rh) _ en le si st ao aa xz (by exact Zh)) ml_L_74 rh (by decide) rfl (Nat.le_of_ble_eq_true rfl) ⟨Nat.le_of_ble_eq_true rfl, Nat.le_of_ble_eq_true rfl⟩ ⟨(by show cc + 4 + 0 ≤ 600002; omega), (by show zz + 9 + 0 ≤ 7302232; omega)⟩ dL_law_454 (fun v454 S454 w454 => ?_); obtain ⟨hFq, y9, rfl, pq9⟩ := w454; have xq := hFq.R xh (by decide); have rq := hFq.R rh (by decide); have oq := hFq.R oh (by decide); have olq := (hFq.1 ou 186 oh (by decide)).2.trans olh)
          rcases pf_key ph pq9 with ⟨rfl, ⟨hv, hy⟩, h3⟩ | ⟨rfl, h3⟩
          · skip
            refine pq_istore F dL_law_457 (by decide) ?_
            refine pq_aload_n F dL_law_459 rfl rfl ?_
            (refine pq_callV (As := []) F (k_X11_thrown l D cy _ _ (by exact rq)) ml_L_55 rq (by decide) rfl (Nat.le_of_ble_eq_true rfl) ⟨Nat.le_of_ble_eq_true rfl, Nat.le_of_ble_eq_true rfl⟩ ⟨(by show cc + 4 ≤ 600002; omega), (by show zz + 9 ≤ 7302232; omega)⟩ dL_law_460 (fun v460 S460 w460 => ?_); obtain ⟨rfl, rfl⟩ := w460; rw [h3])
            refine pq_iload F dL_law_463 rfl ?_
            refine pq_icmp_eq (tgt := 470) F dL_law_465 (by decide) (fun c465 => ?_) (fun c465 => ?_)
            · skip
              refine pq_iload F dL_law_470 rfl ?_
              refine pq_if_ne (tgt := 487) F dL_law_472 (by decide) (fun c472 => ?_) (fun c472 => ?_)
              · exact absurd rfl c472
              · skip
                refine pq_aload_n F dL_law_475 rfl rfl ?_
                refine pq_iconst (v := 0) F dL_law_476 (by decide) ?_
                refine pq_lald F oq (by decide) (by decide) rfl (fun n1_477 n2_477 => (by focus ((try clear hX); (try clear hf); (try clear hY1); (try clear hZ1); (try clear hI0); (try clear hI1); (try clear Zh); (try clear ih); (try clear ph); (try clear pq9); (try clear hEx); (try clear w160); (try clear w216); simp only [vp_in_iff, Int32.lt_iff_toInt_lt, Int32.le_iff_toInt_le, ← Int32.toInt_inj, Int32.toInt_add, Int32.toInt_sub, Int32.toInt_mul, Int32.toInt_neg, pq_NuO, pq_NuI, pq_NuJ, pq_NuR, pq_shr6, pq_shr7, pq_shr8, lqm1, lq0, lq1, lq2, lq3, lq4, lq5, lq6, lq15, lq384] at *; (try simp (disch := omega) only [pq_bm] at *); all_goals omega))) dL_law_477 (fun x477 e477 => ?_)
                refine pq_iload F dL_law_478 rfl ?_
                refine pq_i2l F dL_law_480 ?_
                refine pq_lcmp F dL_law_481 ?_
                refine pq_if_eq (tgt := 487) F dL_law_482 (by decide) (fun c482 => ?_) (fun c482 => ?_)
                · skip
                  refine pq_goto (tgt := 626) F dL_law_487 (by decide) ?_
                  refine pq_iinc (v := 6) F dL_law_626 rfl (by decide) (by decide) ?_
                  refine pq_goto (tgt := 23) F dL_law_629 (by decide) ?_
                  exact pq_fgm [true, true, true, true, true, false, false, false] (ih _ _ xx rr ou (cc + 4) (zz + 9) ((hF.cm hFh (by decide)).cm hFq (by decide)) xq rq oq (fun z => absurd z (by focus ((try clear hX); (try clear hf); (try clear hY1); (try clear hZ1); (try clear hI0); (try clear hI1); (try clear Zh); (try clear ih); (try clear ph); (try clear pq9); (try clear hEx); (try clear w160); (try clear w216); simp only [vp_in_iff, Int32.lt_iff_toInt_lt, Int32.le_iff_toInt_le, ← Int32.toInt_inj, Int32.toInt_add, Int32.toInt_sub, Int32.toInt_mul, Int32.toInt_neg, pq_NuO, pq_NuI, pq_NuJ, pq_NuR, pq_shr6, pq_shr7, pq_shr8, lqm1, lq0, lq1, lq2, lq3, lq4, lq5, lq6, lq15, lq384] at *; (try simp (disch := omega) only [pq_bm] at *); all_goals omega))) (Or.inr (by focus ((try clear hX); (try clear hf); (try clear hY1); (try clear hZ1); (try clear hI0); (try clear hI1); (try clear Zh); (try clear ih); (try clear ph); (try clear pq9); (try clear hEx); (try clear w160); (try clear w216); simp only [vp_in_iff, Int32.lt_iff_toInt_lt, Int32.le_iff_toInt_le, ← Int32.toInt_inj, Int32.toInt_add, Int32.toInt_sub, Int32.toInt_mul, Int32.toInt_neg, pq_NuO, pq_NuI, pq_NuJ, pq_NuR, pq_shr6, pq_shr7, pq_shr8, lqm1, lq0, lq1, lq2, lq3, lq4, lq5, lq6, lq15, lq384] at *; (try simp (disch := omega) only [pq_bm] at *); all_goals omega))) (by omega) (by omega) (by focus ((try clear hX); (try clear hf); (try clear hY1); (try clear hZ1); (try clear hI0); (try clear hI1); (try clear Zh); (try clear ih); (try clear ph); (try clear pq9); (try clear hEx); (try clear w160); (try clear w216); simp only [vp_in_iff, Int32.lt_iff_toInt_lt, Int32.le_iff_toInt_le, ← Int32.toInt_inj, Int32.toInt_add, Int32.toInt_sub, Int32.toInt_mul, Int32.toInt_neg, pq_NuO, pq_NuI, pq_NuJ, pq_NuR, pq_shr6, pq_shr7, pq_shr8, lqm1, lq0, lq1, lq2, lq3, lq4, lq5, lq6, lq15, lq384] at *; (try simp (disch := omega) only [pq_bm] at *); all_goals omega)))
                · exact absurd (by rw [show x477 = y9.toInt64 from e477.trans ((congrFun (hFq.2.2 ou 186 oh (by decide) (by decide)).2.1 _).trans (hv.trans (by rw [hy])))]; exact pq_lgc _) c482
            · exact absurd rfl c465
          · skip
            refine pq_istore F dL_law_457 (by decide) ?_
            refine pq_aload_n F dL_law_459 rfl rfl ?_
            (refine pq_callV (As := []) F (k_X11_thrown l D cy _ _ (by exact rq)) ml_L_55 rq (by decide) rfl (Nat.le_of_ble_eq_true rfl) ⟨Nat.le_of_ble_eq_true rfl, Nat.le_of_ble_eq_true rfl⟩ ⟨(by show cc + 4 ≤ 600002; omega), (by show zz + 9 ≤ 7302232; omega)⟩ dL_law_460 (fun v460 S460 w460 => ?_); obtain ⟨rfl, rfl⟩ := w460; rw [h3])
            refine pq_iload F dL_law_463 rfl ?_
            refine pq_icmp_eq (tgt := 470) F dL_law_465 (by decide) (fun c465 => ?_) (fun c465 => ?_)
            · skip
              refine pq_iload F dL_law_470 rfl ?_
              refine pq_if_ne (tgt := 487) F dL_law_472 (by decide) (fun c472 => ?_) (fun c472 => ?_)
              · skip
                refine pq_goto (tgt := 626) F dL_law_487 (by decide) ?_
                refine pq_iinc (v := 6) F dL_law_626 rfl (by decide) (by decide) ?_
                refine pq_goto (tgt := 23) F dL_law_629 (by decide) ?_
                exact pq_fgm [true, true, true, true, true, false, false, false] (ih _ _ xx rr ou (cc + 4) (zz + 9) ((hF.cm hFh (by decide)).cm hFq (by decide)) xq rq oq (fun z => absurd z (by focus ((try clear hX); (try clear hf); (try clear hY1); (try clear hZ1); (try clear hI0); (try clear hI1); (try clear Zh); (try clear ih); (try clear ph); (try clear pq9); (try clear hEx); (try clear w160); (try clear w216); simp only [vp_in_iff, Int32.lt_iff_toInt_lt, Int32.le_iff_toInt_le, ← Int32.toInt_inj, Int32.toInt_add, Int32.toInt_sub, Int32.toInt_mul, Int32.toInt_neg, pq_NuO, pq_NuI, pq_NuJ, pq_NuR, pq_shr6, pq_shr7, pq_shr8, lqm1, lq0, lq1, lq2, lq3, lq4, lq5, lq6, lq15, lq384] at *; (try simp (disch := omega) only [pq_bm] at *); all_goals omega))) (Or.inr (by focus ((try clear hX); (try clear hf); (try clear hY1); (try clear hZ1); (try clear hI0); (try clear hI1); (try clear Zh); (try clear ih); (try clear ph); (try clear pq9); (try clear hEx); (try clear w160); (try clear w216); simp only [vp_in_iff, Int32.lt_iff_toInt_lt, Int32.le_iff_toInt_le, ← Int32.toInt_inj, Int32.toInt_add, Int32.toInt_sub, Int32.toInt_mul, Int32.toInt_neg, pq_NuO, pq_NuI, pq_NuJ, pq_NuR, pq_shr6, pq_shr7, pq_shr8, lqm1, lq0, lq1, lq2, lq3, lq4, lq5, lq6, lq15, lq384] at *; (try simp (disch := omega) only [pq_bm] at *); all_goals omega))) (by omega) (by omega) (by focus ((try clear hX); (try clear hf); (try clear hY1); (try clear hZ1); (try clear hI0); (try clear hI1); (try clear Zh); (try clear ih); (try clear ph); (try clear pq9); (try clear hEx); (try clear w160); (try clear w216); simp only [vp_in_iff, Int32.lt_iff_toInt_lt, Int32.le_iff_toInt_le, ← Int32.toInt_inj, Int32.toInt_add, Int32.toInt_sub, Int32.toInt_mul, Int32.toInt_neg, pq_NuO, pq_NuI, pq_NuJ, pq_NuR, pq_shr6, pq_shr7, pq_shr8, lqm1, lq0, lq1, lq2, lq3, lq4, lq5, lq6, lq15, lq384] at *; (try simp (disch := omega) only [pq_bm] at *); all_goals omega)))
              · exact absurd c472 (by decide)
            · exact absurd rfl c465
        by_cases c40_6 : sw.toInt = 6
        · refine pq_tabIn (tgt := 490) F dL_law_40 (by omega) (by omega) (by rw [c40_6]; rfl) (by decide) ?_
          refine pq_aload_n F dL_law_490 rfl rfl ?_
          refine pq_aload_n F dL_law_491 rfl rfl ?_
          refine pq_iload F dL_law_492 rfl ?_
          refine pq_iconst (v := 1) F dL_law_494 (by decide) ?_
          refine pq_iadd F dL_law_495 ?_
          refine pq_sld F hX hbl hbA (by focus ((try clear hX); (try clear hf); (try clear hY1); (try clear hZ1); (try clear hI0); (try clear hI1); (try clear Zh); (try clear ih); (try clear ph); (try clear pq9); (try clear hEx); (try clear w160); (try clear w216); simp only [vp_in_iff, Int32.lt_iff_toInt_lt, Int32.le_iff_toInt_le, ← Int32.toInt_inj, Int32.toInt_add, Int32.toInt_sub, Int32.toInt_mul, Int32.toInt_neg, pq_NuO, pq_NuI, pq_NuJ, pq_NuR, pq_shr6, pq_shr7, pq_shr8, lqm1, lq0, lq1, lq2, lq3, lq4, lq5, lq6, lq15, lq384] at *; (try simp (disch := omega) only [pq_bm] at *); all_goals omega)) dL_law_496 (fun x496 e496 => ?_)
          refine pq_aload_n F dL_law_497 rfl rfl ?_
          (refine pq_callSH (As := [_, _, _]) F (k_L_octetY l D cy hl0 _ _ (by exact hx1) _ _ (by exact ho1) (by exact hY1) (by exact hol1)) (pq_gt5 (i := 166) rfl rfl) (pq_gt1 (i := 0) rfl rfl) (pq_gt5 (i := 165) rfl rfl) (pq_gt5 (i := 164) rfl rfl) ⟨by decide, by decide, (show Option.map (fun d => d.parameters.length) (parseMethodDescriptor yL_octet.desc) = some 3 from by decide +kernel)⟩ (fun U9 h9 => hEx.1.warm h9) (fun a9 U9 g9 mk9 q9 => pq_Dn.same (u := U9) rfl q9) (Nat.le_of_ble_eq_true rfl) ⟨Nat.le_of_ble_eq_true rfl, Nat.le_of_ble_eq_true rfl⟩ ⟨(by show cc + 1 ≤ 600002; omega), (by show zz + 6 ≤ 7302232; omega)⟩ dL_law_498 (fun v498 S498 w498 => ?_); obtain ⟨hFh, yh, rfl, yh0, yh1, ph⟩ := w498; have xh := hFh.R hx1 (by decide); have rh := hFh.R hr1 (by decide); have oh := hFh.R ho1 (by decide); have olh : hN S498 ou = 1 := (hFh.1 ou 186 ho1 (by decide)).2.trans hol1; have Zh := hZ1.fr hr1 hFh (by decide); have Th := hFh.O hr1 (by decide) (by decide) ht1)
          refine pq_istore F dL_law_501 (by decide) ?_
          refine pq_aload_n F dL_law_503 rfl rfl ?_
          refine pq_aload_n F dL_law_504 rfl rfl ?_
          refine pq_iload F dL_law_505 rfl ?_
          refine pq_iconst (v := 1) F dL_law_507 (by decide) ?_
          refine pq_iadd F dL_law_508 ?_
          refine pq_sld F hX hbl hbA (by focus ((try clear hX); (try clear hf); (try clear hY1); (try clear hZ1); (try clear hI0); (try clear hI1); (try clear Zh); (try clear ih); (try clear ph); (try clear pq9); (try clear hEx); (try clear w160); (try clear w216); simp only [vp_in_iff, Int32.lt_iff_toInt_lt, Int32.le_iff_toInt_le, ← Int32.toInt_inj, Int32.toInt_add, Int32.toInt_sub, Int32.toInt_mul, Int32.toInt_neg, pq_NuO, pq_NuI, pq_NuJ, pq_NuR, pq_shr6, pq_shr7, pq_shr8, lqm1, lq0, lq1, lq2, lq3, lq4, lq5, lq6, lq15, lq384] at *; (try simp (disch := omega) only [pq_bm] at *); all_goals omega)) dL_law_509 (fun x509 e509 => ?_)
          (refine pq_callV (As := [_]) F (k_X11_octetF l D cy _ _ (by exact rh) _ (by exact Zh.2.1.2.2)) ml_L_77 rh (by decide) rfl (Nat.le_of_ble_eq_true rfl) ⟨Nat.le_of_ble_eq_true rfl, Nat.le_of_ble_eq_true rfl⟩ ⟨(by show cc + 1 + 0 ≤ 600002; omega), (by show zz + 6 + 0 ≤ 7302232; omega)⟩ dL_law_510 (fun v510 S510 w510 => ?_); obtain ⟨hFq, y9, rfl, pq9⟩ := w510; have xq := hFq.R xh (by decide); have rq := hFq.R rh (by decide); have oq := hFq.R oh (by decide); have olq := (hFq.1 ou 186 oh (by decide)).2.trans olh)
          rcases (And.intro ph pq9) with ⟨rfl, h3⟩
          · skip
            refine pq_istore F dL_law_513 (by decide) ?_
            refine pq_aload_n F dL_law_515 rfl rfl ?_
            (refine pq_callV (As := []) F (k_X11_thrown l D cy _ _ (by exact rq)) ml_L_55 rq (by decide) rfl (Nat.le_of_ble_eq_true rfl) ⟨Nat.le_of_ble_eq_true rfl, Nat.le_of_ble_eq_true rfl⟩ ⟨(by show cc + 1 ≤ 600002; omega), (by show zz + 6 ≤ 7302232; omega)⟩ dL_law_516 (fun v516 S516 w516 => ?_); obtain ⟨rfl, rfl⟩ := w516; rw [h3])
            refine pq_iload F dL_law_519 rfl ?_
            refine pq_icmp_eq (tgt := 526) F dL_law_521 (by decide) (fun c521 => ?_) (fun c521 => ?_)
            · skip
              refine pq_iload F dL_law_526 rfl ?_
              refine pq_if_ne (tgt := 543) F dL_law_528 (by decide) (fun c528 => ?_) (fun c528 => ?_)
              · skip
                refine pq_goto (tgt := 626) F dL_law_543 (by decide) ?_
                refine pq_iinc (v := 6) F dL_law_626 rfl (by decide) (by decide) ?_
                refine pq_goto (tgt := 23) F dL_law_629 (by decide) ?_
                exact pq_fgm [true, true, true, true, true, false, false, false] (ih _ _ xx rr ou (cc + 1) (zz + 6) ((hF.cm hFh (by decide)).cm hFq (by decide)) xq rq oq (fun z => absurd z (by focus ((try clear hX); (try clear hf); (try clear hY1); (try clear hZ1); (try clear hI0); (try clear hI1); (try clear Zh); (try clear ih); (try clear ph); (try clear pq9); (try clear hEx); (try clear w160); (try clear w216); simp only [vp_in_iff, Int32.lt_iff_toInt_lt, Int32.le_iff_toInt_le, ← Int32.toInt_inj, Int32.toInt_add, Int32.toInt_sub, Int32.toInt_mul, Int32.toInt_neg, pq_NuO, pq_NuI, pq_NuJ, pq_NuR, pq_shr6, pq_shr7, pq_shr8, lqm1, lq0, lq1, lq2, lq3, lq4, lq5, lq6, lq15, lq384] at *; (try simp (disch := omega) only [pq_bm] at *); all_goals omega))) (Or.inr (by focus ((try clear hX); (try clear hf); (try clear hY1); (try clear hZ1); (try clear hI0); (try clear hI1); (try clear Zh); (try clear ih); (try clear ph); (try clear pq9); (try clear hEx); (try clear w160); (try clear w216); simp only [vp_in_iff, Int32.lt_iff_toInt_lt, Int32.le_iff_toInt_le, ← Int32.toInt_inj, Int32.toInt_add, Int32.toInt_sub, Int32.toInt_mul, Int32.toInt_neg, pq_NuO, pq_NuI, pq_NuJ, pq_NuR, pq_shr6, pq_shr7, pq_shr8, lqm1, lq0, lq1, lq2, lq3, lq4, lq5, lq6, lq15, lq384] at *; (try simp (disch := omega) only [pq_bm] at *); all_goals omega))) (by omega) (by omega) (by focus ((try clear hX); (try clear hf); (try clear hY1); (try clear hZ1); (try clear hI0); (try clear hI1); (try clear Zh); (try clear ih); (try clear ph); (try clear pq9); (try clear hEx); (try clear w160); (try clear w216); simp only [vp_in_iff, Int32.lt_iff_toInt_lt, Int32.le_iff_toInt_le, ← Int32.toInt_inj, Int32.toInt_add, Int32.toInt_sub, Int32.toInt_mul, Int32.toInt_neg, pq_NuO, pq_NuI, pq_NuJ, pq_NuR, pq_shr6, pq_shr7, pq_shr8, lqm1, lq0, lq1, lq2, lq3, lq4, lq5, lq6, lq15, lq384] at *; (try simp (disch := omega) only [pq_bm] at *); all_goals omega)))
              · exact absurd c528 (by decide)
            · exact absurd rfl c521
        by_cases c40_7 : sw.toInt = 7
        · refine pq_tabIn (tgt := 546) F dL_law_40 (by omega) (by omega) (by rw [c40_7]; rfl) (by decide) ?_
          refine pq_aload_n F dL_law_546 rfl rfl ?_
          refine pq_aload_n F dL_law_547 rfl rfl ?_
          refine pq_iload F dL_law_548 rfl ?_
          refine pq_iconst (v := 1) F dL_law_550 (by decide) ?_
          refine pq_iadd F dL_law_551 ?_
          refine pq_sld F hX hbl hbA (by focus ((try clear hX); (try clear hf); (try clear hY1); (try clear hZ1); (try clear hI0); (try clear hI1); (try clear Zh); (try clear ih); (try clear ph); (try clear pq9); (try clear hEx); (try clear w160); (try clear w216); simp only [vp_in_iff, Int32.lt_iff_toInt_lt, Int32.le_iff_toInt_le, ← Int32.toInt_inj, Int32.toInt_add, Int32.toInt_sub, Int32.toInt_mul, Int32.toInt_neg, pq_NuO, pq_NuI, pq_NuJ, pq_NuR, pq_shr6, pq_shr7, pq_shr8, lqm1, lq0, lq1, lq2, lq3, lq4, lq5, lq6, lq15, lq384] at *; (try simp (disch := omega) only [pq_bm] at *); all_goals omega)) dL_law_552 (fun x552 e552 => ?_)
          refine pq_aload_n F dL_law_553 rfl rfl ?_
          refine pq_iload F dL_law_554 rfl ?_
          refine pq_iconst (v := 2) F dL_law_556 (by decide) ?_
          refine pq_iadd F dL_law_557 ?_
          refine pq_sld F hX hbl hbA (by focus ((try clear hX); (try clear hf); (try clear hY1); (try clear hZ1); (try clear hI0); (try clear hI1); (try clear Zh); (try clear ih); (try clear ph); (try clear pq9); (try clear hEx); (try clear w160); (try clear w216); simp only [vp_in_iff, Int32.lt_iff_toInt_lt, Int32.le_iff_toInt_le, ← Int32.toInt_inj, Int32.toInt_add, Int32.toInt_sub, Int32.toInt_mul, Int32.toInt_neg, pq_NuO, pq_NuI, pq_NuJ, pq_NuR, pq_shr6, pq_shr7, pq_shr8, lqm1, lq0, lq1, lq2, lq3, lq4, lq5, lq6, lq15, lq384] at *; (try simp (disch := omega) only [pq_bm] at *); all_goals omega)) dL_law_558 (fun x558 e558 => ?_)
          refine pq_aload_n F dL_law_559 rfl rfl ?_
          (refine pq_callSH (As := [_, _, _, _]) F (k_L_countY l D cy hl0 _ _ (by exact hx1) _ _ _ (by exact ho1) (by exact hY1) (by exact hol1)) (pq_gt5 (i := 190) rfl rfl) (pq_gt1 (i := 0) rfl rfl) (pq_gt5 (i := 189) rfl rfl) (pq_gt5 (i := 188) rfl rfl) ⟨by decide, by decide, (show Option.map (fun d => d.parameters.length) (parseMethodDescriptor yL_count.desc) = some 4 from by decide +kernel)⟩ (fun U9 h9 => hEx.1.warm h9) (fun a9 U9 g9 mk9 q9 => pq_Dn.same (u := U9) rfl q9) (Nat.le_of_ble_eq_true rfl) ⟨Nat.le_of_ble_eq_true rfl, Nat.le_of_ble_eq_true rfl⟩ ⟨(by show cc + 1 ≤ 600002; omega), (by show zz + 6 ≤ 7302232; omega)⟩ dL_law_560 (fun v560 S560 w560 => ?_); obtain ⟨hFh, yh, rfl, yh0, yh1, ph⟩ := w560; have xh := hFh.R hx1 (by decide); have rh := hFh.R hr1 (by decide); have oh := hFh.R ho1 (by decide); have olh : hN S560 ou = 1 := (hFh.1 ou 186 ho1 (by decide)).2.trans hol1; have Zh := hZ1.fr hr1 hFh (by decide); have Th := hFh.O hr1 (by decide) (by decide) ht1)
          refine pq_istore F dL_law_563 (by decide) ?_
          refine pq_aload_n F dL_law_565 rfl rfl ?_
          refine pq_aload_n F dL_law_566 rfl rfl ?_
          refine pq_iload F dL_law_567 rfl ?_
          refine pq_iconst (v := 1) F dL_law_569 (by decide) ?_
          refine pq_iadd F dL_law_570 ?_
          refine pq_sld F hX hbl hbA (by focus ((try clear hX); (try clear hf); (try clear hY1); (try clear hZ1); (try clear hI0); (try clear hI1); (try clear Zh); (try clear ih); (try clear ph); (try clear pq9); (try clear hEx); (try clear w160); (try clear w216); simp only [vp_in_iff, Int32.lt_iff_toInt_lt, Int32.le_iff_toInt_le, ← Int32.toInt_inj, Int32.toInt_add, Int32.toInt_sub, Int32.toInt_mul, Int32.toInt_neg, pq_NuO, pq_NuI, pq_NuJ, pq_NuR, pq_shr6, pq_shr7, pq_shr8, lqm1, lq0, lq1, lq2, lq3, lq4, lq5, lq6, lq15, lq384] at *; (try simp (disch := omega) only [pq_bm] at *); all_goals omega)) dL_law_571 (fun x571 e571 => ?_)
          refine pq_aload_n F dL_law_572 rfl rfl ?_
          refine pq_iload F dL_law_573 rfl ?_
          refine pq_iconst (v := 2) F dL_law_575 (by decide) ?_
          refine pq_iadd F dL_law_576 ?_
          refine pq_sld F hX hbl hbA (by focus ((try clear hX); (try clear hf); (try clear hY1); (try clear hZ1); (try clear hI0); (try clear hI1); (try clear Zh); (try clear ih); (try clear ph); (try clear pq9); (try clear hEx); (try clear w160); (try clear w216); simp only [vp_in_iff, Int32.lt_iff_toInt_lt, Int32.le_iff_toInt_le, ← Int32.toInt_inj, Int32.toInt_add, Int32.toInt_sub, Int32.toInt_mul, Int32.toInt_neg, pq_NuO, pq_NuI, pq_NuJ, pq_NuR, pq_shr6, pq_shr7, pq_shr8, lqm1, lq0, lq1, lq2, lq3, lq4, lq5, lq6, lq15, lq384] at *; (try simp (disch := omega) only [pq_bm] at *); all_goals omega)) dL_law_577 (fun x577 e577 => ?_)
          have exx : x571 = x552 := e571.trans e552.symm
          subst exx
          have exy : x577 = x558 := e577.trans e558.symm
          subst exy
          (refine pq_callV (As := [_, _]) F (k_X11_countF l D cy _ _ (by exact rh) _ _ en le si st ao aa xz (by exact Zh)) ml_L_81 rh (by decide) rfl (Nat.le_of_ble_eq_true rfl) ⟨Nat.le_of_ble_eq_true rfl, Nat.le_of_ble_eq_true rfl⟩ ⟨(by show cc + 1 + 0 ≤ 600002; omega), (by show zz + 6 + 0 ≤ 7302232; omega)⟩ dL_law_578 (fun v578 S578 w578 => ?_); obtain ⟨hFq, y9, rfl, pq9⟩ := w578; have xq := hFq.R xh (by decide); have rq := hFq.R rh (by decide); have oq := hFq.R oh (by decide); have olq := (hFq.1 ou 186 oh (by decide)).2.trans olh)
          rcases pf_key ph (pf_key3 pq9) with ⟨rfl, ⟨hv, hy⟩, h3⟩ | ⟨rfl, h3⟩
          · skip
            refine pq_lstore F dL_law_581 (by decide) ?_
            refine pq_aload_n F dL_law_583 rfl rfl ?_
            (refine pq_callV (As := []) F (k_X11_thrown l D cy _ _ (by exact rq)) ml_L_55 rq (by decide) rfl (Nat.le_of_ble_eq_true rfl) ⟨Nat.le_of_ble_eq_true rfl, Nat.le_of_ble_eq_true rfl⟩ ⟨(by show cc + 1 ≤ 600002; omega), (by show zz + 6 ≤ 7302232; omega)⟩ dL_law_584 (fun v584 S584 w584 => ?_); obtain ⟨rfl, rfl⟩ := w584; rw [h3])
            refine pq_iload F dL_law_587 rfl ?_
            refine pq_icmp_eq (tgt := 594) F dL_law_589 (by decide) (fun c589 => ?_) (fun c589 => ?_)
            · skip
              refine pq_iload F dL_law_594 rfl ?_
              refine pq_if_ne (tgt := 610) F dL_law_596 (by decide) (fun c596 => ?_) (fun c596 => ?_)
              · exact absurd rfl c596
              · skip
                refine pq_aload_n F dL_law_599 rfl rfl ?_
                refine pq_iconst (v := 0) F dL_law_600 (by decide) ?_
                refine pq_lald F oq (by decide) (by decide) rfl (fun n1_601 n2_601 => (by focus ((try clear hX); (try clear hf); (try clear hY1); (try clear hZ1); (try clear hI0); (try clear hI1); (try clear Zh); (try clear ih); (try clear ph); (try clear pq9); (try clear hEx); (try clear w160); (try clear w216); simp only [vp_in_iff, Int32.lt_iff_toInt_lt, Int32.le_iff_toInt_le, ← Int32.toInt_inj, Int32.toInt_add, Int32.toInt_sub, Int32.toInt_mul, Int32.toInt_neg, pq_NuO, pq_NuI, pq_NuJ, pq_NuR, pq_shr6, pq_shr7, pq_shr8, lqm1, lq0, lq1, lq2, lq3, lq4, lq5, lq6, lq15, lq384] at *; (try simp (disch := omega) only [pq_bm] at *); all_goals omega))) dL_law_601 (fun x601 e601 => ?_)
                refine pq_lload F dL_law_602 rfl ?_
                refine pq_lcmp F dL_law_604 ?_
                refine pq_if_eq (tgt := 610) F dL_law_605 (by decide) (fun c605 => ?_) (fun c605 => ?_)
                · skip
                  refine pq_goto (tgt := 626) F dL_law_610 (by decide) ?_
                  refine pq_iinc (v := 6) F dL_law_626 rfl (by decide) (by decide) ?_
                  refine pq_goto (tgt := 23) F dL_law_629 (by decide) ?_
                  exact pq_fgm [true, true, true, true, true, false, false, false] (ih _ _ xx rr ou (cc + 1) (zz + 6) ((hF.cm hFh (by decide)).cm hFq (by decide)) xq rq oq (fun z => absurd z (by focus ((try clear hX); (try clear hf); (try clear hY1); (try clear hZ1); (try clear hI0); (try clear hI1); (try clear Zh); (try clear ih); (try clear ph); (try clear pq9); (try clear hEx); (try clear w160); (try clear w216); simp only [vp_in_iff, Int32.lt_iff_toInt_lt, Int32.le_iff_toInt_le, ← Int32.toInt_inj, Int32.toInt_add, Int32.toInt_sub, Int32.toInt_mul, Int32.toInt_neg, pq_NuO, pq_NuI, pq_NuJ, pq_NuR, pq_shr6, pq_shr7, pq_shr8, lqm1, lq0, lq1, lq2, lq3, lq4, lq5, lq6, lq15, lq384] at *; (try simp (disch := omega) only [pq_bm] at *); all_goals omega))) (Or.inr (by focus ((try clear hX); (try clear hf); (try clear hY1); (try clear hZ1); (try clear hI0); (try clear hI1); (try clear Zh); (try clear ih); (try clear ph); (try clear pq9); (try clear hEx); (try clear w160); (try clear w216); simp only [vp_in_iff, Int32.lt_iff_toInt_lt, Int32.le_iff_toInt_le, ← Int32.toInt_inj, Int32.toInt_add, Int32.toInt_sub, Int32.toInt_mul, Int32.toInt_neg, pq_NuO, pq_NuI, pq_NuJ, pq_NuR, pq_shr6, pq_shr7, pq_shr8, lqm1, lq0, lq1, lq2, lq3, lq4, lq5, lq6, lq15, lq384] at *; (try simp (disch := omega) only [pq_bm] at *); all_goals omega))) (by omega) (by omega) (by focus ((try clear hX); (try clear hf); (try clear hY1); (try clear hZ1); (try clear hI0); (try clear hI1); (try clear Zh); (try clear ih); (try clear ph); (try clear pq9); (try clear hEx); (try clear w160); (try clear w216); simp only [vp_in_iff, Int32.lt_iff_toInt_lt, Int32.le_iff_toInt_le, ← Int32.toInt_inj, Int32.toInt_add, Int32.toInt_sub, Int32.toInt_mul, Int32.toInt_neg, pq_NuO, pq_NuI, pq_NuJ, pq_NuR, pq_shr6, pq_shr7, pq_shr8, lqm1, lq0, lq1, lq2, lq3, lq4, lq5, lq6, lq15, lq384] at *; (try simp (disch := omega) only [pq_bm] at *); all_goals omega)))
                · exact absurd (by rw [show x601 = y9 from e601.trans ((congrFun (hFq.2.2 ou 186 oh (by decide) (by decide)).2.1 _).trans (hv.trans hy.symm))]; exact pq_lgc _) c605
            · exact absurd rfl c589
          · skip
            refine pq_lstore F dL_law_581 (by decide) ?_
            refine pq_aload_n F dL_law_583 rfl rfl ?_
            (refine pq_callV (As := []) F (k_X11_thrown l D cy _ _ (by exact rq)) ml_L_55 rq (by decide) rfl (Nat.le_of_ble_eq_true rfl) ⟨Nat.le_of_ble_eq_true rfl, Nat.le_of_ble_eq_true rfl⟩ ⟨(by show cc + 1 ≤ 600002; omega), (by show zz + 6 ≤ 7302232; omega)⟩ dL_law_584 (fun v584 S584 w584 => ?_); obtain ⟨rfl, rfl⟩ := w584; rw [h3])
            refine pq_iload F dL_law_587 rfl ?_
            refine pq_icmp_eq (tgt := 594) F dL_law_589 (by decide) (fun c589 => ?_) (fun c589 => ?_)
            · skip
              refine pq_iload F dL_law_594 rfl ?_
              refine pq_if_ne (tgt := 610) F dL_law_596 (by decide) (fun c596 => ?_) (fun c596 => ?_)
              · skip
                refine pq_goto (tgt := 626) F dL_law_610 (by decide) ?_
                refine pq_iinc (v := 6) F dL_law_626 rfl (by decide) (by decide) ?_
                refine pq_goto (tgt := 23) F dL_law_629 (by decide) ?_
                exact pq_fgm [true, true, true, true, true, false, false, false] (ih _ _ xx rr ou (cc + 1) (zz + 6) ((hF.cm hFh (by decide)).cm hFq (by decide)) xq rq oq (fun z => absurd z (by focus ((try clear hX); (try clear hf); (try clear hY1); (try clear hZ1); (try clear hI0); (try clear hI1); (try clear Zh); (try clear ih); (try clear ph); (try clear pq9); (try clear hEx); (try clear w160); (try clear w216); simp only [vp_in_iff, Int32.lt_iff_toInt_lt, Int32.le_iff_toInt_le, ← Int32.toInt_inj, Int32.toInt_add, Int32.toInt_sub, Int32.toInt_mul, Int32.toInt_neg, pq_NuO, pq_NuI, pq_NuJ, pq_NuR, pq_shr6, pq_shr7, pq_shr8, lqm1, lq0, lq1, lq2, lq3, lq4, lq5, lq6, lq15, lq384] at *; (try simp (disch := omega) only [pq_bm] at *); all_goals omega))) (Or.inr (by focus ((try clear hX); (try clear hf); (try clear hY1); (try clear hZ1); (try clear hI0); (try clear hI1); (try clear Zh); (try clear ih); (try clear ph); (try clear pq9); (try clear hEx); (try clear w160); (try clear w216); simp only [vp_in_iff, Int32.lt_iff_toInt_lt, Int32.le_iff_toInt_le, ← Int32.toInt_inj, Int32.toInt_add, Int32.toInt_sub, Int32.toInt_mul, Int32.toInt_neg, pq_NuO, pq_NuI, pq_NuJ, pq_NuR, pq_shr6, pq_shr7, pq_shr8, lqm1, lq0, lq1, lq2, lq3, lq4, lq5, lq6, lq15, lq384] at *; (try simp (disch := omega) only [pq_bm] at *); all_goals omega))) (by omega) (by omega) (by focus ((try clear hX); (try clear hf); (try clear hY1); (try clear hZ1); (try clear hI0); (try clear hI1); (try clear Zh); (try clear ih); (try clear ph); (try clear pq9); (try clear hEx); (try clear w160); (try clear w216); simp only [vp_in_iff, Int32.lt_iff_toInt_lt, Int32.le_iff_toInt_le, ← Int32.toInt_inj, Int32.toInt_add, Int32.toInt_sub, Int32.toInt_mul, Int32.toInt_neg, pq_NuO, pq_NuI, pq_NuJ, pq_NuR, pq_shr6, pq_shr7, pq_shr8, lqm1, lq0, lq1, lq2, lq3, lq4, lq5, lq6, lq15, lq384] at *; (try simp (disch := omega) only [pq_bm] at *); all_goals omega)))
              · exact absurd c596 (by decide)
            · exact absurd rfl c589
        by_cases c40_8 : sw.toInt = 8
        · refine pq_tabIn (tgt := 613) F dL_law_40 (by omega) (by omega) (by rw [c40_8]; rfl) (by decide) ?_
          refine pq_aload_n F dL_law_613 rfl rfl ?_
          refine pq_callV (As := []) F (k_X10_placeY l D cy _ _ ?_ hY1) ml_L_82 hx1 (by decide) rfl (Nat.le_of_ble_eq_true rfl) ⟨Nat.le_of_ble_eq_true rfl, Nat.le_of_ble_eq_true rfl⟩ ⟨(by show cc + 0 ≤ 600002; omega), (by show zz + 0 ≤ 7302232; omega)⟩ dL_law_614 (fun v614 S614 w614 => ?_)
          · exact hx1
          obtain ⟨u614, y614, rfl, p614⟩ := w614
          rw [u614]
          try rw [u614] at p614
          refine pq_aload_n F dL_law_617 rfl rfl ?_
          refine pq_callV (As := []) F (k_X11_placeF l D cy _ _ ?_ (-1) hZ1.2.1.2.1) ml_L_85 hr1 (by decide) rfl (Nat.le_of_ble_eq_true rfl) ⟨Nat.le_of_ble_eq_true rfl, Nat.le_of_ble_eq_true rfl⟩ ⟨(by show cc + 0 ≤ 600002; omega), (by show zz + 0 ≤ 7302232; omega)⟩ dL_law_618 (fun v618 S618 w618 => ?_)
          · exact hr1
          obtain ⟨hF618, y618, rfl, p618⟩ := w618
          have hx1_618 := (hF618.1 _ _ hx1 (by decide)).1
          have hr1_618 := (hF618.1 _ _ hr1 (by decide)).1
          have ho1_618 := (hF618.1 _ _ ho1 (by decide)).1
          refine pq_icmp_eq (tgt := 626) F dL_law_621 (by decide) (fun c621 => ?_) (fun c621 => ?_)
          · skip
            refine pq_iinc (v := 6) F dL_law_626 rfl (by decide) (by decide) ?_
            refine pq_goto (tgt := 23) F dL_law_629 (by decide) ?_
            exact pq_fgm [true, true, true, true, true, false, false, false] (ih _ _ xx rr ou (cc + 0) (zz + 0) (hF.cm hF618 (by decide)) hx1_618 hr1_618 ho1_618 (fun z => absurd z (by focus ((try clear hX); (try clear hf); (try clear hY1); (try clear hZ1); (try clear hI0); (try clear hI1); (try clear Zh); (try clear ih); (try clear ph); (try clear pq9); (try clear hEx); (try clear w160); (try clear w216); simp only [vp_in_iff, Int32.lt_iff_toInt_lt, Int32.le_iff_toInt_le, ← Int32.toInt_inj, Int32.toInt_add, Int32.toInt_sub, Int32.toInt_mul, Int32.toInt_neg, pq_NuO, pq_NuI, pq_NuJ, pq_NuR, pq_shr6, pq_shr7, pq_shr8, lqm1, lq0, lq1, lq2, lq3, lq4, lq5, lq6, lq15, lq384] at *; (try simp (disch := omega) only [pq_bm] at *); all_goals omega))) (Or.inr (by focus ((try clear hX); (try clear hf); (try clear hY1); (try clear hZ1); (try clear hI0); (try clear hI1); (try clear Zh); (try clear ih); (try clear ph); (try clear pq9); (try clear hEx); (try clear w160); (try clear w216); simp only [vp_in_iff, Int32.lt_iff_toInt_lt, Int32.le_iff_toInt_le, ← Int32.toInt_inj, Int32.toInt_add, Int32.toInt_sub, Int32.toInt_mul, Int32.toInt_neg, pq_NuO, pq_NuI, pq_NuJ, pq_NuR, pq_shr6, pq_shr7, pq_shr8, lqm1, lq0, lq1, lq2, lq3, lq4, lq5, lq6, lq15, lq384] at *; (try simp (disch := omega) only [pq_bm] at *); all_goals omega))) (by omega) (by omega) (by focus ((try clear hX); (try clear hf); (try clear hY1); (try clear hZ1); (try clear hI0); (try clear hI1); (try clear Zh); (try clear ih); (try clear ph); (try clear pq9); (try clear hEx); (try clear w160); (try clear w216); simp only [vp_in_iff, Int32.lt_iff_toInt_lt, Int32.le_iff_toInt_le, ← Int32.toInt_inj, Int32.toInt_add, Int32.toInt_sub, Int32.toInt_mul, Int32.toInt_neg, pq_NuO, pq_NuI, pq_NuJ, pq_NuR, pq_shr6, pq_shr7, pq_shr8, lqm1, lq0, lq1, lq2, lq3, lq4, lq5, lq6, lq15, lq384] at *; (try simp (disch := omega) only [pq_bm] at *); all_goals omega)))
          · exact absurd (p614.trans p618.1.symm) c621
        exact (by exfalso; omega)
  refine pq_newO F nw_L_8 (by decide) (fun _ => rfl) (Nat.le_of_ble_eq_true rfl) (Nat.le_of_ble_eq_true rfl) dL_law_0 (fun q0 nq0 h0 => ?_)
  refine pq_dup F dL_law_3 rfl ?_
  refine pq_callI (As := []) F (k_X10_initF l D cy _ _ ?_) ml_L_45 (Nat.le_of_ble_eq_true rfl) ⟨Nat.le_of_ble_eq_true rfl, Nat.le_of_ble_eq_true rfl⟩ ⟨Nat.le_of_ble_eq_true rfl, Nat.le_of_ble_eq_true rfl⟩ dL_law_4 (fun v4 S4 w4 => ?_)
  · exact h0
  obtain ⟨rfl, hG4, hy4, p4⟩ := w4
  refine pq_astore_n F dL_law_7 rfl (by decide) ?_
  refine pq_newO F nw_L_46 (by decide) (fun _ => rfl) (Nat.le_of_ble_eq_true rfl) (Nat.le_of_ble_eq_true rfl) dL_law_8 (fun q8 nq8 h8 => ?_)
  have hy4_8 := pq_nR (r := 74) (n := 0) (ds := (fun k => defaultValue (tyX11 k))) nq8 hy4
  refine pq_dup F dL_law_11 rfl ?_
  refine pq_callI (As := []) F (k_X11_initF l D cy _ _ ?_ (pq_nwO.trans rfl) (pq_nwO.trans rfl) (pq_nwO.trans rfl) (pq_nwO.trans rfl) (pq_nwO.trans rfl) (pq_nwO.trans rfl) (pq_nwO.trans rfl) (pq_nwO.trans rfl) (pq_nwO.trans rfl) (pq_nwO.trans rfl) (pq_nwO.trans rfl) (pq_nwO.trans rfl) (pq_nwO.trans rfl) (pq_nwO.trans rfl)) ml_L_48 (Nat.le_of_ble_eq_true rfl) ⟨Nat.le_of_ble_eq_true rfl, Nat.le_of_ble_eq_true rfl⟩ ⟨Nat.le_of_ble_eq_true rfl, Nat.le_of_ble_eq_true rfl⟩ dL_law_12 (fun v12 S12 w12 => ?_)
  · exact h8
  obtain ⟨rfl, hF12, p12⟩ := w12
  have pr12 := p12.1
  have hy4_12 := (hF12.1 _ _ hy4_8 (by decide)).1
  obtain ⟨-, en, le, si, st, ao, aa, xz, Z12⟩ := p12
  refine pq_astore_n F dL_law_15 rfl (by decide) ?_
  refine pq_iconst (v := 1) F dL_law_16 (by decide) ?_
  refine pq_newJ F (r := 186) (n := 1) (by decide) (by decide) ac_long rfl (by decide) (by decide) rfl (by decide) (Nat.le_of_ble_eq_true rfl) (Nat.le_of_ble_eq_true rfl) (Nat.le_of_ble_eq_true rfl) dL_law_17 (fun q17 nq17 h17 => ?_)
  have hy4_17 := pq_nR (r := 186) (n := 1) (ds := (fun _ => Value.null)) nq17 hy4_12
  have pr12_17 := pq_nR (r := 186) (n := 1) (ds := (fun _ => Value.null)) nq17 pr12
  refine pq_astore_n F dL_law_19 rfl (by decide) ?_
  refine pq_iconst (v := 0) F dL_law_20 (by decide) ?_
  refine pq_istore F dL_law_21 (by decide) ?_
  exact pq_fgm [true, true, true, true, true, false, false, false] (L23 1000 _ 0 q0 q8 q17 _ _ ((((pq_Fr.rf.gn nq0 hG4).nw nq8).cm hF12 (by decide)).nw nq17) hy4_17 pr12_17 h17 (fun _ => ⟨(by exact pq_nN), (by exact p4.fr ((((pq_Fr.rf (M := [(200, 0), (122, 0), (123, 0), (124, 0), (14, 10), (14, 4), (14, 5), (14, 6), (120, 0), (121, 0), (14, 9), (131, 0), (14, 20), (182, 0), (132, 0), (14, 23), (14, 24), (127, 0), (128, 0), (14, 26), (14, 31), (125, 0), (126, 0), (183, 0), (201, 0), (133, 0), (134, 0), (135, 0), (14, 36), (137, 0), (202, 0), (136, 0)])).nw nq8).cm hF12 (by decide)).nw nq17) (by decide)), en, le, si, st, ao, aa, xz, (by exact Z12.fr pr12 ((pq_Fr.rf (M := [])).nw nq17) (by decide))⟩) (Or.inl ⟨rfl, (by decide), (by decide)⟩) (by decide) (by decide) (by decide))

