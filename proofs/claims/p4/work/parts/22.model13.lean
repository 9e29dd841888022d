/-- a chain of jumps that wait, from j down, none below lo -/
def pq_cn (lo : Int) (f : Nat → Int32) : Nat → Int32 → Prop
  | 0, j => j = -1
  | n + 1, j => j = -1 ∨ (0 ≤ j.toInt ∧ lo ≤ j.toInt ∧ (f j.toNatClampNeg).toInt < j.toInt ∧ pq_cn lo f n (f j.toNatClampNeg))
theorem pq_cn_upd {lo : Int} {f : Nat → Int32} {t : Nat} {v : Int32} : ∀ (n : Nat) (j : Int32), j.toInt < (t : Int) → pq_cn lo f n j → pq_cn lo (upd f t v) n j
  | 0, j, _, h => h
  | n + 1, j, hj, h => by
    rcases h with h | ⟨h0, h1, h2, h3⟩
    · exact Or.inl h
    · have cj := pq_cl h0
      have e : j.toNatClampNeg ≠ t := by omega
      refine Or.inr ⟨h0, h1, ?_, ?_⟩
      · rw [pk_un e]; exact h2
      · rw [pk_un e]; exact pq_cn_upd n _ (by omega) h3

set_option maxHeartbeats 4000000 in
set_option maxRecDepth 100000 in
theorem k_X11_land (l : Launch) (D : va_G) (cy : Nat → ClassId) (S : HS) (a : Nat) (ha : pq_R S a 14) (aa ac mn nn : Nat) (lo : Int) (y dp : Int32) (e5 : hO S a 5 = .ref aa) (haa : pq_R S aa 121) (e6 : hO S a 6 = .int y) (hy : y.toInt = (mn : Int)) (hmn : mn ≤ 8192) (hle : mn ≤ hN S aa) (e15 : hO S a 15 = .ref ac) (hac : pq_R S ac 124) (hd0 : 0 ≤ dp.toInt) (hd1 : dp.toInt ≤ 40) (hjn : (hI S ac dp.toNatClampNeg).toInt < (mn : Int)) (hcn : pq_cn lo (hI S aa) nn (hI S ac dp.toNatClampNeg)) : pq_C l D cy yX11_land cX11_land 4 (none) 1 0 0 S [.ref a, .int dp] (fun v S2 => v = none ∧ pq_Fr [(121, 0)] S S2 ∧ (∀ i : Nat, hI S2 aa i = hI S aa i ∨ (i < mn ∧ (i : Int) + (hI S2 aa i).toInt = (mn : Int))) ∧ ∀ i : Nat, (i : Int) < lo → hI S2 aa i = hI S aa i) := by
  refine pq_start (by decide) (Nat.le_of_ble_eq_true rfl) ?_
  intro p e s m args below meth c A F hr hlk hnm hA
  have qm1 : (-1 : Int32).toInt = -1 := rfl
  have q0 : (0 : Int32).toInt = 0 := rfl
  have q1 : (1 : Int32).toInt = 1 := rfl
  have L7 : ∀  (fu : Nat) (S1 : HS) (j : Int32) (qn : Nat) (hF : pq_Fr [(121, 0)] S S1) (hj1 : j.toInt < (mn : Int)) (hcj : pq_cn lo (hI S1 aa) qn j) (hkp : ∀ i : Nat, hI S1 aa i = hI S aa i ∨ (i < mn ∧ (i : Int) + (hI S1 aa i).toInt = (mn : Int))) (hlw : ∀ i : Nat, (i : Int) < lo → hI S1 aa i = hI S aa i), qn < fu → pq_At p l e (pq_rm 1 0 0) s m args below meth c (pq_Z below args s D cy S 0 0 (fun v S2 => v = none ∧ pq_Fr [(121, 0)] S S2 ∧ (∀ i : Nat, hI S2 aa i = hI S aa i ∨ (i < mn ∧ (i : Int) + (hI S2 aa i).toInt = (mn : Int))) ∧ ∀ i : Nat, (i : Int) < lo → hI S2 aa i = hI S aa i)) D cy A 4 0 0 7 S1 [some (.ref a), some (.int dp), some (.int j), none] [] := by
    intro  fu
    induction fu with
    | zero => intro S1 j qn hF hj1 hcj hkp hlw hm; exact absurd hm (Nat.not_lt_zero _)
    | succ fu ih =>
      intro S1 j qn hF hj1 hcj hkp hlw hm
      have ha1 := hF.R ha (by decide)
      have haa1 := hF.R haa (by decide)
      have e5a := hF.O ha (by decide) (by decide) e5
      have e6a := hF.O ha (by decide) (by decide) e6
      have hl1 : mn ≤ hN S1 aa := (by rw [(hF.1 aa 121 haa (by decide)).2]; exact hle)
      refine pq_iload_n F dX11_land_7 rfl rfl ?_
      refine pq_iconst (v := -1) F dX11_land_8 (by decide) ?_
      refine pq_icmp_eq (tgt := 36) F dX11_land_9 (by decide) (fun c9 => ?_) (fun c9 => ?_)
      · skip
        exact pq_vret F hr hlk hA (Nat.le_refl _) (Nat.le_refl _) (⟨rfl, hF, hkp, hlw⟩) dX11_land_36
      · skip
        obtain ⟨kq, rfl⟩ : ∃ kq, qn = kq + 1 := (by cases qn with | zero => exact absurd hcj c9 | succ k => exact ⟨k, rfl⟩)
        obtain ⟨g0, g1, g2, g3⟩ := hcj.resolve_left c9
        have cj := pq_cl g0
        refine pq_aload_n F dX11_land_12 rfl rfl ?_
        refine pq_get F ha1 (by decide) lk_X11_20 e5a dX11_land_13 ?_
        refine pq_iload_n F dX11_land_16 rfl rfl ?_
        refine pq_iald F haa1 (by decide) (by decide) rfl (fun n1_17 n2_17 => (by (try clear hkp); (try clear hlw); (try clear hcj); (try clear ih); (try clear hcn); simp only [vp_in_iff, Int32.lt_iff_toInt_lt, Int32.le_iff_toInt_le, ← Int32.toInt_inj, Int32.toInt_add, Int32.toInt_sub, Int32.toInt_mul, Int32.toInt_neg, pq_NuO, pq_NuI, pq_NuJ, qm1, q0, q1] at *; (try simp (disch := omega) only [pq_bm] at *); all_goals omega)) dX11_land_17 (fun x17 e17 l17 u17 => ?_)
        refine pq_istore_n F dX11_land_18 rfl (by decide) ?_
        refine pq_aload_n F dX11_land_19 rfl rfl ?_
        refine pq_get F ha1 (by decide) lk_X11_20 e5a dX11_land_20 ?_
        refine pq_iload_n F dX11_land_23 rfl rfl ?_
        refine pq_aload_n F dX11_land_24 rfl rfl ?_
        refine pq_get F ha1 (by decide) lk_X11_7 e6a dX11_land_25 ?_
        refine pq_iload_n F dX11_land_28 rfl rfl ?_
        refine pq_isub F dX11_land_29 ?_
        refine pq_iast F haa1 (by decide) (by decide) rfl (fun n1_30 n2_30 => (by (try clear hkp); (try clear hlw); (try clear hcj); (try clear ih); (try clear hcn); simp only [vp_in_iff, Int32.lt_iff_toInt_lt, Int32.le_iff_toInt_le, ← Int32.toInt_inj, Int32.toInt_add, Int32.toInt_sub, Int32.toInt_mul, Int32.toInt_neg, pq_NuO, pq_NuI, pq_NuJ, qm1, q0, q1] at *; (try simp (disch := omega) only [pq_bm] at *); all_goals omega)) (⟨pq_any1 _, pq_any2 _⟩) dX11_land_30 ?_
        have iu : hI (pq_uI S1 aa (upd (hI S1 aa) j.toNatClampNeg (y - j))) aa = upd (hI S1 aa) j.toNatClampNeg (y - j) := pq_Ia
        have hyj : (y - j).toInt = (mn : Int) - j.toInt := (by (try clear hkp); (try clear hlw); (try clear hcj); (try clear ih); (try clear hcn); simp only [vp_in_iff, Int32.lt_iff_toInt_lt, Int32.le_iff_toInt_le, ← Int32.toInt_inj, Int32.toInt_add, Int32.toInt_sub, Int32.toInt_mul, Int32.toInt_neg, pq_NuO, pq_NuI, pq_NuJ, qm1, q0, q1] at *; (try simp (disch := omega) only [pq_bm] at *); all_goals omega)
        rw [← e17] at g2 g3
        refine pq_iload_n F dX11_land_31 rfl rfl ?_
        refine pq_istore_n F dX11_land_32 rfl (by decide) ?_
        refine pq_goto (tgt := 7) F dX11_land_33 (by decide) ?_
        exact pq_fg (ih _ x17 kq (hF.uI haa1 (by decide)) (by omega) (by rw [iu]; exact pq_cn_upd kq _ (by omega) g3) (fun i => by rw [iu]; by_cases e9 : i = j.toNatClampNeg; (right; rw [e9, pk_us, hyj]; exact ⟨by omega, by omega⟩); (rw [pk_un e9]; exact hkp i)) (fun i hi => by rw [iu, pk_un (by omega)]; exact hlw i hi) (Nat.lt_of_succ_lt_succ hm)) (by repeat' (first | exact rfl | exact trivial | constructor))
  refine pq_aload_n F dX11_land_0 rfl rfl ?_
  refine pq_get F ha (by decide) lk_X11_78 e15 dX11_land_1 ?_
  refine pq_iload_n F dX11_land_4 rfl rfl ?_
  refine pq_iald F hac (by decide) (by decide) rfl (fun n1_5 n2_5 => (by (try clear hkp); (try clear hlw); (try clear hcj); (try clear ih); (try clear hcn); simp only [vp_in_iff, Int32.lt_iff_toInt_lt, Int32.le_iff_toInt_le, ← Int32.toInt_inj, Int32.toInt_add, Int32.toInt_sub, Int32.toInt_mul, Int32.toInt_neg, pq_NuO, pq_NuI, pq_NuJ, qm1, q0, q1] at *; (try simp (disch := omega) only [pq_bm] at *); all_goals omega)) dX11_land_5 (fun x5 e5x l5 u5 => ?_)
  refine pq_istore_n F dX11_land_6 rfl (by decide) ?_
  exact pq_fg (L7 (nn + 1) _ x5 nn pq_Fr.rf (by rw [e5x]; exact hjn) (by rw [e5x]; exact hcn) (fun i => Or.inl rfl) (fun i _ => rfl) (Nat.lt_succ_self _)) (by repeat' (first | exact rfl | exact trivial | constructor))

