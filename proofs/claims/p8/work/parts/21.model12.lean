theorem pq_sh {f fo : Nat → Int32} {k mn : Nat} (hk : 0 < k) (hlo : ∀ i, i < k → f i = fo i) (hhi : ∀ i, k ≤ i → i < mn → f (i + 1) = fo i) : (∀ i, i < k - 1 → upd f k (f (k - 1)) i = fo i) ∧ ∀ i, k - 1 ≤ i → i < mn → upd f k (f (k - 1)) (i + 1) = fo i := by
  refine ⟨fun i hi => ?_, fun i hi him => ?_⟩
  · rw [pk_un (by omega)]; exact hlo i (by omega)
  · by_cases e : i + 1 = k
    · rw [e, pk_us, show k - 1 = i by omega]; exact hlo i (by omega)
    · rw [pk_un e]; exact hhi i (by omega) him
theorem pq_sh2 {f fo : Nat → Int32} {k mn : Nat} {w : Int32} (hlo : ∀ i, i < k → f i = fo i) (hhi : ∀ i, k ≤ i → i < mn → f (i + 1) = fo i) : (∀ i, i < k → upd f k w i = fo i) ∧ upd f k w k = w ∧ ∀ i, k ≤ i → i < mn → upd f k w (i + 1) = fo i := by
  refine ⟨fun i hi => ?_, pk_us, fun i hi him => ?_⟩
  · rw [pk_un (by omega)]; exact hlo i hi
  · rw [pk_un (by omega)]; exact hhi i hi him

set_option maxHeartbeats 4000000 in
set_option maxRecDepth 100000 in
theorem k_X11_insert (l : Launch) (D : va_G) (cy : Nat → ClassId) (S : HS) (a : Nat) (ha : pq_R S a 14) (mc ms ao aa mn : Nat) (y : Int32) (e4 : hO S a 4 = .ref ao) (hao : pq_R S ao 120) (e5 : hO S a 5 = .ref aa) (haa : pq_R S aa 121) (e6 : hO S a 6 = .int y) (hy : y.toInt = (mn : Int)) (hmn : mn ≤ 8191) (hsame : hN S aa = hN S ao) (hle : mn ≤ hN S ao) (hmc : ¬ mn < hN S ao → 2 ≤ mc ∧ 4 * mn ≤ ms) (at0 wh av : Int32) (an : Nat) (hp0 : at0.toInt = (an : Int)) (hp1 : an ≤ mn) : pq_C l D cy yX11_insert cX11_insert 5 (none) 4 mc ms S [.ref a, .int at0, .int wh, .int av] (fun v S2 => v = none ∧ pq_Fr [(14, 4), (14, 5), (14, 6), (120, 0), (121, 0)] S S2 ∧ ∃ (o2 a2 : Nat) (y2 : Int32), hO S2 a 4 = .ref o2 ∧ pq_R S2 o2 120 ∧ hO S2 a 5 = .ref a2 ∧ pq_R S2 a2 121 ∧ hO S2 a 6 = .int y2 ∧ y2.toInt = (mn : Int) + 1 ∧ hN S2 a2 = hN S2 o2 ∧ mn + 1 ≤ hN S2 o2 ∧ hN S2 o2 = (if mn < hN S ao then hN S ao else 2 * mn) ∧ (∀ i : Nat, i < an → hI S2 o2 i = hI S ao i ∧ hI S2 a2 i = hI S aa i) ∧ hI S2 o2 an = wh ∧ hI S2 a2 an = av ∧ (∀ i : Nat, an ≤ i → i < mn → hI S2 o2 (i + 1) = hI S ao i ∧ hI S2 a2 (i + 1) = hI S aa i)) := by
  refine pq_start (by decide) (Nat.le_of_ble_eq_true rfl) ?_
  intro p e s m args below meth c A F hr hlk hnm hA
  have qm1 : (-1 : Int32).toInt = -1 := rfl
  have q0 : (0 : Int32).toInt = 0 := rfl
  have q1 : (1 : Int32).toInt = 1 := rfl
  have L10 : ∀ (o2 a2 : Nat) (fu : Nat) (S3 : HS) (k : Int32) (kn : Nat) (hF : pq_Fr [(14, 4), (14, 5), (14, 6), (120, 0), (121, 0)] S S3) (h4 : hO S3 a 4 = .ref o2) (ho : pq_R S3 o2 120) (h5 : hO S3 a 5 = .ref a2) (h2 : pq_R S3 a2 121) (h6 : hO S3 a 6 = .int y) (hs : hN S3 a2 = hN S3 o2) (hl : mn < hN S3 o2) (hl3 : hN S3 o2 = (if mn < hN S ao then hN S ao else 2 * mn)) (hkn : k.toInt = (kn : Int)) (hk0 : an ≤ kn) (hk1 : kn ≤ mn) (hlo : ∀ i : Nat, i < kn → hI S3 o2 i = hI S ao i) (hhi : ∀ i : Nat, kn ≤ i → i < mn → hI S3 o2 (i + 1) = hI S ao i) (hla : ∀ i : Nat, i < kn → hI S3 a2 i = hI S aa i) (hha : ∀ i : Nat, kn ≤ i → i < mn → hI S3 a2 (i + 1) = hI S aa i), kn < fu → pq_At p l e (pq_rm 4 mc ms) s m args below meth c (pq_Z below args s D cy S mc ms (fun v S2 => v = none ∧ pq_Fr [(14, 4), (14, 5), (14, 6), (120, 0), (121, 0)] S S2 ∧ ∃ (o2 a2 : Nat) (y2 : Int32), hO S2 a 4 = .ref o2 ∧ pq_R S2 o2 120 ∧ hO S2 a 5 = .ref a2 ∧ pq_R S2 a2 121 ∧ hO S2 a 6 = .int y2 ∧ y2.toInt = (mn : Int) + 1 ∧ hN S2 a2 = hN S2 o2 ∧ mn + 1 ≤ hN S2 o2 ∧ hN S2 o2 = (if mn < hN S ao then hN S ao else 2 * mn) ∧ (∀ i : Nat, i < an → hI S2 o2 i = hI S ao i ∧ hI S2 a2 i = hI S aa i) ∧ hI S2 o2 an = wh ∧ hI S2 a2 an = av ∧ (∀ i : Nat, an ≤ i → i < mn → hI S2 o2 (i + 1) = hI S ao i ∧ hI S2 a2 (i + 1) = hI S aa i))) D cy A 5 (0 + mc) (0 + ms) 10 S3 [some (.ref a), some (.int at0), some (.int wh), some (.int av), some (.int k)] [] := by
    intro o2 a2 fu
    induction fu with
    | zero => intro S3 k kn hF h4 ho h5 h2 h6 hs hl hl3 hkn hk0 hk1 hlo hhi hla hha hm; exact absurd hm (Nat.not_lt_zero _)
    | succ fu ih =>
      intro S3 k kn hF h4 ho h5 h2 h6 hs hl hl3 hkn hk0 hk1 hlo hhi hla hha hm
      have ha3 := hF.R ha (by decide)
      refine pq_iload F dX11_insert_10 rfl ?_
      refine pq_iload_n F dX11_insert_12 rfl rfl ?_
      refine pq_icmp_le (tgt := 54) F dX11_insert_13 (by decide) (fun c13 => ?_) (fun c13 => ?_)
      · skip
        have hka : kn = an := (by (try clear hlo); (try clear hhi); (try clear hla); (try clear hha); (try clear hc2); (try clear ih); (try clear hl3); (try clear hmc); (try clear io1); (try clear ia1); (try clear io2); (try clear ia2); (try clear e30); (try clear e46); (try clear e46b); (try clear sh1); (try clear sh2); (try clear io3); (try clear ia3); (try clear io4); (try clear ia4); simp only [vp_in_iff, Int32.lt_iff_toInt_lt, Int32.le_iff_toInt_le, ← Int32.toInt_inj, Int32.toInt_add, Int32.toInt_sub, Int32.toInt_mul, Int32.toInt_neg, pq_NuO, pq_NuI, pq_NuJ, qm1, q0, q1] at *; (try simp (disch := omega) only [pq_bm] at *); all_goals omega)
        have ckk : at0.toNatClampNeg = an := (by have := pq_cl (x := at0) (by (try clear hlo); (try clear hhi); (try clear hla); (try clear hha); (try clear hc2); (try clear ih); (try clear hl3); (try clear hmc); (try clear io1); (try clear ia1); (try clear io2); (try clear ia2); (try clear e30); (try clear e46); (try clear e46b); (try clear sh1); (try clear sh2); (try clear io3); (try clear ia3); (try clear io4); (try clear ia4); simp only [vp_in_iff, Int32.lt_iff_toInt_lt, Int32.le_iff_toInt_le, ← Int32.toInt_inj, Int32.toInt_add, Int32.toInt_sub, Int32.toInt_mul, Int32.toInt_neg, pq_NuO, pq_NuI, pq_NuJ, qm1, q0, q1] at *; (try simp (disch := omega) only [pq_bm] at *); all_goals omega); clear ih hlo hhi hla hha hl3 hmc; omega)
        refine pq_aload_n F dX11_insert_54 rfl rfl ?_
        refine pq_get F ha3 (by decide) lk_X11_10 h4 dX11_insert_55 ?_
        refine pq_iload_n F dX11_insert_58 rfl rfl ?_
        refine pq_iload_n F dX11_insert_59 rfl rfl ?_
        refine pq_iast F ho (by decide) (by decide) rfl (fun n1_60 n2_60 => (by (try clear hlo); (try clear hhi); (try clear hla); (try clear hha); (try clear hc2); (try clear ih); (try clear hl3); (try clear hmc); (try clear io1); (try clear ia1); (try clear io2); (try clear ia2); (try clear e30); (try clear e46); (try clear e46b); (try clear sh1); (try clear sh2); (try clear io3); (try clear ia3); (try clear io4); (try clear ia4); simp only [vp_in_iff, Int32.lt_iff_toInt_lt, Int32.le_iff_toInt_le, ← Int32.toInt_inj, Int32.toInt_add, Int32.toInt_sub, Int32.toInt_mul, Int32.toInt_neg, pq_NuO, pq_NuI, pq_NuJ, qm1, q0, q1] at *; (try simp (disch := omega) only [pq_bm] at *); all_goals omega)) (⟨pq_any1 _, pq_any2 _⟩) dX11_insert_60 ?_
        refine pq_aload_n F dX11_insert_61 rfl rfl ?_
        refine pq_get F ha3 (by decide) lk_X11_20 h5 dX11_insert_62 ?_
        refine pq_iload_n F dX11_insert_65 rfl rfl ?_
        refine pq_iload_n F dX11_insert_66 rfl rfl ?_
        refine pq_iast F h2 (by decide) (by decide) rfl (fun n1_67 n2_67 => (by (try clear hlo); (try clear hhi); (try clear hla); (try clear hha); (try clear hc2); (try clear ih); (try clear hl3); (try clear hmc); (try clear io1); (try clear ia1); (try clear io2); (try clear ia2); (try clear e30); (try clear e46); (try clear e46b); (try clear sh1); (try clear sh2); (try clear io3); (try clear ia3); (try clear io4); (try clear ia4); simp only [vp_in_iff, Int32.lt_iff_toInt_lt, Int32.le_iff_toInt_le, ← Int32.toInt_inj, Int32.toInt_add, Int32.toInt_sub, Int32.toInt_mul, Int32.toInt_neg, pq_NuO, pq_NuI, pq_NuJ, qm1, q0, q1] at *; (try simp (disch := omega) only [pq_bm] at *); all_goals omega)) (⟨pq_any1 _, pq_any2 _⟩) dX11_insert_67 ?_
        have io2 : hI (pq_uI (pq_uI S3 o2 (upd (hI S3 o2) at0.toNatClampNeg wh)) a2 (upd (hI (pq_uI S3 o2 (upd (hI S3 o2) at0.toNatClampNeg wh)) a2) at0.toNatClampNeg av)) o2 = upd (hI S3 o2) at0.toNatClampNeg wh := (pq_Ib (S := pq_uI S3 o2 _) (rb := 120) (ra := 121) ho h2 (by decide)).trans pq_Ia
        have ia2 : hI (pq_uI (pq_uI S3 o2 (upd (hI S3 o2) at0.toNatClampNeg wh)) a2 (upd (hI (pq_uI S3 o2 (upd (hI S3 o2) at0.toNatClampNeg wh)) a2) at0.toNatClampNeg av)) a2 = upd (hI S3 a2) at0.toNatClampNeg av := pq_Ia.trans (by rw [pq_Ib (S := S3) (rb := 121) (ra := 120) h2 ho (by decide)])
        have io4 := io2.trans (show _ = upd (hI S3 o2) an wh by rw [ckk])
        have ia4 := ia2.trans (show _ = upd (hI S3 a2) an av by rw [ckk])
        rw [hka] at hlo hhi hla hha
        have sh1 := pq_sh2 (w := wh) hlo hhi
        have sh2 := pq_sh2 (w := av) hla hha
        rw [← io4] at sh1
        rw [← ia4] at sh2
        refine pq_aload_n F dX11_insert_68 rfl rfl ?_
        refine pq_dup F dX11_insert_69 rfl ?_
        refine pq_get F ha3 (by decide) lk_X11_7 h6 dX11_insert_70 ?_
        refine pq_iconst (v := 1) F dX11_insert_73 (by decide) ?_
        refine pq_iadd F dX11_insert_74 ?_
        refine pq_putI F ha3 (by decide) lp_X11_7 rfl (by (try clear hlo); (try clear hhi); (try clear hla); (try clear hha); (try clear hc2); (try clear ih); (try clear hl3); (try clear hmc); (try clear io1); (try clear ia1); (try clear io2); (try clear ia2); (try clear e30); (try clear e46); (try clear e46b); (try clear sh1); (try clear sh2); (try clear io3); (try clear ia3); (try clear io4); (try clear ia4); simp only [vp_in_iff, Int32.lt_iff_toInt_lt, Int32.le_iff_toInt_le, ← Int32.toInt_inj, Int32.toInt_add, Int32.toInt_sub, Int32.toInt_mul, Int32.toInt_neg, pq_NuO, pq_NuI, pq_NuJ, qm1, q0, q1] at *; (try simp (disch := omega) only [pq_bm] at *); all_goals omega) (by (try clear hlo); (try clear hhi); (try clear hla); (try clear hha); (try clear hc2); (try clear ih); (try clear hl3); (try clear hmc); (try clear io1); (try clear ia1); (try clear io2); (try clear ia2); (try clear e30); (try clear e46); (try clear e46b); (try clear sh1); (try clear sh2); (try clear io3); (try clear ia3); (try clear io4); (try clear ia4); simp only [vp_in_iff, Int32.lt_iff_toInt_lt, Int32.le_iff_toInt_le, ← Int32.toInt_inj, Int32.toInt_add, Int32.toInt_sub, Int32.toInt_mul, Int32.toInt_neg, pq_NuO, pq_NuI, pq_NuJ, qm1, q0, q1] at *; (try simp (disch := omega) only [pq_bm] at *); all_goals omega) dX11_insert_75 ?_
        exact pq_vret F hr hlk hA (by show 0 + mc ≤ mc; omega) (by show 0 + ms ≤ ms; omega) (⟨rfl, (((hF.uI ho (by decide)).uI h2 (by decide)).uO ha3 (by decide)), o2, a2, y + 1, pq_kp h4 (by decide), ho, pq_kp h5 (by decide), h2, pq_ks, by (try clear hlo); (try clear hhi); (try clear hla); (try clear hha); (try clear hc2); (try clear ih); (try clear hl3); (try clear hmc); (try clear io1); (try clear ia1); (try clear io2); (try clear ia2); (try clear e30); (try clear e46); (try clear e46b); (try clear sh1); (try clear sh2); (try clear io3); (try clear ia3); (try clear io4); (try clear ia4); simp only [vp_in_iff, Int32.lt_iff_toInt_lt, Int32.le_iff_toInt_le, ← Int32.toInt_inj, Int32.toInt_add, Int32.toInt_sub, Int32.toInt_mul, Int32.toInt_neg, pq_NuO, pq_NuI, pq_NuJ, qm1, q0, q1] at *; (try simp (disch := omega) only [pq_bm] at *); all_goals omega, hs, by show mn + 1 ≤ hN S3 o2; omega, hl3, fun i hi => ⟨sh1.1 i hi, sh2.1 i hi⟩, sh1.2.1, sh2.2.1, fun i hi him => ⟨sh1.2.2 i hi him, sh2.2.2 i hi him⟩⟩) dX11_insert_78
      · skip
        have hkp : an < kn := (by (try clear hlo); (try clear hhi); (try clear hla); (try clear hha); (try clear hc2); (try clear ih); (try clear hl3); (try clear hmc); (try clear io1); (try clear ia1); (try clear io2); (try clear ia2); (try clear e30); (try clear e46); (try clear e46b); (try clear sh1); (try clear sh2); (try clear io3); (try clear ia3); (try clear io4); (try clear ia4); simp only [vp_in_iff, Int32.lt_iff_toInt_lt, Int32.le_iff_toInt_le, ← Int32.toInt_inj, Int32.toInt_add, Int32.toInt_sub, Int32.toInt_mul, Int32.toInt_neg, pq_NuO, pq_NuI, pq_NuJ, qm1, q0, q1] at *; (try simp (disch := omega) only [pq_bm] at *); all_goals omega)
        have ckk : k.toNatClampNeg = kn := (by have := pq_cl (x := k) (by (try clear hlo); (try clear hhi); (try clear hla); (try clear hha); (try clear hc2); (try clear ih); (try clear hl3); (try clear hmc); (try clear io1); (try clear ia1); (try clear io2); (try clear ia2); (try clear e30); (try clear e46); (try clear e46b); (try clear sh1); (try clear sh2); (try clear io3); (try clear ia3); (try clear io4); (try clear ia4); simp only [vp_in_iff, Int32.lt_iff_toInt_lt, Int32.le_iff_toInt_le, ← Int32.toInt_inj, Int32.toInt_add, Int32.toInt_sub, Int32.toInt_mul, Int32.toInt_neg, pq_NuO, pq_NuI, pq_NuJ, qm1, q0, q1] at *; (try simp (disch := omega) only [pq_bm] at *); all_goals omega); clear ih hlo hhi hla hha hl3 hmc; omega)
        have hk8 : (k - 1).toInt = k.toInt - 1 := (by (try clear hlo); (try clear hhi); (try clear hla); (try clear hha); (try clear hc2); (try clear ih); (try clear hl3); (try clear hmc); (try clear io1); (try clear ia1); (try clear io2); (try clear ia2); (try clear e30); (try clear e46); (try clear e46b); (try clear sh1); (try clear sh2); (try clear io3); (try clear ia3); (try clear io4); (try clear ia4); simp only [vp_in_iff, Int32.lt_iff_toInt_lt, Int32.le_iff_toInt_le, ← Int32.toInt_inj, Int32.toInt_add, Int32.toInt_sub, Int32.toInt_mul, Int32.toInt_neg, pq_NuO, pq_NuI, pq_NuJ, qm1, q0, q1] at *; (try simp (disch := omega) only [pq_bm] at *); all_goals omega)
        have ck1 : (k - 1).toNatClampNeg = kn - 1 := (by have := pq_cl (x := k - 1) (by (try clear hlo); (try clear hhi); (try clear hla); (try clear hha); (try clear hc2); (try clear ih); (try clear hl3); (try clear hmc); (try clear io1); (try clear ia1); (try clear io2); (try clear ia2); (try clear e30); (try clear e46); (try clear e46b); (try clear sh1); (try clear sh2); (try clear io3); (try clear ia3); (try clear io4); (try clear ia4); simp only [vp_in_iff, Int32.lt_iff_toInt_lt, Int32.le_iff_toInt_le, ← Int32.toInt_inj, Int32.toInt_add, Int32.toInt_sub, Int32.toInt_mul, Int32.toInt_neg, pq_NuO, pq_NuI, pq_NuJ, qm1, q0, q1] at *; (try simp (disch := omega) only [pq_bm] at *); all_goals omega); clear ih hlo hhi hla hha hl3 hmc; omega)
        refine pq_aload_n F dX11_insert_16 rfl rfl ?_
        refine pq_get F ha3 (by decide) lk_X11_10 h4 dX11_insert_17 ?_
        refine pq_iload F dX11_insert_20 rfl ?_
        refine pq_aload_n F dX11_insert_22 rfl rfl ?_
        refine pq_get F ha3 (by decide) lk_X11_10 h4 dX11_insert_23 ?_
        refine pq_iload F dX11_insert_26 rfl ?_
        refine pq_iconst (v := 1) F dX11_insert_28 (by decide) ?_
        refine pq_isub F dX11_insert_29 ?_
        refine pq_iald F ho (by decide) (by decide) rfl (fun n1_30 n2_30 => (by (try clear hlo); (try clear hhi); (try clear hla); (try clear hha); (try clear hc2); (try clear ih); (try clear hl3); (try clear hmc); (try clear io1); (try clear ia1); (try clear io2); (try clear ia2); (try clear e30); (try clear e46); (try clear e46b); (try clear sh1); (try clear sh2); (try clear io3); (try clear ia3); (try clear io4); (try clear ia4); simp only [vp_in_iff, Int32.lt_iff_toInt_lt, Int32.le_iff_toInt_le, ← Int32.toInt_inj, Int32.toInt_add, Int32.toInt_sub, Int32.toInt_mul, Int32.toInt_neg, pq_NuO, pq_NuI, pq_NuJ, qm1, q0, q1] at *; (try simp (disch := omega) only [pq_bm] at *); all_goals omega)) dX11_insert_30 (fun x30 e30 l30 u30 => ?_)
        refine pq_iast F ho (by decide) (by decide) rfl (fun n1_31 n2_31 => (by (try clear hlo); (try clear hhi); (try clear hla); (try clear hha); (try clear hc2); (try clear ih); (try clear hl3); (try clear hmc); (try clear io1); (try clear ia1); (try clear io2); (try clear ia2); (try clear e30); (try clear e46); (try clear e46b); (try clear sh1); (try clear sh2); (try clear io3); (try clear ia3); (try clear io4); (try clear ia4); simp only [vp_in_iff, Int32.lt_iff_toInt_lt, Int32.le_iff_toInt_le, ← Int32.toInt_inj, Int32.toInt_add, Int32.toInt_sub, Int32.toInt_mul, Int32.toInt_neg, pq_NuO, pq_NuI, pq_NuJ, qm1, q0, q1] at *; (try simp (disch := omega) only [pq_bm] at *); all_goals omega)) (⟨pq_any1 _, pq_any2 _⟩) dX11_insert_31 ?_
        refine pq_aload_n F dX11_insert_32 rfl rfl ?_
        refine pq_get F ha3 (by decide) lk_X11_20 h5 dX11_insert_33 ?_
        refine pq_iload F dX11_insert_36 rfl ?_
        refine pq_aload_n F dX11_insert_38 rfl rfl ?_
        refine pq_get F ha3 (by decide) lk_X11_20 h5 dX11_insert_39 ?_
        refine pq_iload F dX11_insert_42 rfl ?_
        refine pq_iconst (v := 1) F dX11_insert_44 (by decide) ?_
        refine pq_isub F dX11_insert_45 ?_
        refine pq_iald F h2 (by decide) (by decide) rfl (fun n1_46 n2_46 => (by (try clear hlo); (try clear hhi); (try clear hla); (try clear hha); (try clear hc2); (try clear ih); (try clear hl3); (try clear hmc); (try clear io1); (try clear ia1); (try clear io2); (try clear ia2); (try clear e30); (try clear e46); (try clear e46b); (try clear sh1); (try clear sh2); (try clear io3); (try clear ia3); (try clear io4); (try clear ia4); simp only [vp_in_iff, Int32.lt_iff_toInt_lt, Int32.le_iff_toInt_le, ← Int32.toInt_inj, Int32.toInt_add, Int32.toInt_sub, Int32.toInt_mul, Int32.toInt_neg, pq_NuO, pq_NuI, pq_NuJ, qm1, q0, q1] at *; (try simp (disch := omega) only [pq_bm] at *); all_goals omega)) dX11_insert_46 (fun x46 e46 l46 u46 => ?_)
        refine pq_iast F h2 (by decide) (by decide) rfl (fun n1_47 n2_47 => (by (try clear hlo); (try clear hhi); (try clear hla); (try clear hha); (try clear hc2); (try clear ih); (try clear hl3); (try clear hmc); (try clear io1); (try clear ia1); (try clear io2); (try clear ia2); (try clear e30); (try clear e46); (try clear e46b); (try clear sh1); (try clear sh2); (try clear io3); (try clear ia3); (try clear io4); (try clear ia4); simp only [vp_in_iff, Int32.lt_iff_toInt_lt, Int32.le_iff_toInt_le, ← Int32.toInt_inj, Int32.toInt_add, Int32.toInt_sub, Int32.toInt_mul, Int32.toInt_neg, pq_NuO, pq_NuI, pq_NuJ, qm1, q0, q1] at *; (try simp (disch := omega) only [pq_bm] at *); all_goals omega)) (⟨pq_any1 _, pq_any2 _⟩) dX11_insert_47 ?_
        have io1 : hI (pq_uI (pq_uI S3 o2 (upd (hI S3 o2) k.toNatClampNeg x30)) a2 (upd (hI (pq_uI S3 o2 (upd (hI S3 o2) k.toNatClampNeg x30)) a2) k.toNatClampNeg x46)) o2 = upd (hI S3 o2) k.toNatClampNeg x30 := (pq_Ib (S := pq_uI S3 o2 _) (rb := 120) (ra := 121) ho h2 (by decide)).trans pq_Ia
        have ia1 : hI (pq_uI (pq_uI S3 o2 (upd (hI S3 o2) k.toNatClampNeg x30)) a2 (upd (hI (pq_uI S3 o2 (upd (hI S3 o2) k.toNatClampNeg x30)) a2) k.toNatClampNeg x46)) a2 = upd (hI S3 a2) k.toNatClampNeg x46 := pq_Ia.trans (by rw [pq_Ib (S := S3) (rb := 121) (ra := 120) h2 ho (by decide)])
        have e46b : x46 = hI S3 a2 (k - 1).toNatClampNeg := e46.trans (by rw [pq_Ib (S := S3) (rb := 121) (ra := 120) h2 ho (by decide)])
        have hk9 : (k + -1).toInt = ((kn - 1 : Nat) : Int) := (by (try clear hlo); (try clear hhi); (try clear hla); (try clear hha); (try clear hc2); (try clear ih); (try clear hl3); (try clear hmc); (try clear io1); (try clear ia1); (try clear io2); (try clear ia2); (try clear e30); (try clear e46); (try clear e46b); (try clear sh1); (try clear sh2); (try clear io3); (try clear ia3); (try clear io4); (try clear ia4); simp only [vp_in_iff, Int32.lt_iff_toInt_lt, Int32.le_iff_toInt_le, ← Int32.toInt_inj, Int32.toInt_add, Int32.toInt_sub, Int32.toInt_mul, Int32.toInt_neg, pq_NuO, pq_NuI, pq_NuJ, qm1, q0, q1] at *; (try simp (disch := omega) only [pq_bm] at *); all_goals omega)
        rw [ck1] at e30 e46b
        have io3 := io1.trans (show _ = upd (hI S3 o2) kn (hI S3 o2 (kn - 1)) by rw [ckk, e30])
        have ia3 := ia1.trans (show _ = upd (hI S3 a2) kn (hI S3 a2 (kn - 1)) by rw [ckk, e46b])
        have sh1 := pq_sh (mn := mn) (Nat.lt_of_le_of_lt (Nat.zero_le _) hkp) hlo hhi
        have sh2 := pq_sh (mn := mn) (Nat.lt_of_le_of_lt (Nat.zero_le _) hkp) hla hha
        rw [← io3] at sh1
        rw [← ia3] at sh2
        refine pq_iinc (v := -1) F dX11_insert_48 rfl (by decide) (by decide) ?_
        refine pq_goto (tgt := 10) F dX11_insert_51 (by decide) ?_
        exact ih _ _ (kn - 1) ((hF.uI ho (by decide)).uI h2 (by decide)) h4 ho h5 h2 h6 hs hl hl3 hk9 (Nat.le_sub_one_of_lt hkp) (Nat.le_trans (Nat.sub_le _ _) hk1) sh1.1 sh1.2 sh2.1 sh2.2 (Nat.lt_of_lt_of_le (Nat.sub_lt (Nat.lt_of_le_of_lt (Nat.zero_le _) hkp) Nat.one_pos) (Nat.le_of_lt_succ hm))
  refine pq_aload_n F dX11_insert_0 rfl rfl ?_
  refine pq_callV (As := []) F (k_X11_grow l D cy _ _ ?_ mc ms ao aa mn y ?_ ?_ ?_ ?_ ?_ ?_ ?_ ?_ ?_ ?_) ml_X11_23 ha (by decide) rfl (Nat.le_of_ble_eq_true rfl) ⟨Nat.le_of_ble_eq_true rfl, Nat.le_of_ble_eq_true rfl⟩ ⟨by show 0 + mc ≤ mc; omega, by show 0 + ms ≤ ms; omega⟩ dX11_insert_1 (fun v1 S1 w1 => ?_)
  · exact ha
  · exact e4
  · exact hao
  · exact e5
  · exact haa
  · exact e6
  · exact hy
  · omega
  · exact hsame
  · exact hle
  · exact hmc
  obtain ⟨rfl, hF1, o2, a2, g4, ho2, g5, ha2, hs2, hl2, hl3, hc2⟩ := w1
  have g6 := hF1.O ha (by decide) (by decide) e6
  have n8 := hl2
  have ha_1 := (hF1.1 _ _ ha (by decide)).1
  refine pq_aload_n F dX11_insert_4 rfl rfl ?_
  refine pq_get F ha_1 (by decide) lk_X11_7 g6 dX11_insert_5 ?_
  refine pq_istore F dX11_insert_8 (by decide) ?_
  exact L10 o2 a2 100000 _ _ mn (hF1.mono (by decide)) g4 ho2 g5 ha2 g6 hs2 hl2 hl3 hy hp1 (Nat.le_refl _) (fun i hi => (hc2 i hi).1) (fun i hi him => absurd hi (by omega)) (fun i hi => (hc2 i hi).2) (fun i hi him => absurd hi (by omega)) (by omega)

