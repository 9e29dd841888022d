/-- an Ends at b, its rows h and t, what it stands for -/
def tk_En (S : HS) (b h t : Nat) (E : tq_E) : Prop := (pq_R S b 5 ∧ hO S b 0 = .ref h ∧ pq_R S h 190 ∧ hO S b 1 = .ref t ∧ pq_R S t 191) ∧ (∃ z : Int32, hO S b 2 = .int z ∧ (z = 0 ∨ z = 1) ∧ (E.2.1 ↔ z = 1)) ∧ (∀ q, E.1 q ↔ tk_bit (hJ S h) 0 q) ∧ ∀ q, E.2.2 q ↔ tk_bit (hJ S t) 0 q
/-- nothing has changed but the two rows and the word of b -/
def tk_AF (S S2 : HS) (b h t : Nat) : Prop := (∀ x, x ≠ h → x ≠ t → hJ S2 x = hJ S x) ∧ (∀ x k, ¬ (x = b ∧ k = 2) → hO S2 x k = hO S x k) ∧ hR S2 = hR S ∧ ∀ x r, pq_R S x r → pq_R S2 x r
section EN
variable {S S1 S2 : HS} {b h t : Nat} {E E' : tq_E}
theorem tk_En.r (hE : tk_En S b h t E) : pq_R S b 5 := hE.1.1
theorem tk_En.a0 (hE : tk_En S b h t E) : hO S b 0 = .ref h := hE.1.2.1
theorem tk_En.r0 (hE : tk_En S b h t E) : pq_R S h 190 := hE.1.2.2.1
theorem tk_En.a1 (hE : tk_En S b h t E) : hO S b 1 = .ref t := hE.1.2.2.2.1
theorem tk_En.r1 (hE : tk_En S b h t E) : pq_R S t 191 := hE.1.2.2.2.2
theorem tk_AF.rf : tk_AF S S b h t := ⟨fun _ _ _ => rfl, fun _ _ _ => rfl, rfl, fun _ _ w => w⟩
theorem tk_AF.tr (h1 : tk_AF S S1 b h t) (h2 : tk_AF S1 S2 b h t) : tk_AF S S2 b h t := ⟨fun x a c => (h2.1 x a c).trans (h1.1 x a c), fun x k a => (h2.2.1 x k a).trans (h1.2.1 x k a), h2.2.2.1.trans h1.2.2.1, fun x r w => h2.2.2.2 x r (h1.2.2.2 x r w)⟩
theorem tk_AF.jh (h1 : tk_AF S S1 b h t) {f : Nat → Int64} : tk_AF S (pq_uJ S1 h f) b h t := ⟨fun x a c => (pq_Jb2 a).trans (h1.1 x a c), h1.2.1, h1.2.2.1, h1.2.2.2⟩
theorem tk_AF.jt (h1 : tk_AF S S1 b h t) {f : Nat → Int64} : tk_AF S (pq_uJ S1 t f) b h t := ⟨fun x a c => (pq_Jb2 c).trans (h1.1 x a c), h1.2.1, h1.2.2.1, h1.2.2.2⟩
theorem tk_AF.jo (h1 : tk_AF S S1 b h t) {v : Value} : tk_AF S (pq_uO S1 b 2 v) b h t := by
  refine ⟨h1.1, fun x k a => ?_, h1.2.2.1, h1.2.2.2⟩
  refine Eq.trans ?_ (h1.2.1 x k a)
  show va_up S1.2.2.1 b (va_up (S1.2.2.1 b) 2 v) x k = S1.2.2.1 x k
  by_cases e : x = b
  · rw [e, va_up_self, va_up_ne _ _ (fun c => a ⟨e, c⟩)]
  · rw [va_up_ne _ _ e]
theorem tk_En.up (hE : tk_En S b h t E) (hA : tk_AF S S2 b h t) {z : Int32} (hz : hO S2 b 2 = .int z) (hz1 : z = 0 ∨ z = 1) (h1 : ∀ q, E'.1 q ↔ tk_bit (hJ S2 h) 0 q) (h2 : E'.2.1 ↔ z = 1) (h3 : ∀ q, E'.2.2 q ↔ tk_bit (hJ S2 t) 0 q) : tk_En S2 b h t E' :=
  ⟨⟨hA.2.2.2 _ _ hE.r, (hA.2.1 b 0 (fun w => absurd w.2 (by decide))).trans hE.a0, hA.2.2.2 _ _ hE.r0, (hA.2.1 b 1 (fun w => absurd w.2 (by decide))).trans hE.a1, hA.2.2.2 _ _ hE.r1⟩, ⟨z, hz, hz1, h2⟩, h1, h3⟩
/-- another Ends stays as it is -/
theorem tk_En.ot {b2 h2 t2 : Nat} (hE : tk_En S b h t E) (hA : tk_AF S S2 b2 h2 t2) (n1 : b ≠ b2) (n2 : h ≠ h2) (n3 : t ≠ t2) (n4 : h ≠ t2) (n5 : t ≠ h2) : tk_En S2 b h t E := by
  have e : ∀ k, hO S2 b k = hO S b k := fun k => hA.2.1 b k (fun w => n1 w.1)
  refine ⟨⟨hA.2.2.2 _ _ hE.r, (e 0).trans hE.a0, hA.2.2.2 _ _ hE.r0, (e 1).trans hE.a1, hA.2.2.2 _ _ hE.r1⟩, ?_, fun q => ?_, fun q => ?_⟩
  · obtain ⟨z, a, c⟩ := hE.2.1
    exact ⟨z, (e 2).trans a, c⟩
  · rw [hA.1 h n2 n4]; exact hE.2.2.1 q
  · rw [hA.1 t n5 n3]; exact hE.2.2.2 q
/-- over a frame that keeps rows and words of Ends -/
theorem tk_En.fr {M : List (Nat × Nat)} (hE : tk_En S b h t E) (hF : pq_Fr M S S1) (m0 : (5, 0) ∉ M) (m1 : (5, 1) ∉ M) (m2 : (5, 2) ∉ M) (m3 : (190, 0) ∉ M) (m4 : (191, 0) ∉ M) : tk_En S1 b h t E := by
  refine ⟨⟨hF.R hE.r (by decide), hF.O hE.r (by decide) m0 hE.a0, hF.R hE.r0 (by decide), hF.O hE.r (by decide) m1 hE.a1, hF.R hE.r1 (by decide)⟩, ?_, fun q => ?_, fun q => ?_⟩
  · obtain ⟨z, a, c⟩ := hE.2.1
    exact ⟨z, hF.O hE.r (by decide) m2 a, c⟩
  · rw [(hF.2.2 h 190 hE.r0 (by decide) m3).2.1]; exact hE.2.2.1 q
  · rw [(hF.2.2 t 191 hE.r1 (by decide) m4).2.1]; exact hE.2.2.2 q
end EN
theorem tk_cpy7 {f g : Nat → Int64} {q : Nat} : tk_bit (va_cpy f g 0 0 7) 0 q ↔ tk_bit f 0 q := tk_bit.sm (fun w hw => by
  rw [Nat.zero_add, pk_cpy_in (Nat.zero_le _) (by omega), Nat.sub_zero, Nat.zero_add])

set_option maxHeartbeats 4000000 in
set_option maxRecDepth 100000 in
theorem k_X2_noTextG (l : Launch) (D : va_G) (cy : Nat → ClassId) (S : HS) (a : Nat) (ha : pq_R S a 5) (hh tt : Nat) (E : tq_E) (hE : tk_En S a hh tt E) : pq_C l D cy yX2_becomeNoText cX2_becomeNoText 1 (none) 2 0 0 S [.ref a] (fun v S2 => v = none ∧ pq_Fr [(190, 0), (191, 0), (5, 2)] S S2 ∧ (tk_AF S S2 a hh tt ∧ tk_En S2 a hh tt tq_e0)) := by
  refine pq_start (by decide) (Nat.le_of_ble_eq_true rfl) ?_
  intro p e s m args below meth c A F hr hlk hnm hA
  have lqm1 : (-1 : Int32).toInt = -1 := rfl
  have lq0 : (0 : Int32).toInt = 0 := rfl
  have lq1 : (1 : Int32).toInt = 1 := rfl
  refine pq_lenF hE.r0 (by decide) rfl (fun lh1 lh2 => ?_)
  refine pq_lenF hE.r1 (by decide) rfl (fun lt1 lt2 => ?_)
  have nht := pq_nrole hE.r0 hE.r1 (by decide)
  have nth := pq_nrole hE.r1 hE.r0 (by decide)
  refine pq_aload_n F dX2_becomeNoText_0 rfl rfl ?_
  refine pq_get F ha (by decide) lk_X2_9 hE.a0 dX2_becomeNoText_1 ?_
  refine pq_lconst (v := 0) F dX2_becomeNoText_4 (by decide) ?_
  refine pq_lenF hE.r0 (by decide) rfl (fun lna5_0 lnb5_0 => ?_)
  refine pq_callS (As := [_, _]) F (k_J7_fill_d0a16 l D cy _ _ 190 ?_ ?_ ?_ _ ?_) ml_X2_18 (Nat.le_of_ble_eq_true rfl) ⟨Nat.le_of_ble_eq_true rfl, Nat.le_of_ble_eq_true rfl⟩ ⟨by decide, by decide⟩ dX2_becomeNoText_5 (fun v5 S5 w5 => ?_)
  · exact hE.r0
  · first | decide | omega
  · first | decide | omega
  · focus ((try clear hE); (try clear hE2); (try clear g5); (try clear g13); (try clear g10); (try clear g19); (try clear g9); (try clear g21); (try clear g16); (try clear g31); (try clear g43); (try clear p1); (try clear hb9); simp only [vp_in_iff, Int32.lt_iff_toInt_lt, Int32.le_iff_toInt_le, ← Int32.toInt_inj, Int32.toInt_add, Int32.toInt_sub, Int32.toInt_mul, Int32.toInt_neg, pq_NuO, pq_NuI, pq_NuJ, pq_NuR, pq_shr6, pq_shr7, pq_shr8, lqm1, lq0, lq1] at *; (try simp (disch := omega) only [pq_bm] at *); all_goals omega)
  obtain ⟨rfl, f5, rfl, g5⟩ := w5
  refine pq_aload_n F dX2_becomeNoText_8 rfl rfl ?_
  refine pq_get F ha (by decide) lk_X2_15 hE.a1 dX2_becomeNoText_9 ?_
  refine pq_lconst (v := 0) F dX2_becomeNoText_12 (by decide) ?_
  refine pq_lenF hE.r1 (by decide) rfl (fun lna13_0 lnb13_0 => ?_)
  refine pq_callS (As := [_, _]) F (k_J7_fill_d0a16 l D cy _ _ 191 ?_ ?_ ?_ _ ?_) ml_X2_18 (Nat.le_of_ble_eq_true rfl) ⟨Nat.le_of_ble_eq_true rfl, Nat.le_of_ble_eq_true rfl⟩ ⟨by decide, by decide⟩ dX2_becomeNoText_13 (fun v13 S13 w13 => ?_)
  · exact hE.r1
  · first | decide | omega
  · first | decide | omega
  · focus ((try clear hE); (try clear hE2); (try clear g5); (try clear g13); (try clear g10); (try clear g19); (try clear g9); (try clear g21); (try clear g16); (try clear g31); (try clear g43); (try clear p1); (try clear hb9); simp only [vp_in_iff, Int32.lt_iff_toInt_lt, Int32.le_iff_toInt_le, ← Int32.toInt_inj, Int32.toInt_add, Int32.toInt_sub, Int32.toInt_mul, Int32.toInt_neg, pq_NuO, pq_NuI, pq_NuJ, pq_NuR, pq_shr6, pq_shr7, pq_shr8, lqm1, lq0, lq1] at *; (try simp (disch := omega) only [pq_bm] at *); all_goals omega)
  obtain ⟨rfl, f13, rfl, g13⟩ := w13
  refine pq_aload_n F dX2_becomeNoText_16 rfl rfl ?_
  refine pq_iconst (v := 0) F dX2_becomeNoText_17 (by decide) ?_
  refine pq_putZ F ha (by decide) lp_X2_24 rfl (by focus ((try clear hE); (try clear hE2); (try clear g5); (try clear g13); (try clear g10); (try clear g19); (try clear g9); (try clear g21); (try clear g16); (try clear g31); (try clear g43); (try clear p1); (try clear hb9); simp only [vp_in_iff, Int32.lt_iff_toInt_lt, Int32.le_iff_toInt_le, ← Int32.toInt_inj, Int32.toInt_add, Int32.toInt_sub, Int32.toInt_mul, Int32.toInt_neg, pq_NuO, pq_NuI, pq_NuJ, pq_NuR, pq_shr6, pq_shr7, pq_shr8, lqm1, lq0, lq1] at *; (try simp (disch := omega) only [pq_bm] at *); all_goals omega)) (by focus ((try clear hE); (try clear hE2); (try clear g5); (try clear g13); (try clear g10); (try clear g19); (try clear g9); (try clear g21); (try clear g16); (try clear g31); (try clear g43); (try clear p1); (try clear hb9); simp only [vp_in_iff, Int32.lt_iff_toInt_lt, Int32.le_iff_toInt_le, ← Int32.toInt_inj, Int32.toInt_add, Int32.toInt_sub, Int32.toInt_mul, Int32.toInt_neg, pq_NuO, pq_NuI, pq_NuJ, pq_NuR, pq_shr6, pq_shr7, pq_shr8, lqm1, lq0, lq1] at *; (try simp (disch := omega) only [pq_bm] at *); all_goals omega)) dX2_becomeNoText_18 ?_
  exact pq_vret F hr hlk hA (Nat.le_refl _) (Nat.le_refl _) ((by have hA : tk_AF S (pq_uO (pq_uJ (pq_uJ S hh f5) tt f13) a 2 (.int 0)) a hh tt := ((tk_AF.rf.jh).jt).jo; exact ⟨rfl, (((pq_Fr.rf.uJ hE.r0 (by first | decide | exact List.mem_cons_self)).uJ hE.r1 (by first | decide | exact List.mem_cons_self)).uO ha (by decide)), hA, hE.up hA pq_ks (Or.inl rfl) (fun q => ⟨False.elim, fun w => absurd w (tk_bit.z (fun w9 hv9 => (by simp only [pq_IuO, pq_IuJ, pq_Iu, pq_JuO, pq_JuI, pq_Ju, pq_RuO, pq_RuJ, pq_RuI, if_true, if_false, nht]; exact g5 _ (by omega))))⟩) ⟨False.elim, fun w => absurd w (by decide)⟩ (fun q => ⟨False.elim, fun w => absurd w (tk_bit.z (fun w9 hv9 => (by simp only [pq_IuO, pq_IuJ, pq_Iu, pq_JuO, pq_JuI, pq_Ju, pq_RuO, pq_RuJ, pq_RuI, if_true, if_false]; exact g13 _ (by simp only [pq_NuJ]; omega))))⟩)⟩)) dX2_becomeNoText_21

set_option maxHeartbeats 4000000 in
set_option maxRecDepth 100000 in
theorem k_X2_emptyTextG (l : Launch) (D : va_G) (cy : Nat → ClassId) (S : HS) (a : Nat) (ha : pq_R S a 5) (hh tt : Nat) (E : tq_E) (hE : tk_En S a hh tt E) : pq_C l D cy yX2_becomeEmptyText cX2_becomeEmptyText 1 (none) 3 0 0 S [.ref a] (fun v S2 => v = none ∧ pq_Fr [(190, 0), (191, 0), (5, 2)] S S2 ∧ (tk_AF S S2 a hh tt ∧ tk_En S2 a hh tt tq_e1)) := by
  refine pq_start (by decide) (Nat.le_of_ble_eq_true rfl) ?_
  intro p e s m args below meth c A F hr hlk hnm hA
  have lqm1 : (-1 : Int32).toInt = -1 := rfl
  have lq0 : (0 : Int32).toInt = 0 := rfl
  have lq1 : (1 : Int32).toInt = 1 := rfl
  refine pq_aload_n F dX2_becomeEmptyText_0 rfl rfl ?_
  refine pq_callV (As := []) F (k_X2_noTextG l D cy _ _ ?_ hh tt E hE) ml_X2_28 ha (by decide) rfl (Nat.le_of_ble_eq_true rfl) ⟨Nat.le_of_ble_eq_true rfl, Nat.le_of_ble_eq_true rfl⟩ ⟨by decide, by decide⟩ dX2_becomeEmptyText_1 (fun v1 S1 w1 => ?_)
  · exact ha
  obtain ⟨rfl, hF1, p1⟩ := w1
  have ha_1 := (hF1.1 _ _ ha (by decide)).1
  have hz_1 := (hF1.1 _ _ hE.r0 (by decide)).1
  have ec1_0_ha_1 := hF1.O ha (by decide) (by decide) hE.a0
  have hz_1z := (hF1.1 _ _ hE.r1 (by decide)).1
  have ec1_1_ha_1 := hF1.O ha (by decide) (by decide) hE.a1
  refine pq_aload_n F dX2_becomeEmptyText_4 rfl rfl ?_
  refine pq_iconst (v := 1) F dX2_becomeEmptyText_5 (by decide) ?_
  refine pq_putZ F ha_1 (by decide) lp_X2_24 rfl (by focus ((try clear hE); (try clear hE2); (try clear g5); (try clear g13); (try clear g10); (try clear g19); (try clear g9); (try clear g21); (try clear g16); (try clear g31); (try clear g43); (try clear p1); (try clear hb9); simp only [vp_in_iff, Int32.lt_iff_toInt_lt, Int32.le_iff_toInt_le, ← Int32.toInt_inj, Int32.toInt_add, Int32.toInt_sub, Int32.toInt_mul, Int32.toInt_neg, pq_NuO, pq_NuI, pq_NuJ, pq_NuR, pq_shr6, pq_shr7, pq_shr8, lqm1, lq0, lq1] at *; (try simp (disch := omega) only [pq_bm] at *); all_goals omega)) (by focus ((try clear hE); (try clear hE2); (try clear g5); (try clear g13); (try clear g10); (try clear g19); (try clear g9); (try clear g21); (try clear g16); (try clear g31); (try clear g43); (try clear p1); (try clear hb9); simp only [vp_in_iff, Int32.lt_iff_toInt_lt, Int32.le_iff_toInt_le, ← Int32.toInt_inj, Int32.toInt_add, Int32.toInt_sub, Int32.toInt_mul, Int32.toInt_neg, pq_NuO, pq_NuI, pq_NuJ, pq_NuR, pq_shr6, pq_shr7, pq_shr8, lqm1, lq0, lq1] at *; (try simp (disch := omega) only [pq_bm] at *); all_goals omega)) dX2_becomeEmptyText_6 ?_
  exact pq_vret F hr hlk hA (Nat.le_refl _) (Nat.le_refl _) ((by have hA : tk_AF S (pq_uO S1 a 2 (.int 1)) a hh tt := p1.1.jo; exact ⟨rfl, ((pq_Fr.rf.cm hF1 (by decide)).uO ha_1 (by decide)), hA, hE.up hA pq_ks (Or.inr rfl) p1.2.2.2.1 ⟨fun _ => rfl, fun _ => trivial⟩ p1.2.2.2.2⟩)) dX2_becomeEmptyText_9

set_option maxHeartbeats 4000000 in
set_option maxRecDepth 100000 in
theorem k_X2_placeG (l : Launch) (D : va_G) (cy : Nat → ClassId) (S : HS) (a : Nat) (ha : pq_R S a 5) (w : Int32) (hw0 : 0 ≤ w.toInt) (hw1 : w.toInt ≤ 399) (hh tt : Nat) (E : tq_E) (hE : tk_En S a hh tt E) (pn : Nat) (hpn : w.toInt = (pn : Int)) : pq_C l D cy yX2_becomePlace cX2_becomePlace 2 (none) 3 0 0 S [.ref a, .int w] (fun v S2 => v = none ∧ pq_Fr [(190, 0), (191, 0), (5, 2)] S S2 ∧ (tk_AF S S2 a hh tt ∧ tk_En S2 a hh tt (tq_ep pn))) := by
  refine pq_start (by decide) (Nat.le_of_ble_eq_true rfl) ?_
  intro p e s m args below meth c A F hr hlk hnm hA
  have lqm1 : (-1 : Int32).toInt = -1 := rfl
  have lq0 : (0 : Int32).toInt = 0 := rfl
  have lq1 : (1 : Int32).toInt = 1 := rfl
  refine pq_lenF hE.r0 (by decide) rfl (fun lh1 lh2 => ?_)
  refine pq_lenF hE.r1 (by decide) rfl (fun lt1 lt2 => ?_)
  have nht := pq_nrole hE.r0 hE.r1 (by decide)
  have nth := pq_nrole hE.r1 hE.r0 (by decide)
  refine pq_aload_n F dX2_becomePlace_0 rfl rfl ?_
  refine pq_callV (As := []) F (k_X2_noTextG l D cy _ _ ?_ hh tt E hE) ml_X2_28 ha (by decide) rfl (Nat.le_of_ble_eq_true rfl) ⟨Nat.le_of_ble_eq_true rfl, Nat.le_of_ble_eq_true rfl⟩ ⟨by decide, by decide⟩ dX2_becomePlace_1 (fun v1 S1 w1 => ?_)
  · exact ha
  obtain ⟨rfl, hF1, p1⟩ := w1
  have ha_1 := (hF1.1 _ _ ha (by decide)).1
  have hz_1 := (hF1.1 _ _ hE.r0 (by decide)).1
  have ec1_0_ha_1 := hF1.O ha (by decide) (by decide) hE.a0
  have hz_1z := (hF1.1 _ _ hE.r1 (by decide)).1
  have ec1_1_ha_1 := hF1.O ha (by decide) (by decide) hE.a1
  have hE1 := p1.2
  refine pq_lenF hE1.r0 (by decide) rfl (fun mh1 mh2 => ?_)
  refine pq_lenF hE1.r1 (by decide) rfl (fun mt1 mt2 => ?_)
  refine pq_aload_n F dX2_becomePlace_4 rfl rfl ?_
  refine pq_get F ha_1 (by decide) lk_X2_9 hE1.a0 dX2_becomePlace_5 ?_
  refine pq_iconst (v := 0) F dX2_becomePlace_8 (by decide) ?_
  refine pq_iload_n F dX2_becomePlace_9 rfl rfl ?_
  refine pq_lenF hE1.r0 (by decide) rfl (fun lna10_0 lnb10_0 => ?_)
  refine pq_callS (As := [_, _, _]) F (k_X10_addBitG l D cy _ _ 190 ?_ ?_ ?_ _ ?_ _ ?_ ?_ ?_ 0 pn rfl hpn ?_) ml_X2_31 (Nat.le_of_ble_eq_true rfl) ⟨Nat.le_of_ble_eq_true rfl, Nat.le_of_ble_eq_true rfl⟩ ⟨by decide, by decide⟩ dX2_becomePlace_10 (fun v10 S10 w10 => ?_)
  · exact hE1.r0
  · first | decide | omega
  · first | decide | omega
  · focus ((try clear hE); (try clear hE2); (try clear g5); (try clear g13); (try clear g10); (try clear g19); (try clear g9); (try clear g21); (try clear g16); (try clear g31); (try clear g43); (try clear p1); (try clear hb9); simp only [vp_in_iff, Int32.lt_iff_toInt_lt, Int32.le_iff_toInt_le, ← Int32.toInt_inj, Int32.toInt_add, Int32.toInt_sub, Int32.toInt_mul, Int32.toInt_neg, pq_NuO, pq_NuI, pq_NuJ, pq_NuR, pq_shr6, pq_shr7, pq_shr8, lqm1, lq0, lq1] at *; (try simp (disch := omega) only [pq_bm] at *); all_goals omega)
  · focus ((try clear hE); (try clear hE2); (try clear g5); (try clear g13); (try clear g10); (try clear g19); (try clear g9); (try clear g21); (try clear g16); (try clear g31); (try clear g43); (try clear p1); (try clear hb9); simp only [vp_in_iff, Int32.lt_iff_toInt_lt, Int32.le_iff_toInt_le, ← Int32.toInt_inj, Int32.toInt_add, Int32.toInt_sub, Int32.toInt_mul, Int32.toInt_neg, pq_NuO, pq_NuI, pq_NuJ, pq_NuR, pq_shr6, pq_shr7, pq_shr8, lqm1, lq0, lq1] at *; (try simp (disch := omega) only [pq_bm] at *); all_goals omega)
  · focus ((try clear hE); (try clear hE2); (try clear g5); (try clear g13); (try clear g10); (try clear g19); (try clear g9); (try clear g21); (try clear g16); (try clear g31); (try clear g43); (try clear p1); (try clear hb9); simp only [vp_in_iff, Int32.lt_iff_toInt_lt, Int32.le_iff_toInt_le, ← Int32.toInt_inj, Int32.toInt_add, Int32.toInt_sub, Int32.toInt_mul, Int32.toInt_neg, pq_NuO, pq_NuI, pq_NuJ, pq_NuR, pq_shr6, pq_shr7, pq_shr8, lqm1, lq0, lq1] at *; (try simp (disch := omega) only [pq_bm] at *); all_goals omega)
  · focus ((try clear hE); (try clear hE2); (try clear g5); (try clear g13); (try clear g10); (try clear g19); (try clear g9); (try clear g21); (try clear g16); (try clear g31); (try clear g43); (try clear p1); (try clear hb9); simp only [vp_in_iff, Int32.lt_iff_toInt_lt, Int32.le_iff_toInt_le, ← Int32.toInt_inj, Int32.toInt_add, Int32.toInt_sub, Int32.toInt_mul, Int32.toInt_neg, pq_NuO, pq_NuI, pq_NuJ, pq_NuR, pq_shr6, pq_shr7, pq_shr8, lqm1, lq0, lq1] at *; (try simp (disch := omega) only [pq_bm] at *); all_goals omega)
  · focus ((try clear hE); (try clear hE2); (try clear g5); (try clear g13); (try clear g10); (try clear g19); (try clear g9); (try clear g21); (try clear g16); (try clear g31); (try clear g43); (try clear p1); (try clear hb9); simp only [vp_in_iff, Int32.lt_iff_toInt_lt, Int32.le_iff_toInt_le, ← Int32.toInt_inj, Int32.toInt_add, Int32.toInt_sub, Int32.toInt_mul, Int32.toInt_neg, pq_NuO, pq_NuI, pq_NuJ, pq_NuR, pq_shr6, pq_shr7, pq_shr8, lqm1, lq0, lq1] at *; (try simp (disch := omega) only [pq_bm] at *); all_goals omega)
  obtain ⟨rfl, f10, rfl, g10⟩ := w10
  refine pq_aload_n F dX2_becomePlace_13 rfl rfl ?_
  refine pq_get F ha_1 (by decide) lk_X2_15 hE1.a1 dX2_becomePlace_14 ?_
  refine pq_iconst (v := 0) F dX2_becomePlace_17 (by decide) ?_
  refine pq_iload_n F dX2_becomePlace_18 rfl rfl ?_
  refine pq_lenF hE1.r1 (by decide) rfl (fun lna19_0 lnb19_0 => ?_)
  refine pq_callS (As := [_, _, _]) F (k_X10_addBitG l D cy _ _ 191 ?_ ?_ ?_ _ ?_ _ ?_ ?_ ?_ 0 pn rfl hpn ?_) ml_X2_31 (Nat.le_of_ble_eq_true rfl) ⟨Nat.le_of_ble_eq_true rfl, Nat.le_of_ble_eq_true rfl⟩ ⟨by decide, by decide⟩ dX2_becomePlace_19 (fun v19 S19 w19 => ?_)
  · exact hE1.r1
  · first | decide | omega
  · first | decide | omega
  · focus ((try clear hE); (try clear hE2); (try clear g5); (try clear g13); (try clear g10); (try clear g19); (try clear g9); (try clear g21); (try clear g16); (try clear g31); (try clear g43); (try clear p1); (try clear hb9); simp only [vp_in_iff, Int32.lt_iff_toInt_lt, Int32.le_iff_toInt_le, ← Int32.toInt_inj, Int32.toInt_add, Int32.toInt_sub, Int32.toInt_mul, Int32.toInt_neg, pq_NuO, pq_NuI, pq_NuJ, pq_NuR, pq_shr6, pq_shr7, pq_shr8, lqm1, lq0, lq1] at *; (try simp (disch := omega) only [pq_bm] at *); all_goals omega)
  · focus ((try clear hE); (try clear hE2); (try clear g5); (try clear g13); (try clear g10); (try clear g19); (try clear g9); (try clear g21); (try clear g16); (try clear g31); (try clear g43); (try clear p1); (try clear hb9); simp only [vp_in_iff, Int32.lt_iff_toInt_lt, Int32.le_iff_toInt_le, ← Int32.toInt_inj, Int32.toInt_add, Int32.toInt_sub, Int32.toInt_mul, Int32.toInt_neg, pq_NuO, pq_NuI, pq_NuJ, pq_NuR, pq_shr6, pq_shr7, pq_shr8, lqm1, lq0, lq1] at *; (try simp (disch := omega) only [pq_bm] at *); all_goals omega)
  · focus ((try clear hE); (try clear hE2); (try clear g5); (try clear g13); (try clear g10); (try clear g19); (try clear g9); (try clear g21); (try clear g16); (try clear g31); (try clear g43); (try clear p1); (try clear hb9); simp only [vp_in_iff, Int32.lt_iff_toInt_lt, Int32.le_iff_toInt_le, ← Int32.toInt_inj, Int32.toInt_add, Int32.toInt_sub, Int32.toInt_mul, Int32.toInt_neg, pq_NuO, pq_NuI, pq_NuJ, pq_NuR, pq_shr6, pq_shr7, pq_shr8, lqm1, lq0, lq1] at *; (try simp (disch := omega) only [pq_bm] at *); all_goals omega)
  · focus ((try clear hE); (try clear hE2); (try clear g5); (try clear g13); (try clear g10); (try clear g19); (try clear g9); (try clear g21); (try clear g16); (try clear g31); (try clear g43); (try clear p1); (try clear hb9); simp only [vp_in_iff, Int32.lt_iff_toInt_lt, Int32.le_iff_toInt_le, ← Int32.toInt_inj, Int32.toInt_add, Int32.toInt_sub, Int32.toInt_mul, Int32.toInt_neg, pq_NuO, pq_NuI, pq_NuJ, pq_NuR, pq_shr6, pq_shr7, pq_shr8, lqm1, lq0, lq1] at *; (try simp (disch := omega) only [pq_bm] at *); all_goals omega)
  · focus ((try clear hE); (try clear hE2); (try clear g5); (try clear g13); (try clear g10); (try clear g19); (try clear g9); (try clear g21); (try clear g16); (try clear g31); (try clear g43); (try clear p1); (try clear hb9); simp only [vp_in_iff, Int32.lt_iff_toInt_lt, Int32.le_iff_toInt_le, ← Int32.toInt_inj, Int32.toInt_add, Int32.toInt_sub, Int32.toInt_mul, Int32.toInt_neg, pq_NuO, pq_NuI, pq_NuJ, pq_NuR, pq_shr6, pq_shr7, pq_shr8, lqm1, lq0, lq1] at *; (try simp (disch := omega) only [pq_bm] at *); all_goals omega)
  obtain ⟨rfl, f19, rfl, g19⟩ := w19
  exact pq_vret F hr hlk hA (Nat.le_refl _) (Nat.le_refl _) ((by have hA : tk_AF S (pq_uJ (pq_uJ S1 hh f10) tt f19) a hh tt := (p1.1.jh).jt; obtain ⟨z, z1, z2, z3⟩ := p1.2.2.1; exact ⟨rfl, (((pq_Fr.rf.cm hF1 (by decide)).uJ hE1.r0 (by first | decide | exact List.mem_cons_self)).uJ hE1.r1 (by first | decide | exact List.mem_cons_self)), hA, hE.up hA z1 z2 (fun q => (by simp only [pq_IuO, pq_IuJ, pq_Iu, pq_JuO, pq_JuI, pq_Ju, pq_RuO, pq_RuJ, pq_RuI, if_true, if_false, nht]; rw [g10.1 q]; exact ⟨fun e => Or.inr e, fun e => e.resolve_left (fun v => (p1.2.2.2.1 q).mpr v)⟩)) z3 (fun q => (by simp only [pq_IuO, pq_IuJ, pq_Iu, pq_JuO, pq_JuI, pq_Ju, pq_RuO, pq_RuJ, pq_RuI, if_true, if_false]; rw [g19.1 q]; simp only [pq_IuO, pq_IuJ, pq_Iu, pq_JuO, pq_JuI, pq_Ju, pq_RuO, pq_RuJ, pq_RuI, if_true, if_false, nth]; exact ⟨fun e => Or.inr e, fun e => e.resolve_left (fun v => (p1.2.2.2.2 q).mpr v)⟩))⟩)) dX2_becomePlace_22

set_option maxHeartbeats 4000000 in
set_option maxRecDepth 100000 in
theorem k_X2_becomeG (l : Launch) (D : va_G) (cy : Nat → ClassId) (S : HS) (a : Nat) (ha : pq_R S a 5) (b : Nat) (hb : pq_R S b 5) (hh tt : Nat) (E : tq_E) (hE : tk_En S a hh tt E) (h2 t2 : Nat) (E2 : tq_E) (hE2 : tk_En S b h2 t2 E2) : pq_C l D cy yX2_become cX2_become 2 (none) 1 0 0 S [.ref a, .ref b] (fun v S2 => v = none ∧ pq_Fr [(190, 0), (191, 0), (5, 2)] S S2 ∧ (tk_AF S S2 a hh tt ∧ tk_En S2 a hh tt E2)) := by
  refine pq_start (by decide) (Nat.le_of_ble_eq_true rfl) ?_
  intro p e s m args below meth c A F hr hlk hnm hA
  have lqm1 : (-1 : Int32).toInt = -1 := rfl
  have lq0 : (0 : Int32).toInt = 0 := rfl
  have lq1 : (1 : Int32).toInt = 1 := rfl
  have lq7 : (7 : Int32).toInt = 7 := rfl
  refine pq_lenF hE.r0 (by decide) rfl (fun lh1 lh2 => ?_)
  refine pq_lenF hE.r1 (by decide) rfl (fun lt1 lt2 => ?_)
  have nht := pq_nrole hE.r0 hE.r1 (by decide)
  have nth := pq_nrole hE.r1 hE.r0 (by decide)
  refine pq_lenF hE2.r0 (by decide) rfl (fun lh3 lh4 => ?_)
  refine pq_lenF hE2.r1 (by decide) rfl (fun lt3 lt4 => ?_)
  have n2h := pq_nrole hE2.r1 hE.r0 (by decide)
  have nh2 := pq_nrole hE2.r0 hE.r1 (by decide)
  obtain ⟨z2, zb, zb1, zb2⟩ := hE2.2.1
  obtain ⟨z, za, za1, za2⟩ := hE.2.1
  refine pq_aload_n F dX2_become_0 rfl rfl ?_
  refine pq_get F hb (by decide) lk_X2_9 hE2.a0 dX2_become_1 ?_
  refine pq_iconst (v := 0) F dX2_become_4 (by decide) ?_
  refine pq_aload_n F dX2_become_5 rfl rfl ?_
  refine pq_get F ha (by decide) lk_X2_9 hE.a0 dX2_become_6 ?_
  refine pq_iconst (v := 0) F dX2_become_9 (by decide) ?_
  refine pq_bipush (v := 7) F dX2_become_10 (by decide) ?_
  refine pq_copyJ F cw_X2_35 hE2.r0 hE.r0 (by decide) (by decide) (by decide) (by decide) (by focus ((try clear hE); (try clear hE2); (try clear g5); (try clear g13); (try clear g10); (try clear g19); (try clear g9); (try clear g21); (try clear g16); (try clear g31); (try clear g43); (try clear p1); (try clear hb9); (try clear zb); (try clear zb1); (try clear zb2); (try clear za); (try clear za1); (try clear za2); simp only [vp_in_iff, Int32.lt_iff_toInt_lt, Int32.le_iff_toInt_le, ← Int32.toInt_inj, Int32.toInt_add, Int32.toInt_sub, Int32.toInt_mul, Int32.toInt_neg, pq_NuO, pq_NuI, pq_NuJ, pq_NuR, pq_shr6, pq_shr7, pq_shr8, lqm1, lq0, lq1, lq7] at *; (try simp (disch := omega) only [pq_bm] at *); all_goals omega)) (by focus ((try clear hE); (try clear hE2); (try clear g5); (try clear g13); (try clear g10); (try clear g19); (try clear g9); (try clear g21); (try clear g16); (try clear g31); (try clear g43); (try clear p1); (try clear hb9); (try clear zb); (try clear zb1); (try clear zb2); (try clear za); (try clear za1); (try clear za2); simp only [vp_in_iff, Int32.lt_iff_toInt_lt, Int32.le_iff_toInt_le, ← Int32.toInt_inj, Int32.toInt_add, Int32.toInt_sub, Int32.toInt_mul, Int32.toInt_neg, pq_NuO, pq_NuI, pq_NuJ, pq_NuR, pq_shr6, pq_shr7, pq_shr8, lqm1, lq0, lq1, lq7] at *; (try simp (disch := omega) only [pq_bm] at *); all_goals omega)) (by focus ((try clear hE); (try clear hE2); (try clear g5); (try clear g13); (try clear g10); (try clear g19); (try clear g9); (try clear g21); (try clear g16); (try clear g31); (try clear g43); (try clear p1); (try clear hb9); (try clear zb); (try clear zb1); (try clear zb2); (try clear za); (try clear za1); (try clear za2); simp only [vp_in_iff, Int32.lt_iff_toInt_lt, Int32.le_iff_toInt_le, ← Int32.toInt_inj, Int32.toInt_add, Int32.toInt_sub, Int32.toInt_mul, Int32.toInt_neg, pq_NuO, pq_NuI, pq_NuJ, pq_NuR, pq_shr6, pq_shr7, pq_shr8, lqm1, lq0, lq1, lq7] at *; (try simp (disch := omega) only [pq_bm] at *); all_goals omega)) (by show 0 + 7 ≤ _; focus ((try clear hE); (try clear hE2); (try clear g5); (try clear g13); (try clear g10); (try clear g19); (try clear g9); (try clear g21); (try clear g16); (try clear g31); (try clear g43); (try clear p1); (try clear hb9); (try clear zb); (try clear zb1); (try clear zb2); (try clear za); (try clear za1); (try clear za2); simp only [vp_in_iff, Int32.lt_iff_toInt_lt, Int32.le_iff_toInt_le, ← Int32.toInt_inj, Int32.toInt_add, Int32.toInt_sub, Int32.toInt_mul, Int32.toInt_neg, pq_NuO, pq_NuI, pq_NuJ, pq_NuR, pq_shr6, pq_shr7, pq_shr8, lqm1, lq0, lq1, lq7] at *; (try simp (disch := omega) only [pq_bm] at *); all_goals omega)) (by show 0 + 7 ≤ _; focus ((try clear hE); (try clear hE2); (try clear g5); (try clear g13); (try clear g10); (try clear g19); (try clear g9); (try clear g21); (try clear g16); (try clear g31); (try clear g43); (try clear p1); (try clear hb9); (try clear zb); (try clear zb1); (try clear zb2); (try clear za); (try clear za1); (try clear za2); simp only [vp_in_iff, Int32.lt_iff_toInt_lt, Int32.le_iff_toInt_le, ← Int32.toInt_inj, Int32.toInt_add, Int32.toInt_sub, Int32.toInt_mul, Int32.toInt_neg, pq_NuO, pq_NuI, pq_NuJ, pq_NuR, pq_shr6, pq_shr7, pq_shr8, lqm1, lq0, lq1, lq7] at *; (try simp (disch := omega) only [pq_bm] at *); all_goals omega)) ⟨Nat.le_of_ble_eq_true rfl, Nat.le_of_ble_eq_true rfl⟩ dX2_become_12 ?_
  refine pq_aload_n F dX2_become_15 rfl rfl ?_
  refine pq_get F hb (by decide) lk_X2_15 hE2.a1 dX2_become_16 ?_
  refine pq_iconst (v := 0) F dX2_become_19 (by decide) ?_
  refine pq_aload_n F dX2_become_20 rfl rfl ?_
  refine pq_get F ha (by decide) lk_X2_15 hE.a1 dX2_become_21 ?_
  refine pq_iconst (v := 0) F dX2_become_24 (by decide) ?_
  refine pq_bipush (v := 7) F dX2_become_25 (by decide) ?_
  refine pq_copyJ F cw_X2_35 hE2.r1 hE.r1 (by decide) (by decide) (by decide) (by decide) (by focus ((try clear hE); (try clear hE2); (try clear g5); (try clear g13); (try clear g10); (try clear g19); (try clear g9); (try clear g21); (try clear g16); (try clear g31); (try clear g43); (try clear p1); (try clear hb9); (try clear zb); (try clear zb1); (try clear zb2); (try clear za); (try clear za1); (try clear za2); simp only [vp_in_iff, Int32.lt_iff_toInt_lt, Int32.le_iff_toInt_le, ← Int32.toInt_inj, Int32.toInt_add, Int32.toInt_sub, Int32.toInt_mul, Int32.toInt_neg, pq_NuO, pq_NuI, pq_NuJ, pq_NuR, pq_shr6, pq_shr7, pq_shr8, lqm1, lq0, lq1, lq7] at *; (try simp (disch := omega) only [pq_bm] at *); all_goals omega)) (by focus ((try clear hE); (try clear hE2); (try clear g5); (try clear g13); (try clear g10); (try clear g19); (try clear g9); (try clear g21); (try clear g16); (try clear g31); (try clear g43); (try clear p1); (try clear hb9); (try clear zb); (try clear zb1); (try clear zb2); (try clear za); (try clear za1); (try clear za2); simp only [vp_in_iff, Int32.lt_iff_toInt_lt, Int32.le_iff_toInt_le, ← Int32.toInt_inj, Int32.toInt_add, Int32.toInt_sub, Int32.toInt_mul, Int32.toInt_neg, pq_NuO, pq_NuI, pq_NuJ, pq_NuR, pq_shr6, pq_shr7, pq_shr8, lqm1, lq0, lq1, lq7] at *; (try simp (disch := omega) only [pq_bm] at *); all_goals omega)) (by focus ((try clear hE); (try clear hE2); (try clear g5); (try clear g13); (try clear g10); (try clear g19); (try clear g9); (try clear g21); (try clear g16); (try clear g31); (try clear g43); (try clear p1); (try clear hb9); (try clear zb); (try clear zb1); (try clear zb2); (try clear za); (try clear za1); (try clear za2); simp only [vp_in_iff, Int32.lt_iff_toInt_lt, Int32.le_iff_toInt_le, ← Int32.toInt_inj, Int32.toInt_add, Int32.toInt_sub, Int32.toInt_mul, Int32.toInt_neg, pq_NuO, pq_NuI, pq_NuJ, pq_NuR, pq_shr6, pq_shr7, pq_shr8, lqm1, lq0, lq1, lq7] at *; (try simp (disch := omega) only [pq_bm] at *); all_goals omega)) (by show 0 + 7 ≤ _; focus ((try clear hE); (try clear hE2); (try clear g5); (try clear g13); (try clear g10); (try clear g19); (try clear g9); (try clear g21); (try clear g16); (try clear g31); (try clear g43); (try clear p1); (try clear hb9); (try clear zb); (try clear zb1); (try clear zb2); (try clear za); (try clear za1); (try clear za2); simp only [vp_in_iff, Int32.lt_iff_toInt_lt, Int32.le_iff_toInt_le, ← Int32.toInt_inj, Int32.toInt_add, Int32.toInt_sub, Int32.toInt_mul, Int32.toInt_neg, pq_NuO, pq_NuI, pq_NuJ, pq_NuR, pq_shr6, pq_shr7, pq_shr8, lqm1, lq0, lq1, lq7] at *; (try simp (disch := omega) only [pq_bm] at *); all_goals omega)) (by show 0 + 7 ≤ _; focus ((try clear hE); (try clear hE2); (try clear g5); (try clear g13); (try clear g10); (try clear g19); (try clear g9); (try clear g21); (try clear g16); (try clear g31); (try clear g43); (try clear p1); (try clear hb9); (try clear zb); (try clear zb1); (try clear zb2); (try clear za); (try clear za1); (try clear za2); simp only [vp_in_iff, Int32.lt_iff_toInt_lt, Int32.le_iff_toInt_le, ← Int32.toInt_inj, Int32.toInt_add, Int32.toInt_sub, Int32.toInt_mul, Int32.toInt_neg, pq_NuO, pq_NuI, pq_NuJ, pq_NuR, pq_shr6, pq_shr7, pq_shr8, lqm1, lq0, lq1, lq7] at *; (try simp (disch := omega) only [pq_bm] at *); all_goals omega)) ⟨Nat.le_of_ble_eq_true rfl, Nat.le_of_ble_eq_true rfl⟩ dX2_become_27 ?_
  refine pq_aload_n F dX2_become_30 rfl rfl ?_
  refine pq_aload_n F dX2_become_31 rfl rfl ?_
  refine pq_get F hb (by decide) lk_X2_24 zb dX2_become_32 ?_
  refine pq_putZ F ha (by decide) lp_X2_24 rfl (by rcases zb1 with w | w <;> rw [w] <;> decide) (by rcases zb1 with w | w <;> rw [w] <;> decide) dX2_become_35 ?_
  exact pq_vret F hr hlk hA (Nat.le_refl _) (Nat.le_refl _) ((by refine ⟨rfl, (((pq_Fr.rf.uJ hE.r0 (by decide)).uJ hE.r1 (by decide)).uO ha (by decide)), ((tk_AF.rf.jh).jt).jo, hE.up (((tk_AF.rf.jh).jt).jo) pq_ks zb1 (fun q => ?_) zb2 (fun q => ?_)⟩; (simp only [pq_IuO, pq_IuJ, pq_Iu, pq_JuO, pq_JuI, pq_Ju, pq_RuO, pq_RuJ, pq_RuI, if_true, if_false, nht]; exact (hE2.2.2.1 q).trans tk_cpy7.symm); (simp only [pq_IuO, pq_IuJ, pq_Iu, pq_JuO, pq_JuI, pq_Ju, pq_RuO, pq_RuJ, pq_RuI, if_true, if_false, n2h]; exact (hE2.2.2.2 q).trans tk_cpy7.symm))) dX2_become_38

set_option maxHeartbeats 4000000 in
set_option maxRecDepth 100000 in
theorem k_X2_addChoiceG (l : Launch) (D : va_G) (cy : Nat → ClassId) (S : HS) (a : Nat) (ha : pq_R S a 5) (b : Nat) (hb : pq_R S b 5) (hh tt : Nat) (E : tq_E) (hE : tk_En S a hh tt E) (h2 t2 : Nat) (E2 : tq_E) (hE2 : tk_En S b h2 t2 E2) (n1 : hh ≠ h2) (n2 : tt ≠ t2) : pq_C l D cy yX2_addChoice cX2_addChoice 2 (none) 2 0 0 S [.ref a, .ref b] (fun v S2 => v = none ∧ pq_Fr [(190, 0), (191, 0), (5, 2)] S S2 ∧ (tk_AF S S2 a hh tt ∧ tk_En S2 a hh tt (tq_or E E2))) := by
  refine pq_start (by decide) (Nat.le_of_ble_eq_true rfl) ?_
  intro p e s m args below meth c A F hr hlk hnm hA
  have lqm1 : (-1 : Int32).toInt = -1 := rfl
  have lq0 : (0 : Int32).toInt = 0 := rfl
  have lq1 : (1 : Int32).toInt = 1 := rfl
  refine pq_lenF hE.r0 (by decide) rfl (fun lh1 lh2 => ?_)
  refine pq_lenF hE.r1 (by decide) rfl (fun lt1 lt2 => ?_)
  have nht := pq_nrole hE.r0 hE.r1 (by decide)
  have nth := pq_nrole hE.r1 hE.r0 (by decide)
  refine pq_lenF hE2.r0 (by decide) rfl (fun lh3 lh4 => ?_)
  refine pq_lenF hE2.r1 (by decide) rfl (fun lt3 lt4 => ?_)
  have n2h := pq_nrole hE2.r1 hE.r0 (by decide)
  have nh2 := pq_nrole hE2.r0 hE.r1 (by decide)
  obtain ⟨z2, zb, zb1, zb2⟩ := hE2.2.1
  obtain ⟨z, za, za1, za2⟩ := hE.2.1
  refine pq_aload_n F dX2_addChoice_0 rfl rfl ?_
  refine pq_get F ha (by decide) lk_X2_9 hE.a0 dX2_addChoice_1 ?_
  refine pq_iconst (v := 0) F dX2_addChoice_4 (by decide) ?_
  refine pq_aload_n F dX2_addChoice_5 rfl rfl ?_
  refine pq_get F hb (by decide) lk_X2_9 hE2.a0 dX2_addChoice_6 ?_
  refine pq_lenF hE.r0 (by decide) rfl (fun lna9_0 lnb9_0 => ?_)
  refine pq_lenF hE2.r0 (by decide) rfl (fun lna9_2 lnb9_2 => ?_)
  refine pq_callS (As := [_, _, _]) F (k_X10_addAllG l D cy _ _ 190 ?_ ?_ ?_ _ ?_ _ 190 ?_ ?_ ?_ ?_ ?_ ?_ 0 rfl n1) ml_X2_41 (Nat.le_of_ble_eq_true rfl) ⟨Nat.le_of_ble_eq_true rfl, Nat.le_of_ble_eq_true rfl⟩ ⟨by decide, by decide⟩ dX2_addChoice_9 (fun v9 S9 w9 => ?_)
  · exact hE.r0
  · first | decide | omega
  · first | decide | omega
  · focus ((try clear hE); (try clear hE2); (try clear g5); (try clear g13); (try clear g10); (try clear g19); (try clear g9); (try clear g21); (try clear g16); (try clear g31); (try clear g43); (try clear p1); (try clear hb9); (try clear zb); (try clear zb1); (try clear zb2); (try clear za); (try clear za1); (try clear za2); simp only [vp_in_iff, Int32.lt_iff_toInt_lt, Int32.le_iff_toInt_le, ← Int32.toInt_inj, Int32.toInt_add, Int32.toInt_sub, Int32.toInt_mul, Int32.toInt_neg, pq_NuO, pq_NuI, pq_NuJ, pq_NuR, pq_shr6, pq_shr7, pq_shr8, lqm1, lq0, lq1] at *; (try simp (disch := omega) only [pq_bm] at *); all_goals omega)
  · exact hE2.r0
  · first | decide | omega
  · first | decide | omega
  · focus ((try clear hE); (try clear hE2); (try clear g5); (try clear g13); (try clear g10); (try clear g19); (try clear g9); (try clear g21); (try clear g16); (try clear g31); (try clear g43); (try clear p1); (try clear hb9); (try clear zb); (try clear zb1); (try clear zb2); (try clear za); (try clear za1); (try clear za2); simp only [vp_in_iff, Int32.lt_iff_toInt_lt, Int32.le_iff_toInt_le, ← Int32.toInt_inj, Int32.toInt_add, Int32.toInt_sub, Int32.toInt_mul, Int32.toInt_neg, pq_NuO, pq_NuI, pq_NuJ, pq_NuR, pq_shr6, pq_shr7, pq_shr8, lqm1, lq0, lq1] at *; (try simp (disch := omega) only [pq_bm] at *); all_goals omega)
  · focus ((try clear hE); (try clear hE2); (try clear g5); (try clear g13); (try clear g10); (try clear g19); (try clear g9); (try clear g21); (try clear g16); (try clear g31); (try clear g43); (try clear p1); (try clear hb9); (try clear zb); (try clear zb1); (try clear zb2); (try clear za); (try clear za1); (try clear za2); simp only [vp_in_iff, Int32.lt_iff_toInt_lt, Int32.le_iff_toInt_le, ← Int32.toInt_inj, Int32.toInt_add, Int32.toInt_sub, Int32.toInt_mul, Int32.toInt_neg, pq_NuO, pq_NuI, pq_NuJ, pq_NuR, pq_shr6, pq_shr7, pq_shr8, lqm1, lq0, lq1] at *; (try simp (disch := omega) only [pq_bm] at *); all_goals omega)
  · focus ((try clear hE); (try clear hE2); (try clear g5); (try clear g13); (try clear g10); (try clear g19); (try clear g9); (try clear g21); (try clear g16); (try clear g31); (try clear g43); (try clear p1); (try clear hb9); (try clear zb); (try clear zb1); (try clear zb2); (try clear za); (try clear za1); (try clear za2); simp only [vp_in_iff, Int32.lt_iff_toInt_lt, Int32.le_iff_toInt_le, ← Int32.toInt_inj, Int32.toInt_add, Int32.toInt_sub, Int32.toInt_mul, Int32.toInt_neg, pq_NuO, pq_NuI, pq_NuJ, pq_NuR, pq_shr6, pq_shr7, pq_shr8, lqm1, lq0, lq1] at *; (try simp (disch := omega) only [pq_bm] at *); all_goals omega)
  obtain ⟨rfl, f9, rfl, g9⟩ := w9
  refine pq_aload_n F dX2_addChoice_12 rfl rfl ?_
  refine pq_get F ha (by decide) lk_X2_15 hE.a1 dX2_addChoice_13 ?_
  refine pq_iconst (v := 0) F dX2_addChoice_16 (by decide) ?_
  refine pq_aload_n F dX2_addChoice_17 rfl rfl ?_
  refine pq_get F hb (by decide) lk_X2_15 hE2.a1 dX2_addChoice_18 ?_
  refine pq_lenF hE.r1 (by decide) rfl (fun lna21_0 lnb21_0 => ?_)
  refine pq_lenF hE2.r1 (by decide) rfl (fun lna21_2 lnb21_2 => ?_)
  refine pq_callS (As := [_, _, _]) F (k_X10_addAllG l D cy _ _ 191 ?_ ?_ ?_ _ ?_ _ 191 ?_ ?_ ?_ ?_ ?_ ?_ 0 rfl n2) ml_X2_41 (Nat.le_of_ble_eq_true rfl) ⟨Nat.le_of_ble_eq_true rfl, Nat.le_of_ble_eq_true rfl⟩ ⟨by decide, by decide⟩ dX2_addChoice_21 (fun v21 S21 w21 => ?_)
  · exact hE.r1
  · first | decide | omega
  · first | decide | omega
  · focus ((try clear hE); (try clear hE2); (try clear g5); (try clear g13); (try clear g10); (try clear g19); (try clear g9); (try clear g21); (try clear g16); (try clear g31); (try clear g43); (try clear p1); (try clear hb9); (try clear zb); (try clear zb1); (try clear zb2); (try clear za); (try clear za1); (try clear za2); simp only [vp_in_iff, Int32.lt_iff_toInt_lt, Int32.le_iff_toInt_le, ← Int32.toInt_inj, Int32.toInt_add, Int32.toInt_sub, Int32.toInt_mul, Int32.toInt_neg, pq_NuO, pq_NuI, pq_NuJ, pq_NuR, pq_shr6, pq_shr7, pq_shr8, lqm1, lq0, lq1] at *; (try simp (disch := omega) only [pq_bm] at *); all_goals omega)
  · exact hE2.r1
  · first | decide | omega
  · first | decide | omega
  · simp only [pq_NuJ]; focus ((try clear hE); (try clear hE2); (try clear g5); (try clear g13); (try clear g10); (try clear g19); (try clear g9); (try clear g21); (try clear g16); (try clear g31); (try clear g43); (try clear p1); (try clear hb9); (try clear zb); (try clear zb1); (try clear zb2); (try clear za); (try clear za1); (try clear za2); simp only [vp_in_iff, Int32.lt_iff_toInt_lt, Int32.le_iff_toInt_le, ← Int32.toInt_inj, Int32.toInt_add, Int32.toInt_sub, Int32.toInt_mul, Int32.toInt_neg, pq_NuO, pq_NuI, pq_NuJ, pq_NuR, pq_shr6, pq_shr7, pq_shr8, lqm1, lq0, lq1] at *; (try simp (disch := omega) only [pq_bm] at *); all_goals omega)
  · simp only [pq_NuJ]; focus ((try clear hE); (try clear hE2); (try clear g5); (try clear g13); (try clear g10); (try clear g19); (try clear g9); (try clear g21); (try clear g16); (try clear g31); (try clear g43); (try clear p1); (try clear hb9); (try clear zb); (try clear zb1); (try clear zb2); (try clear za); (try clear za1); (try clear za2); simp only [vp_in_iff, Int32.lt_iff_toInt_lt, Int32.le_iff_toInt_le, ← Int32.toInt_inj, Int32.toInt_add, Int32.toInt_sub, Int32.toInt_mul, Int32.toInt_neg, pq_NuO, pq_NuI, pq_NuJ, pq_NuR, pq_shr6, pq_shr7, pq_shr8, lqm1, lq0, lq1] at *; (try simp (disch := omega) only [pq_bm] at *); all_goals omega)
  · simp only [pq_NuJ]; focus ((try clear hE); (try clear hE2); (try clear g5); (try clear g13); (try clear g10); (try clear g19); (try clear g9); (try clear g21); (try clear g16); (try clear g31); (try clear g43); (try clear p1); (try clear hb9); (try clear zb); (try clear zb1); (try clear zb2); (try clear za); (try clear za1); (try clear za2); simp only [vp_in_iff, Int32.lt_iff_toInt_lt, Int32.le_iff_toInt_le, ← Int32.toInt_inj, Int32.toInt_add, Int32.toInt_sub, Int32.toInt_mul, Int32.toInt_neg, pq_NuO, pq_NuI, pq_NuJ, pq_NuR, pq_shr6, pq_shr7, pq_shr8, lqm1, lq0, lq1] at *; (try simp (disch := omega) only [pq_bm] at *); all_goals omega)
  obtain ⟨rfl, f21, rfl, g21⟩ := w21
  refine pq_aload_n F dX2_addChoice_24 rfl rfl ?_
  refine pq_aload_n F dX2_addChoice_25 rfl rfl ?_
  refine pq_get F ha (by decide) lk_X2_24 za dX2_addChoice_26 ?_
  refine pq_if_ne (tgt := 39) F dX2_addChoice_29 (by decide) (fun c29 => ?_) (fun c29 => ?_)
  · skip
    refine pq_iconst (v := 1) F dX2_addChoice_39 (by decide) ?_
    refine pq_goto (tgt := 44) F dX2_addChoice_40 (by decide) ?_
    refine pq_putZ F ha (by decide) lp_X2_24 rfl (by focus ((try clear hE); (try clear hE2); (try clear g5); (try clear g13); (try clear g10); (try clear g19); (try clear g9); (try clear g21); (try clear g16); (try clear g31); (try clear g43); (try clear p1); (try clear hb9); (try clear zb); (try clear zb1); (try clear zb2); (try clear za); (try clear za1); (try clear za2); simp only [vp_in_iff, Int32.lt_iff_toInt_lt, Int32.le_iff_toInt_le, ← Int32.toInt_inj, Int32.toInt_add, Int32.toInt_sub, Int32.toInt_mul, Int32.toInt_neg, pq_NuO, pq_NuI, pq_NuJ, pq_NuR, pq_shr6, pq_shr7, pq_shr8, lqm1, lq0, lq1] at *; (try simp (disch := omega) only [pq_bm] at *); all_goals omega)) (by focus ((try clear hE); (try clear hE2); (try clear g5); (try clear g13); (try clear g10); (try clear g19); (try clear g9); (try clear g21); (try clear g16); (try clear g31); (try clear g43); (try clear p1); (try clear hb9); (try clear zb); (try clear zb1); (try clear zb2); (try clear za); (try clear za1); (try clear za2); simp only [vp_in_iff, Int32.lt_iff_toInt_lt, Int32.le_iff_toInt_le, ← Int32.toInt_inj, Int32.toInt_add, Int32.toInt_sub, Int32.toInt_mul, Int32.toInt_neg, pq_NuO, pq_NuI, pq_NuJ, pq_NuR, pq_shr6, pq_shr7, pq_shr8, lqm1, lq0, lq1] at *; (try simp (disch := omega) only [pq_bm] at *); all_goals omega)) dX2_addChoice_44 ?_
    exact pq_vret F hr hlk hA (Nat.le_refl _) (Nat.le_refl _) ((by refine ⟨rfl, (((pq_Fr.rf.uJ hE.r0 (by first | decide | exact List.mem_cons_self)).uJ hE.r1 (by first | decide | exact List.mem_cons_self)).uO ha (by decide)), ((tk_AF.rf.jh).jt).jo, hE.up (((tk_AF.rf.jh).jt).jo) pq_ks (Or.inr rfl) (fun q => ?_) ⟨fun _ => rfl, fun _ => Or.inl (za2.mpr (za1.resolve_left c29))⟩ (fun q => ?_)⟩; (simp only [pq_IuO, pq_IuJ, pq_Iu, pq_JuO, pq_JuI, pq_Ju, pq_RuO, pq_RuJ, pq_RuI, if_true, if_false, nht]; rw [tk_bit.or (r := hJ S hh) (r2 := hJ S h2) (st := 0) (st2 := 0) (fun w9 hv9 => (by rw [Nat.zero_add]; have v := g9.1 w9 hv9; rw [Nat.zero_add] at v; exact v))]; exact or_congr (hE.2.2.1 q) (hE2.2.2.1 q)); (simp only [pq_IuO, pq_IuJ, pq_Iu, pq_JuO, pq_JuI, pq_Ju, pq_RuO, pq_RuJ, pq_RuI, if_true, if_false]; rw [tk_bit.or (r := hJ S tt) (r2 := hJ S t2) (st := 0) (st2 := 0) (fun w9 hv9 => (by rw [Nat.zero_add]; have v := g21.1 w9 hv9; rw [Nat.zero_add] at v; simp only [pq_IuO, pq_IuJ, pq_Iu, pq_JuO, pq_JuI, pq_Ju, pq_RuO, pq_RuJ, pq_RuI, if_true, if_false, nth, n2h] at v; exact v))]; exact or_congr (hE.2.2.2 q) (hE2.2.2.2 q)))) dX2_addChoice_47
  · skip
    refine pq_aload_n F dX2_addChoice_32 rfl rfl ?_
    refine pq_get F hb (by decide) lk_X2_24 zb dX2_addChoice_33 ?_
    refine pq_if_eq (tgt := 43) F dX2_addChoice_36 (by decide) (fun c36 => ?_) (fun c36 => ?_)
    · skip
      refine pq_iconst (v := 0) F dX2_addChoice_43 (by decide) ?_
      refine pq_putZ F ha (by decide) lp_X2_24 rfl (by focus ((try clear hE); (try clear hE2); (try clear g5); (try clear g13); (try clear g10); (try clear g19); (try clear g9); (try clear g21); (try clear g16); (try clear g31); (try clear g43); (try clear p1); (try clear hb9); (try clear zb); (try clear zb1); (try clear zb2); (try clear za); (try clear za1); (try clear za2); simp only [vp_in_iff, Int32.lt_iff_toInt_lt, Int32.le_iff_toInt_le, ← Int32.toInt_inj, Int32.toInt_add, Int32.toInt_sub, Int32.toInt_mul, Int32.toInt_neg, pq_NuO, pq_NuI, pq_NuJ, pq_NuR, pq_shr6, pq_shr7, pq_shr8, lqm1, lq0, lq1] at *; (try simp (disch := omega) only [pq_bm] at *); all_goals omega)) (by focus ((try clear hE); (try clear hE2); (try clear g5); (try clear g13); (try clear g10); (try clear g19); (try clear g9); (try clear g21); (try clear g16); (try clear g31); (try clear g43); (try clear p1); (try clear hb9); (try clear zb); (try clear zb1); (try clear zb2); (try clear za); (try clear za1); (try clear za2); simp only [vp_in_iff, Int32.lt_iff_toInt_lt, Int32.le_iff_toInt_le, ← Int32.toInt_inj, Int32.toInt_add, Int32.toInt_sub, Int32.toInt_mul, Int32.toInt_neg, pq_NuO, pq_NuI, pq_NuJ, pq_NuR, pq_shr6, pq_shr7, pq_shr8, lqm1, lq0, lq1] at *; (try simp (disch := omega) only [pq_bm] at *); all_goals omega)) dX2_addChoice_44 ?_
      exact pq_vret F hr hlk hA (Nat.le_refl _) (Nat.le_refl _) ((by refine ⟨rfl, (((pq_Fr.rf.uJ hE.r0 (by first | decide | exact List.mem_cons_self)).uJ hE.r1 (by first | decide | exact List.mem_cons_self)).uO ha (by decide)), ((tk_AF.rf.jh).jt).jo, hE.up (((tk_AF.rf.jh).jt).jo) pq_ks (Or.inl rfl) (fun q => ?_) ⟨fun w => w.elim (fun v => (by have := za2.mp v; rw [c29] at this; exact absurd this (by decide))) (fun v => (by have := zb2.mp v; rw [c36] at this; exact absurd this (by decide))), fun w => absurd w (by decide)⟩ (fun q => ?_)⟩; (simp only [pq_IuO, pq_IuJ, pq_Iu, pq_JuO, pq_JuI, pq_Ju, pq_RuO, pq_RuJ, pq_RuI, if_true, if_false, nht]; rw [tk_bit.or (r := hJ S hh) (r2 := hJ S h2) (st := 0) (st2 := 0) (fun w9 hv9 => (by rw [Nat.zero_add]; have v := g9.1 w9 hv9; rw [Nat.zero_add] at v; exact v))]; exact or_congr (hE.2.2.1 q) (hE2.2.2.1 q)); (simp only [pq_IuO, pq_IuJ, pq_Iu, pq_JuO, pq_JuI, pq_Ju, pq_RuO, pq_RuJ, pq_RuI, if_true, if_false]; rw [tk_bit.or (r := hJ S tt) (r2 := hJ S t2) (st := 0) (st2 := 0) (fun w9 hv9 => (by rw [Nat.zero_add]; have v := g21.1 w9 hv9; rw [Nat.zero_add] at v; simp only [pq_IuO, pq_IuJ, pq_Iu, pq_JuO, pq_JuI, pq_Ju, pq_RuO, pq_RuJ, pq_RuI, if_true, if_false, nth, n2h] at v; exact v))]; exact or_congr (hE.2.2.2 q) (hE2.2.2.2 q)))) dX2_addChoice_47
    · skip
      refine pq_iconst (v := 1) F dX2_addChoice_39 (by decide) ?_
      refine pq_goto (tgt := 44) F dX2_addChoice_40 (by decide) ?_
      refine pq_putZ F ha (by decide) lp_X2_24 rfl (by focus ((try clear hE); (try clear hE2); (try clear g5); (try clear g13); (try clear g10); (try clear g19); (try clear g9); (try clear g21); (try clear g16); (try clear g31); (try clear g43); (try clear p1); (try clear hb9); (try clear zb); (try clear zb1); (try clear zb2); (try clear za); (try clear za1); (try clear za2); simp only [vp_in_iff, Int32.lt_iff_toInt_lt, Int32.le_iff_toInt_le, ← Int32.toInt_inj, Int32.toInt_add, Int32.toInt_sub, Int32.toInt_mul, Int32.toInt_neg, pq_NuO, pq_NuI, pq_NuJ, pq_NuR, pq_shr6, pq_shr7, pq_shr8, lqm1, lq0, lq1] at *; (try simp (disch := omega) only [pq_bm] at *); all_goals omega)) (by focus ((try clear hE); (try clear hE2); (try clear g5); (try clear g13); (try clear g10); (try clear g19); (try clear g9); (try clear g21); (try clear g16); (try clear g31); (try clear g43); (try clear p1); (try clear hb9); (try clear zb); (try clear zb1); (try clear zb2); (try clear za); (try clear za1); (try clear za2); simp only [vp_in_iff, Int32.lt_iff_toInt_lt, Int32.le_iff_toInt_le, ← Int32.toInt_inj, Int32.toInt_add, Int32.toInt_sub, Int32.toInt_mul, Int32.toInt_neg, pq_NuO, pq_NuI, pq_NuJ, pq_NuR, pq_shr6, pq_shr7, pq_shr8, lqm1, lq0, lq1] at *; (try simp (disch := omega) only [pq_bm] at *); all_goals omega)) dX2_addChoice_44 ?_
      exact pq_vret F hr hlk hA (Nat.le_refl _) (Nat.le_refl _) ((by refine ⟨rfl, (((pq_Fr.rf.uJ hE.r0 (by first | decide | exact List.mem_cons_self)).uJ hE.r1 (by first | decide | exact List.mem_cons_self)).uO ha (by decide)), ((tk_AF.rf.jh).jt).jo, hE.up (((tk_AF.rf.jh).jt).jo) pq_ks (Or.inr rfl) (fun q => ?_) ⟨fun _ => rfl, fun _ => Or.inr (zb2.mpr (zb1.resolve_left c36))⟩ (fun q => ?_)⟩; (simp only [pq_IuO, pq_IuJ, pq_Iu, pq_JuO, pq_JuI, pq_Ju, pq_RuO, pq_RuJ, pq_RuI, if_true, if_false, nht]; rw [tk_bit.or (r := hJ S hh) (r2 := hJ S h2) (st := 0) (st2 := 0) (fun w9 hv9 => (by rw [Nat.zero_add]; have v := g9.1 w9 hv9; rw [Nat.zero_add] at v; exact v))]; exact or_congr (hE.2.2.1 q) (hE2.2.2.1 q)); (simp only [pq_IuO, pq_IuJ, pq_Iu, pq_JuO, pq_JuI, pq_Ju, pq_RuO, pq_RuJ, pq_RuI, if_true, if_false]; rw [tk_bit.or (r := hJ S tt) (r2 := hJ S t2) (st := 0) (st2 := 0) (fun w9 hv9 => (by rw [Nat.zero_add]; have v := g21.1 w9 hv9; rw [Nat.zero_add] at v; simp only [pq_IuO, pq_IuJ, pq_Iu, pq_JuO, pq_JuI, pq_Ju, pq_RuO, pq_RuJ, pq_RuI, if_true, if_false, nth, n2h] at v; exact v))]; exact or_congr (hE.2.2.2 q) (hE2.2.2.2 q)))) dX2_addChoice_47

set_option maxHeartbeats 4000000 in
set_option maxRecDepth 100000 in
theorem k_X2_appendG (l : Launch) (D : va_G) (cy : Nat → ClassId) (S : HS) (a : Nat) (ha : pq_R S a 5) (b : Nat) (hb : pq_R S b 5) (hh tt : Nat) (E : tq_E) (hE : tk_En S a hh tt E) (h2 t2 : Nat) (E2 : tq_E) (hE2 : tk_En S b h2 t2 E2) (n1 : hh ≠ h2) (n2 : tt ≠ t2) : pq_C l D cy yX2_append cX2_append 2 (none) 2 0 0 S [.ref a, .ref b] (fun v S2 => v = none ∧ pq_Fr [(190, 0), (191, 0), (5, 2)] S S2 ∧ (tk_AF S S2 a hh tt ∧ tk_En S2 a hh tt (tq_ap E E2))) := by
  refine pq_start (by decide) (Nat.le_of_ble_eq_true rfl) ?_
  intro p e s m args below meth c A F hr hlk hnm hA
  have lqm1 : (-1 : Int32).toInt = -1 := rfl
  have lq0 : (0 : Int32).toInt = 0 := rfl
  have lq1 : (1 : Int32).toInt = 1 := rfl
  refine pq_lenF hE.r0 (by decide) rfl (fun lh1 lh2 => ?_)
  refine pq_lenF hE.r1 (by decide) rfl (fun lt1 lt2 => ?_)
  have nht := pq_nrole hE.r0 hE.r1 (by decide)
  have nth := pq_nrole hE.r1 hE.r0 (by decide)
  refine pq_lenF hE2.r0 (by decide) rfl (fun lh3 lh4 => ?_)
  refine pq_lenF hE2.r1 (by decide) rfl (fun lt3 lt4 => ?_)
  have n2h := pq_nrole hE2.r1 hE.r0 (by decide)
  have nh2 := pq_nrole hE2.r0 hE.r1 (by decide)
  obtain ⟨z2, zb, zb1, zb2⟩ := hE2.2.1
  obtain ⟨z, za, za1, za2⟩ := hE.2.1
  refine pq_aload_n F dX2_append_0 rfl rfl ?_
  refine pq_get F ha (by decide) lk_X2_24 za dX2_append_1 ?_
  refine pq_if_eq (tgt := 19) F dX2_append_4 (by decide) (fun c4 => ?_) (fun c4 => ?_)
  · skip
    refine pq_aload_n F dX2_append_19 rfl rfl ?_
    refine pq_get F hb (by decide) lk_X2_24 zb dX2_append_20 ?_
    refine pq_if_ne (tgt := 34) F dX2_append_23 (by decide) (fun c23 => ?_) (fun c23 => ?_)
    · skip
      refine pq_aload_n F dX2_append_34 rfl rfl ?_
      refine pq_get F ha (by decide) lk_X2_15 hE.a1 dX2_append_35 ?_
      refine pq_iconst (v := 0) F dX2_append_38 (by decide) ?_
      refine pq_aload_n F dX2_append_39 rfl rfl ?_
      refine pq_get F hb (by decide) lk_X2_15 hE2.a1 dX2_append_40 ?_
      refine pq_lenF hE.r1 (by decide) rfl (fun lna43_0 lnb43_0 => ?_)
      refine pq_lenF hE2.r1 (by decide) rfl (fun lna43_2 lnb43_2 => ?_)
      refine pq_callS (As := [_, _, _]) F (k_X10_addAllG l D cy _ _ 191 ?_ ?_ ?_ _ ?_ _ 191 ?_ ?_ ?_ ?_ ?_ ?_ 0 rfl n2) ml_X2_41 (Nat.le_of_ble_eq_true rfl) ⟨Nat.le_of_ble_eq_true rfl, Nat.le_of_ble_eq_true rfl⟩ ⟨by decide, by decide⟩ dX2_append_43 (fun v43 S43 w43 => ?_)
      · exact hE.r1
      · first | decide | omega
      · first | decide | omega
      · focus ((try clear hE); (try clear hE2); (try clear g5); (try clear g13); (try clear g10); (try clear g19); (try clear g9); (try clear g21); (try clear g16); (try clear g31); (try clear g43); (try clear p1); (try clear hb9); (try clear zb); (try clear zb1); (try clear zb2); (try clear za); (try clear za1); (try clear za2); simp only [vp_in_iff, Int32.lt_iff_toInt_lt, Int32.le_iff_toInt_le, ← Int32.toInt_inj, Int32.toInt_add, Int32.toInt_sub, Int32.toInt_mul, Int32.toInt_neg, pq_NuO, pq_NuI, pq_NuJ, pq_NuR, pq_shr6, pq_shr7, pq_shr8, lqm1, lq0, lq1] at *; (try simp (disch := omega) only [pq_bm] at *); all_goals omega)
      · exact hE2.r1
      · first | decide | omega
      · first | decide | omega
      · ((try simp only [pq_NuJ]); focus ((try clear hE); (try clear hE2); (try clear g5); (try clear g13); (try clear g10); (try clear g19); (try clear g9); (try clear g21); (try clear g16); (try clear g31); (try clear g43); (try clear p1); (try clear hb9); (try clear zb); (try clear zb1); (try clear zb2); (try clear za); (try clear za1); (try clear za2); simp only [vp_in_iff, Int32.lt_iff_toInt_lt, Int32.le_iff_toInt_le, ← Int32.toInt_inj, Int32.toInt_add, Int32.toInt_sub, Int32.toInt_mul, Int32.toInt_neg, pq_NuO, pq_NuI, pq_NuJ, pq_NuR, pq_shr6, pq_shr7, pq_shr8, lqm1, lq0, lq1] at *; (try simp (disch := omega) only [pq_bm] at *); all_goals omega))
      · ((try simp only [pq_NuJ]); focus ((try clear hE); (try clear hE2); (try clear g5); (try clear g13); (try clear g10); (try clear g19); (try clear g9); (try clear g21); (try clear g16); (try clear g31); (try clear g43); (try clear p1); (try clear hb9); (try clear zb); (try clear zb1); (try clear zb2); (try clear za); (try clear za1); (try clear za2); simp only [vp_in_iff, Int32.lt_iff_toInt_lt, Int32.le_iff_toInt_le, ← Int32.toInt_inj, Int32.toInt_add, Int32.toInt_sub, Int32.toInt_mul, Int32.toInt_neg, pq_NuO, pq_NuI, pq_NuJ, pq_NuR, pq_shr6, pq_shr7, pq_shr8, lqm1, lq0, lq1] at *; (try simp (disch := omega) only [pq_bm] at *); all_goals omega))
      · ((try simp only [pq_NuJ]); focus ((try clear hE); (try clear hE2); (try clear g5); (try clear g13); (try clear g10); (try clear g19); (try clear g9); (try clear g21); (try clear g16); (try clear g31); (try clear g43); (try clear p1); (try clear hb9); (try clear zb); (try clear zb1); (try clear zb2); (try clear za); (try clear za1); (try clear za2); simp only [vp_in_iff, Int32.lt_iff_toInt_lt, Int32.le_iff_toInt_le, ← Int32.toInt_inj, Int32.toInt_add, Int32.toInt_sub, Int32.toInt_mul, Int32.toInt_neg, pq_NuO, pq_NuI, pq_NuJ, pq_NuR, pq_shr6, pq_shr7, pq_shr8, lqm1, lq0, lq1] at *; (try simp (disch := omega) only [pq_bm] at *); all_goals omega))
      obtain ⟨rfl, f43, rfl, g43⟩ := w43
      refine pq_aload_n F dX2_append_46 rfl rfl ?_
      refine pq_aload_n F dX2_append_47 rfl rfl ?_
      refine pq_get F ha (by decide) lk_X2_24 za dX2_append_48 ?_
      refine pq_if_eq (tgt := 65) F dX2_append_51 (by decide) (fun c51 => ?_) (fun c51 => ?_)
      · skip
        refine pq_iconst (v := 0) F dX2_append_65 (by decide) ?_
        refine pq_putZ F ha (by decide) lp_X2_24 rfl (by focus ((try clear hE); (try clear hE2); (try clear g5); (try clear g13); (try clear g10); (try clear g19); (try clear g9); (try clear g21); (try clear g16); (try clear g31); (try clear g43); (try clear p1); (try clear hb9); (try clear zb); (try clear zb1); (try clear zb2); (try clear za); (try clear za1); (try clear za2); simp only [vp_in_iff, Int32.lt_iff_toInt_lt, Int32.le_iff_toInt_le, ← Int32.toInt_inj, Int32.toInt_add, Int32.toInt_sub, Int32.toInt_mul, Int32.toInt_neg, pq_NuO, pq_NuI, pq_NuJ, pq_NuR, pq_shr6, pq_shr7, pq_shr8, lqm1, lq0, lq1] at *; (try simp (disch := omega) only [pq_bm] at *); all_goals omega)) (by focus ((try clear hE); (try clear hE2); (try clear g5); (try clear g13); (try clear g10); (try clear g19); (try clear g9); (try clear g21); (try clear g16); (try clear g31); (try clear g43); (try clear p1); (try clear hb9); (try clear zb); (try clear zb1); (try clear zb2); (try clear za); (try clear za1); (try clear za2); simp only [vp_in_iff, Int32.lt_iff_toInt_lt, Int32.le_iff_toInt_le, ← Int32.toInt_inj, Int32.toInt_add, Int32.toInt_sub, Int32.toInt_mul, Int32.toInt_neg, pq_NuO, pq_NuI, pq_NuJ, pq_NuR, pq_shr6, pq_shr7, pq_shr8, lqm1, lq0, lq1] at *; (try simp (disch := omega) only [pq_bm] at *); all_goals omega)) dX2_append_66 ?_
        exact pq_vret F hr hlk hA (Nat.le_refl _) (Nat.le_refl _) ((by refine ⟨rfl, ((pq_Fr.rf.uJ hE.r1 (by first | decide | exact List.mem_cons_self)).uO ha (by decide)), ((tk_AF.rf.jt).jo), hE.up ((tk_AF.rf.jt).jo) pq_ks (Or.inl rfl) (fun q => ?_) ⟨fun w => absurd (za2.mp w.1) (by rw [c51]; decide), fun w => absurd w (by decide)⟩ (fun q => ?_)⟩; (simp only [pq_IuO, pq_IuJ, pq_Iu, pq_JuO, pq_JuI, pq_Ju, pq_RuO, pq_RuJ, pq_RuI, if_true, if_false, nht]; exact ⟨fun w => w.elim (fun v => (hE.2.2.1 q).mp v) (fun v => absurd (za2.mp v.1) (by rw [c4]; decide)), fun w => Or.inl ((hE.2.2.1 q).mpr w)⟩); (simp only [pq_IuO, pq_IuJ, pq_Iu, pq_JuO, pq_JuI, pq_Ju, pq_RuO, pq_RuJ, pq_RuI, if_true, if_false]; rw [tk_bit.or (r := hJ S tt) (r2 := hJ S t2) (st := 0) (st2 := 0) (fun w9 hv9 => (by rw [Nat.zero_add]; have v := g43.1 w9 hv9; rw [Nat.zero_add] at v; (try simp only [pq_IuO, pq_IuJ, pq_Iu, pq_JuO, pq_JuI, pq_Ju, pq_RuO, pq_RuJ, pq_RuI, if_true, if_false, nth, n2h] at v); exact v))]; exact ⟨fun w => w.elim (fun v => Or.inr ((hE2.2.2.2 q).mp v)) (fun v => Or.inl ((hE.2.2.2 q).mp v.1)), fun w => w.elim (fun v => Or.inr ⟨(hE.2.2.2 q).mpr v, zb2.mpr (zb1.resolve_left c23)⟩) (fun v => Or.inl ((hE2.2.2.2 q).mpr v))⟩))) dX2_append_69
      · exact absurd c4 c51
    · skip
      refine pq_aload_n F dX2_append_26 rfl rfl ?_
      refine pq_get F ha (by decide) lk_X2_15 hE.a1 dX2_append_27 ?_
      refine pq_lconst (v := 0) F dX2_append_30 (by decide) ?_
      refine pq_lenF hE.r1 (by decide) rfl (fun lna31_0 lnb31_0 => ?_)
      refine pq_callS (As := [_, _]) F (k_J7_fill_d0a16 l D cy _ _ 191 ?_ ?_ ?_ _ ?_) ml_X2_18 (Nat.le_of_ble_eq_true rfl) ⟨Nat.le_of_ble_eq_true rfl, Nat.le_of_ble_eq_true rfl⟩ ⟨by decide, by decide⟩ dX2_append_31 (fun v31 S31 w31 => ?_)
      · exact hE.r1
      · first | decide | omega
      · first | decide | omega
      · focus ((try clear hE); (try clear hE2); (try clear g5); (try clear g13); (try clear g10); (try clear g19); (try clear g9); (try clear g21); (try clear g16); (try clear g31); (try clear g43); (try clear p1); (try clear hb9); (try clear zb); (try clear zb1); (try clear zb2); (try clear za); (try clear za1); (try clear za2); simp only [vp_in_iff, Int32.lt_iff_toInt_lt, Int32.le_iff_toInt_le, ← Int32.toInt_inj, Int32.toInt_add, Int32.toInt_sub, Int32.toInt_mul, Int32.toInt_neg, pq_NuO, pq_NuI, pq_NuJ, pq_NuR, pq_shr6, pq_shr7, pq_shr8, lqm1, lq0, lq1] at *; (try simp (disch := omega) only [pq_bm] at *); all_goals omega)
      obtain ⟨rfl, f31, rfl, g31⟩ := w31
      refine pq_aload_n F dX2_append_34 rfl rfl ?_
      refine pq_get F ha (by decide) lk_X2_15 hE.a1 dX2_append_35 ?_
      refine pq_iconst (v := 0) F dX2_append_38 (by decide) ?_
      refine pq_aload_n F dX2_append_39 rfl rfl ?_
      refine pq_get F hb (by decide) lk_X2_15 hE2.a1 dX2_append_40 ?_
      refine pq_lenF hE.r1 (by decide) rfl (fun lna43_0 lnb43_0 => ?_)
      refine pq_lenF hE2.r1 (by decide) rfl (fun lna43_2 lnb43_2 => ?_)
      refine pq_callS (As := [_, _, _]) F (k_X10_addAllG l D cy _ _ 191 ?_ ?_ ?_ _ ?_ _ 191 ?_ ?_ ?_ ?_ ?_ ?_ 0 rfl n2) ml_X2_41 (Nat.le_of_ble_eq_true rfl) ⟨Nat.le_of_ble_eq_true rfl, Nat.le_of_ble_eq_true rfl⟩ ⟨by decide, by decide⟩ dX2_append_43 (fun v43 S43 w43 => ?_)
      · exact hE.r1
      · first | decide | omega
      · first | decide | omega
      · focus ((try clear hE); (try clear hE2); (try clear g5); (try clear g13); (try clear g10); (try clear g19); (try clear g9); (try clear g21); (try clear g16); (try clear g31); (try clear g43); (try clear p1); (try clear hb9); (try clear zb); (try clear zb1); (try clear zb2); (try clear za); (try clear za1); (try clear za2); simp only [vp_in_iff, Int32.lt_iff_toInt_lt, Int32.le_iff_toInt_le, ← Int32.toInt_inj, Int32.toInt_add, Int32.toInt_sub, Int32.toInt_mul, Int32.toInt_neg, pq_NuO, pq_NuI, pq_NuJ, pq_NuR, pq_shr6, pq_shr7, pq_shr8, lqm1, lq0, lq1] at *; (try simp (disch := omega) only [pq_bm] at *); all_goals omega)
      · exact hE2.r1
      · first | decide | omega
      · first | decide | omega
      · ((try simp only [pq_NuJ]); focus ((try clear hE); (try clear hE2); (try clear g5); (try clear g13); (try clear g10); (try clear g19); (try clear g9); (try clear g21); (try clear g16); (try clear g31); (try clear g43); (try clear p1); (try clear hb9); (try clear zb); (try clear zb1); (try clear zb2); (try clear za); (try clear za1); (try clear za2); simp only [vp_in_iff, Int32.lt_iff_toInt_lt, Int32.le_iff_toInt_le, ← Int32.toInt_inj, Int32.toInt_add, Int32.toInt_sub, Int32.toInt_mul, Int32.toInt_neg, pq_NuO, pq_NuI, pq_NuJ, pq_NuR, pq_shr6, pq_shr7, pq_shr8, lqm1, lq0, lq1] at *; (try simp (disch := omega) only [pq_bm] at *); all_goals omega))
      · ((try simp only [pq_NuJ]); focus ((try clear hE); (try clear hE2); (try clear g5); (try clear g13); (try clear g10); (try clear g19); (try clear g9); (try clear g21); (try clear g16); (try clear g31); (try clear g43); (try clear p1); (try clear hb9); (try clear zb); (try clear zb1); (try clear zb2); (try clear za); (try clear za1); (try clear za2); simp only [vp_in_iff, Int32.lt_iff_toInt_lt, Int32.le_iff_toInt_le, ← Int32.toInt_inj, Int32.toInt_add, Int32.toInt_sub, Int32.toInt_mul, Int32.toInt_neg, pq_NuO, pq_NuI, pq_NuJ, pq_NuR, pq_shr6, pq_shr7, pq_shr8, lqm1, lq0, lq1] at *; (try simp (disch := omega) only [pq_bm] at *); all_goals omega))
      · ((try simp only [pq_NuJ]); focus ((try clear hE); (try clear hE2); (try clear g5); (try clear g13); (try clear g10); (try clear g19); (try clear g9); (try clear g21); (try clear g16); (try clear g31); (try clear g43); (try clear p1); (try clear hb9); (try clear zb); (try clear zb1); (try clear zb2); (try clear za); (try clear za1); (try clear za2); simp only [vp_in_iff, Int32.lt_iff_toInt_lt, Int32.le_iff_toInt_le, ← Int32.toInt_inj, Int32.toInt_add, Int32.toInt_sub, Int32.toInt_mul, Int32.toInt_neg, pq_NuO, pq_NuI, pq_NuJ, pq_NuR, pq_shr6, pq_shr7, pq_shr8, lqm1, lq0, lq1] at *; (try simp (disch := omega) only [pq_bm] at *); all_goals omega))
      obtain ⟨rfl, f43, rfl, g43⟩ := w43
      refine pq_aload_n F dX2_append_46 rfl rfl ?_
      refine pq_aload_n F dX2_append_47 rfl rfl ?_
      refine pq_get F ha (by decide) lk_X2_24 za dX2_append_48 ?_
      refine pq_if_eq (tgt := 65) F dX2_append_51 (by decide) (fun c51 => ?_) (fun c51 => ?_)
      · skip
        refine pq_iconst (v := 0) F dX2_append_65 (by decide) ?_
        refine pq_putZ F ha (by decide) lp_X2_24 rfl (by focus ((try clear hE); (try clear hE2); (try clear g5); (try clear g13); (try clear g10); (try clear g19); (try clear g9); (try clear g21); (try clear g16); (try clear g31); (try clear g43); (try clear p1); (try clear hb9); (try clear zb); (try clear zb1); (try clear zb2); (try clear za); (try clear za1); (try clear za2); simp only [vp_in_iff, Int32.lt_iff_toInt_lt, Int32.le_iff_toInt_le, ← Int32.toInt_inj, Int32.toInt_add, Int32.toInt_sub, Int32.toInt_mul, Int32.toInt_neg, pq_NuO, pq_NuI, pq_NuJ, pq_NuR, pq_shr6, pq_shr7, pq_shr8, lqm1, lq0, lq1] at *; (try simp (disch := omega) only [pq_bm] at *); all_goals omega)) (by focus ((try clear hE); (try clear hE2); (try clear g5); (try clear g13); (try clear g10); (try clear g19); (try clear g9); (try clear g21); (try clear g16); (try clear g31); (try clear g43); (try clear p1); (try clear hb9); (try clear zb); (try clear zb1); (try clear zb2); (try clear za); (try clear za1); (try clear za2); simp only [vp_in_iff, Int32.lt_iff_toInt_lt, Int32.le_iff_toInt_le, ← Int32.toInt_inj, Int32.toInt_add, Int32.toInt_sub, Int32.toInt_mul, Int32.toInt_neg, pq_NuO, pq_NuI, pq_NuJ, pq_NuR, pq_shr6, pq_shr7, pq_shr8, lqm1, lq0, lq1] at *; (try simp (disch := omega) only [pq_bm] at *); all_goals omega)) dX2_append_66 ?_
        exact pq_vret F hr hlk hA (Nat.le_refl _) (Nat.le_refl _) ((by refine ⟨rfl, (((pq_Fr.rf.uJ hE.r1 (by first | decide | exact List.mem_cons_self)).uJ hE.r1 (by first | decide | exact List.mem_cons_self)).uO ha (by decide)), (((tk_AF.rf.jt).jt).jo), hE.up (((tk_AF.rf.jt).jt).jo) pq_ks (Or.inl rfl) (fun q => ?_) ⟨fun w => absurd (za2.mp w.1) (by rw [c51]; decide), fun w => absurd w (by decide)⟩ (fun q => ?_)⟩; (simp only [pq_IuO, pq_IuJ, pq_Iu, pq_JuO, pq_JuI, pq_Ju, pq_RuO, pq_RuJ, pq_RuI, if_true, if_false, nht]; exact ⟨fun w => w.elim (fun v => (hE.2.2.1 q).mp v) (fun v => absurd (za2.mp v.1) (by rw [c4]; decide)), fun w => Or.inl ((hE.2.2.1 q).mpr w)⟩); (simp only [pq_IuO, pq_IuJ, pq_Iu, pq_JuO, pq_JuI, pq_Ju, pq_RuO, pq_RuJ, pq_RuI, if_true, if_false]; rw [tk_bit.or (r := f31) (r2 := hJ S t2) (st := 0) (st2 := 0) (fun w9 hv9 => (by rw [Nat.zero_add]; have v := g43.1 w9 hv9; rw [Nat.zero_add] at v; simp only [pq_IuO, pq_IuJ, pq_Iu, pq_JuO, pq_JuI, pq_Ju, pq_RuO, pq_RuJ, pq_RuI, if_true, if_false, nth, n2h, Ne.symm n2] at v; exact v))]; exact ⟨fun w => w.elim (fun v => Or.inr ((hE2.2.2.2 q).mp v)) (fun v => absurd (zb2.mp v.2) (by rw [c23]; decide)), fun w => w.elim (fun v => absurd v (tk_bit.z (fun w9 hv9 => g31 _ (by (try simp only [pq_NuJ]); omega)))) (fun v => Or.inl ((hE2.2.2.2 q).mpr v))⟩))) dX2_append_69
      · exact absurd c4 c51
  · skip
    refine pq_aload_n F dX2_append_7 rfl rfl ?_
    refine pq_get F ha (by decide) lk_X2_9 hE.a0 dX2_append_8 ?_
    refine pq_iconst (v := 0) F dX2_append_11 (by decide) ?_
    refine pq_aload_n F dX2_append_12 rfl rfl ?_
    refine pq_get F hb (by decide) lk_X2_9 hE2.a0 dX2_append_13 ?_
    refine pq_lenF hE.r0 (by decide) rfl (fun lna16_0 lnb16_0 => ?_)
    refine pq_lenF hE2.r0 (by decide) rfl (fun lna16_2 lnb16_2 => ?_)
    refine pq_callS (As := [_, _, _]) F (k_X10_addAllG l D cy _ _ 190 ?_ ?_ ?_ _ ?_ _ 190 ?_ ?_ ?_ ?_ ?_ ?_ 0 rfl n1) ml_X2_41 (Nat.le_of_ble_eq_true rfl) ⟨Nat.le_of_ble_eq_true rfl, Nat.le_of_ble_eq_true rfl⟩ ⟨by decide, by decide⟩ dX2_append_16 (fun v16 S16 w16 => ?_)
    · exact hE.r0
    · first | decide | omega
    · first | decide | omega
    · focus ((try clear hE); (try clear hE2); (try clear g5); (try clear g13); (try clear g10); (try clear g19); (try clear g9); (try clear g21); (try clear g16); (try clear g31); (try clear g43); (try clear p1); (try clear hb9); (try clear zb); (try clear zb1); (try clear zb2); (try clear za); (try clear za1); (try clear za2); simp only [vp_in_iff, Int32.lt_iff_toInt_lt, Int32.le_iff_toInt_le, ← Int32.toInt_inj, Int32.toInt_add, Int32.toInt_sub, Int32.toInt_mul, Int32.toInt_neg, pq_NuO, pq_NuI, pq_NuJ, pq_NuR, pq_shr6, pq_shr7, pq_shr8, lqm1, lq0, lq1] at *; (try simp (disch := omega) only [pq_bm] at *); all_goals omega)
    · exact hE2.r0
    · first | decide | omega
    · first | decide | omega
    · focus ((try clear hE); (try clear hE2); (try clear g5); (try clear g13); (try clear g10); (try clear g19); (try clear g9); (try clear g21); (try clear g16); (try clear g31); (try clear g43); (try clear p1); (try clear hb9); (try clear zb); (try clear zb1); (try clear zb2); (try clear za); (try clear za1); (try clear za2); simp only [vp_in_iff, Int32.lt_iff_toInt_lt, Int32.le_iff_toInt_le, ← Int32.toInt_inj, Int32.toInt_add, Int32.toInt_sub, Int32.toInt_mul, Int32.toInt_neg, pq_NuO, pq_NuI, pq_NuJ, pq_NuR, pq_shr6, pq_shr7, pq_shr8, lqm1, lq0, lq1] at *; (try simp (disch := omega) only [pq_bm] at *); all_goals omega)
    · focus ((try clear hE); (try clear hE2); (try clear g5); (try clear g13); (try clear g10); (try clear g19); (try clear g9); (try clear g21); (try clear g16); (try clear g31); (try clear g43); (try clear p1); (try clear hb9); (try clear zb); (try clear zb1); (try clear zb2); (try clear za); (try clear za1); (try clear za2); simp only [vp_in_iff, Int32.lt_iff_toInt_lt, Int32.le_iff_toInt_le, ← Int32.toInt_inj, Int32.toInt_add, Int32.toInt_sub, Int32.toInt_mul, Int32.toInt_neg, pq_NuO, pq_NuI, pq_NuJ, pq_NuR, pq_shr6, pq_shr7, pq_shr8, lqm1, lq0, lq1] at *; (try simp (disch := omega) only [pq_bm] at *); all_goals omega)
    · focus ((try clear hE); (try clear hE2); (try clear g5); (try clear g13); (try clear g10); (try clear g19); (try clear g9); (try clear g21); (try clear g16); (try clear g31); (try clear g43); (try clear p1); (try clear hb9); (try clear zb); (try clear zb1); (try clear zb2); (try clear za); (try clear za1); (try clear za2); simp only [vp_in_iff, Int32.lt_iff_toInt_lt, Int32.le_iff_toInt_le, ← Int32.toInt_inj, Int32.toInt_add, Int32.toInt_sub, Int32.toInt_mul, Int32.toInt_neg, pq_NuO, pq_NuI, pq_NuJ, pq_NuR, pq_shr6, pq_shr7, pq_shr8, lqm1, lq0, lq1] at *; (try simp (disch := omega) only [pq_bm] at *); all_goals omega)
    obtain ⟨rfl, f16, rfl, g16⟩ := w16
    refine pq_aload_n F dX2_append_19 rfl rfl ?_
    refine pq_get F hb (by decide) lk_X2_24 zb dX2_append_20 ?_
    refine pq_if_ne (tgt := 34) F dX2_append_23 (by decide) (fun c23 => ?_) (fun c23 => ?_)
    · skip
      refine pq_aload_n F dX2_append_34 rfl rfl ?_
      refine pq_get F ha (by decide) lk_X2_15 hE.a1 dX2_append_35 ?_
      refine pq_iconst (v := 0) F dX2_append_38 (by decide) ?_
      refine pq_aload_n F dX2_append_39 rfl rfl ?_
      refine pq_get F hb (by decide) lk_X2_15 hE2.a1 dX2_append_40 ?_
      refine pq_lenF hE.r1 (by decide) rfl (fun lna43_0 lnb43_0 => ?_)
      refine pq_lenF hE2.r1 (by decide) rfl (fun lna43_2 lnb43_2 => ?_)
      refine pq_callS (As := [_, _, _]) F (k_X10_addAllG l D cy _ _ 191 ?_ ?_ ?_ _ ?_ _ 191 ?_ ?_ ?_ ?_ ?_ ?_ 0 rfl n2) ml_X2_41 (Nat.le_of_ble_eq_true rfl) ⟨Nat.le_of_ble_eq_true rfl, Nat.le_of_ble_eq_true rfl⟩ ⟨by decide, by decide⟩ dX2_append_43 (fun v43 S43 w43 => ?_)
      · exact hE.r1
      · first | decide | omega
      · first | decide | omega
      · focus ((try clear hE); (try clear hE2); (try clear g5); (try clear g13); (try clear g10); (try clear g19); (try clear g9); (try clear g21); (try clear g16); (try clear g31); (try clear g43); (try clear p1); (try clear hb9); (try clear zb); (try clear zb1); (try clear zb2); (try clear za); (try clear za1); (try clear za2); simp only [vp_in_iff, Int32.lt_iff_toInt_lt, Int32.le_iff_toInt_le, ← Int32.toInt_inj, Int32.toInt_add, Int32.toInt_sub, Int32.toInt_mul, Int32.toInt_neg, pq_NuO, pq_NuI, pq_NuJ, pq_NuR, pq_shr6, pq_shr7, pq_shr8, lqm1, lq0, lq1] at *; (try simp (disch := omega) only [pq_bm] at *); all_goals omega)
      · exact hE2.r1
      · first | decide | omega
      · first | decide | omega
      · ((try simp only [pq_NuJ]); focus ((try clear hE); (try clear hE2); (try clear g5); (try clear g13); (try clear g10); (try clear g19); (try clear g9); (try clear g21); (try clear g16); (try clear g31); (try clear g43); (try clear p1); (try clear hb9); (try clear zb); (try clear zb1); (try clear zb2); (try clear za); (try clear za1); (try clear za2); simp only [vp_in_iff, Int32.lt_iff_toInt_lt, Int32.le_iff_toInt_le, ← Int32.toInt_inj, Int32.toInt_add, Int32.toInt_sub, Int32.toInt_mul, Int32.toInt_neg, pq_NuO, pq_NuI, pq_NuJ, pq_NuR, pq_shr6, pq_shr7, pq_shr8, lqm1, lq0, lq1] at *; (try simp (disch := omega) only [pq_bm] at *); all_goals omega))
      · ((try simp only [pq_NuJ]); focus ((try clear hE); (try clear hE2); (try clear g5); (try clear g13); (try clear g10); (try clear g19); (try clear g9); (try clear g21); (try clear g16); (try clear g31); (try clear g43); (try clear p1); (try clear hb9); (try clear zb); (try clear zb1); (try clear zb2); (try clear za); (try clear za1); (try clear za2); simp only [vp_in_iff, Int32.lt_iff_toInt_lt, Int32.le_iff_toInt_le, ← Int32.toInt_inj, Int32.toInt_add, Int32.toInt_sub, Int32.toInt_mul, Int32.toInt_neg, pq_NuO, pq_NuI, pq_NuJ, pq_NuR, pq_shr6, pq_shr7, pq_shr8, lqm1, lq0, lq1] at *; (try simp (disch := omega) only [pq_bm] at *); all_goals omega))
      · ((try simp only [pq_NuJ]); focus ((try clear hE); (try clear hE2); (try clear g5); (try clear g13); (try clear g10); (try clear g19); (try clear g9); (try clear g21); (try clear g16); (try clear g31); (try clear g43); (try clear p1); (try clear hb9); (try clear zb); (try clear zb1); (try clear zb2); (try clear za); (try clear za1); (try clear za2); simp only [vp_in_iff, Int32.lt_iff_toInt_lt, Int32.le_iff_toInt_le, ← Int32.toInt_inj, Int32.toInt_add, Int32.toInt_sub, Int32.toInt_mul, Int32.toInt_neg, pq_NuO, pq_NuI, pq_NuJ, pq_NuR, pq_shr6, pq_shr7, pq_shr8, lqm1, lq0, lq1] at *; (try simp (disch := omega) only [pq_bm] at *); all_goals omega))
      obtain ⟨rfl, f43, rfl, g43⟩ := w43
      refine pq_aload_n F dX2_append_46 rfl rfl ?_
      refine pq_aload_n F dX2_append_47 rfl rfl ?_
      refine pq_get F ha (by decide) lk_X2_24 za dX2_append_48 ?_
      refine pq_if_eq (tgt := 65) F dX2_append_51 (by decide) (fun c51 => ?_) (fun c51 => ?_)
      · exact absurd c51 c4
      · skip
        refine pq_aload_n F dX2_append_54 rfl rfl ?_
        refine pq_get F hb (by decide) lk_X2_24 zb dX2_append_55 ?_
        refine pq_if_eq (tgt := 65) F dX2_append_58 (by decide) (fun c58 => ?_) (fun c58 => ?_)
        · exact absurd c58 c23
        · skip
          refine pq_iconst (v := 1) F dX2_append_61 (by decide) ?_
          refine pq_goto (tgt := 66) F dX2_append_62 (by decide) ?_
          refine pq_putZ F ha (by decide) lp_X2_24 rfl (by focus ((try clear hE); (try clear hE2); (try clear g5); (try clear g13); (try clear g10); (try clear g19); (try clear g9); (try clear g21); (try clear g16); (try clear g31); (try clear g43); (try clear p1); (try clear hb9); (try clear zb); (try clear zb1); (try clear zb2); (try clear za); (try clear za1); (try clear za2); simp only [vp_in_iff, Int32.lt_iff_toInt_lt, Int32.le_iff_toInt_le, ← Int32.toInt_inj, Int32.toInt_add, Int32.toInt_sub, Int32.toInt_mul, Int32.toInt_neg, pq_NuO, pq_NuI, pq_NuJ, pq_NuR, pq_shr6, pq_shr7, pq_shr8, lqm1, lq0, lq1] at *; (try simp (disch := omega) only [pq_bm] at *); all_goals omega)) (by focus ((try clear hE); (try clear hE2); (try clear g5); (try clear g13); (try clear g10); (try clear g19); (try clear g9); (try clear g21); (try clear g16); (try clear g31); (try clear g43); (try clear p1); (try clear hb9); (try clear zb); (try clear zb1); (try clear zb2); (try clear za); (try clear za1); (try clear za2); simp only [vp_in_iff, Int32.lt_iff_toInt_lt, Int32.le_iff_toInt_le, ← Int32.toInt_inj, Int32.toInt_add, Int32.toInt_sub, Int32.toInt_mul, Int32.toInt_neg, pq_NuO, pq_NuI, pq_NuJ, pq_NuR, pq_shr6, pq_shr7, pq_shr8, lqm1, lq0, lq1] at *; (try simp (disch := omega) only [pq_bm] at *); all_goals omega)) dX2_append_66 ?_
          exact pq_vret F hr hlk hA (Nat.le_refl _) (Nat.le_refl _) ((by refine ⟨rfl, (((pq_Fr.rf.uJ hE.r0 (by first | decide | exact List.mem_cons_self)).uJ hE.r1 (by first | decide | exact List.mem_cons_self)).uO ha (by decide)), (((tk_AF.rf.jh).jt).jo), hE.up (((tk_AF.rf.jh).jt).jo) pq_ks (Or.inr rfl) (fun q => ?_) ⟨fun _ => rfl, fun _ => ⟨za2.mpr (za1.resolve_left c51), zb2.mpr (zb1.resolve_left c58)⟩⟩ (fun q => ?_)⟩; (simp only [pq_IuO, pq_IuJ, pq_Iu, pq_JuO, pq_JuI, pq_Ju, pq_RuO, pq_RuJ, pq_RuI, if_true, if_false, nht]; rw [tk_bit.or (r := hJ S hh) (r2 := hJ S h2) (st := 0) (st2 := 0) (fun w9 hv9 => (by rw [Nat.zero_add]; have v := g16.1 w9 hv9; rw [Nat.zero_add] at v; exact v))]; exact or_congr (hE.2.2.1 q) ((and_iff_right (za2.mpr (za1.resolve_left c4))).trans (hE2.2.2.1 q))); (simp only [pq_IuO, pq_IuJ, pq_Iu, pq_JuO, pq_JuI, pq_Ju, pq_RuO, pq_RuJ, pq_RuI, if_true, if_false]; rw [tk_bit.or (r := hJ S tt) (r2 := hJ S t2) (st := 0) (st2 := 0) (fun w9 hv9 => (by rw [Nat.zero_add]; have v := g43.1 w9 hv9; rw [Nat.zero_add] at v; (try simp only [pq_IuO, pq_IuJ, pq_Iu, pq_JuO, pq_JuI, pq_Ju, pq_RuO, pq_RuJ, pq_RuI, if_true, if_false, nth, n2h] at v); exact v))]; exact ⟨fun w => w.elim (fun v => Or.inr ((hE2.2.2.2 q).mp v)) (fun v => Or.inl ((hE.2.2.2 q).mp v.1)), fun w => w.elim (fun v => Or.inr ⟨(hE.2.2.2 q).mpr v, zb2.mpr (zb1.resolve_left c23)⟩) (fun v => Or.inl ((hE2.2.2.2 q).mpr v))⟩))) dX2_append_69
    · skip
      refine pq_aload_n F dX2_append_26 rfl rfl ?_
      refine pq_get F ha (by decide) lk_X2_15 hE.a1 dX2_append_27 ?_
      refine pq_lconst (v := 0) F dX2_append_30 (by decide) ?_
      refine pq_lenF hE.r1 (by decide) rfl (fun lna31_0 lnb31_0 => ?_)
      refine pq_callS (As := [_, _]) F (k_J7_fill_d0a16 l D cy _ _ 191 ?_ ?_ ?_ _ ?_) ml_X2_18 (Nat.le_of_ble_eq_true rfl) ⟨Nat.le_of_ble_eq_true rfl, Nat.le_of_ble_eq_true rfl⟩ ⟨by decide, by decide⟩ dX2_append_31 (fun v31 S31 w31 => ?_)
      · exact hE.r1
      · first | decide | omega
      · first | decide | omega
      · focus ((try clear hE); (try clear hE2); (try clear g5); (try clear g13); (try clear g10); (try clear g19); (try clear g9); (try clear g21); (try clear g16); (try clear g31); (try clear g43); (try clear p1); (try clear hb9); (try clear zb); (try clear zb1); (try clear zb2); (try clear za); (try clear za1); (try clear za2); simp only [vp_in_iff, Int32.lt_iff_toInt_lt, Int32.le_iff_toInt_le, ← Int32.toInt_inj, Int32.toInt_add, Int32.toInt_sub, Int32.toInt_mul, Int32.toInt_neg, pq_NuO, pq_NuI, pq_NuJ, pq_NuR, pq_shr6, pq_shr7, pq_shr8, lqm1, lq0, lq1] at *; (try simp (disch := omega) only [pq_bm] at *); all_goals omega)
      obtain ⟨rfl, f31, rfl, g31⟩ := w31
      refine pq_aload_n F dX2_append_34 rfl rfl ?_
      refine pq_get F ha (by decide) lk_X2_15 hE.a1 dX2_append_35 ?_
      refine pq_iconst (v := 0) F dX2_append_38 (by decide) ?_
      refine pq_aload_n F dX2_append_39 rfl rfl ?_
      refine pq_get F hb (by decide) lk_X2_15 hE2.a1 dX2_append_40 ?_
      refine pq_lenF hE.r1 (by decide) rfl (fun lna43_0 lnb43_0 => ?_)
      refine pq_lenF hE2.r1 (by decide) rfl (fun lna43_2 lnb43_2 => ?_)
      refine pq_callS (As := [_, _, _]) F (k_X10_addAllG l D cy _ _ 191 ?_ ?_ ?_ _ ?_ _ 191 ?_ ?_ ?_ ?_ ?_ ?_ 0 rfl n2) ml_X2_41 (Nat.le_of_ble_eq_true rfl) ⟨Nat.le_of_ble_eq_true rfl, Nat.le_of_ble_eq_true rfl⟩ ⟨by decide, by decide⟩ dX2_append_43 (fun v43 S43 w43 => ?_)
      · exact hE.r1
      · first | decide | omega
      · first | decide | omega
      · focus ((try clear hE); (try clear hE2); (try clear g5); (try clear g13); (try clear g10); (try clear g19); (try clear g9); (try clear g21); (try clear g16); (try clear g31); (try clear g43); (try clear p1); (try clear hb9); (try clear zb); (try clear zb1); (try clear zb2); (try clear za); (try clear za1); (try clear za2); simp only [vp_in_iff, Int32.lt_iff_toInt_lt, Int32.le_iff_toInt_le, ← Int32.toInt_inj, Int32.toInt_add, Int32.toInt_sub, Int32.toInt_mul, Int32.toInt_neg, pq_NuO, pq_NuI, pq_NuJ, pq_NuR, pq_shr6, pq_shr7, pq_shr8, lqm1, lq0, lq1] at *; (try simp (disch := omega) only [pq_bm] at *); all_goals omega)
      · exact hE2.r1
      · first | decide | omega
      · first | decide | omega
      · ((try simp only [pq_NuJ]); focus ((try clear hE); (try clear hE2); (try clear g5); (try clear g13); (try clear g10); (try clear g19); (try clear g9); (try clear g21); (try clear g16); (try clear g31); (try clear g43); (try clear p1); (try clear hb9); (try clear zb); (try clear zb1); (try clear zb2); (try clear za); (try clear za1); (try clear za2); simp only [vp_in_iff, Int32.lt_iff_toInt_lt, Int32.le_iff_toInt_le, ← Int32.toInt_inj, Int32.toInt_add, Int32.toInt_sub, Int32.toInt_mul, Int32.toInt_neg, pq_NuO, pq_NuI, pq_NuJ, pq_NuR, pq_shr6, pq_shr7, pq_shr8, lqm1, lq0, lq1] at *; (try simp (disch := omega) only [pq_bm] at *); all_goals omega))
      · ((try simp only [pq_NuJ]); focus ((try clear hE); (try clear hE2); (try clear g5); (try clear g13); (try clear g10); (try clear g19); (try clear g9); (try clear g21); (try clear g16); (try clear g31); (try clear g43); (try clear p1); (try clear hb9); (try clear zb); (try clear zb1); (try clear zb2); (try clear za); (try clear za1); (try clear za2); simp only [vp_in_iff, Int32.lt_iff_toInt_lt, Int32.le_iff_toInt_le, ← Int32.toInt_inj, Int32.toInt_add, Int32.toInt_sub, Int32.toInt_mul, Int32.toInt_neg, pq_NuO, pq_NuI, pq_NuJ, pq_NuR, pq_shr6, pq_shr7, pq_shr8, lqm1, lq0, lq1] at *; (try simp (disch := omega) only [pq_bm] at *); all_goals omega))
      · ((try simp only [pq_NuJ]); focus ((try clear hE); (try clear hE2); (try clear g5); (try clear g13); (try clear g10); (try clear g19); (try clear g9); (try clear g21); (try clear g16); (try clear g31); (try clear g43); (try clear p1); (try clear hb9); (try clear zb); (try clear zb1); (try clear zb2); (try clear za); (try clear za1); (try clear za2); simp only [vp_in_iff, Int32.lt_iff_toInt_lt, Int32.le_iff_toInt_le, ← Int32.toInt_inj, Int32.toInt_add, Int32.toInt_sub, Int32.toInt_mul, Int32.toInt_neg, pq_NuO, pq_NuI, pq_NuJ, pq_NuR, pq_shr6, pq_shr7, pq_shr8, lqm1, lq0, lq1] at *; (try simp (disch := omega) only [pq_bm] at *); all_goals omega))
      obtain ⟨rfl, f43, rfl, g43⟩ := w43
      refine pq_aload_n F dX2_append_46 rfl rfl ?_
      refine pq_aload_n F dX2_append_47 rfl rfl ?_
      refine pq_get F ha (by decide) lk_X2_24 za dX2_append_48 ?_
      refine pq_if_eq (tgt := 65) F dX2_append_51 (by decide) (fun c51 => ?_) (fun c51 => ?_)
      · exact absurd c51 c4
      · skip
        refine pq_aload_n F dX2_append_54 rfl rfl ?_
        refine pq_get F hb (by decide) lk_X2_24 zb dX2_append_55 ?_
        refine pq_if_eq (tgt := 65) F dX2_append_58 (by decide) (fun c58 => ?_) (fun c58 => ?_)
        · skip
          refine pq_iconst (v := 0) F dX2_append_65 (by decide) ?_
          refine pq_putZ F ha (by decide) lp_X2_24 rfl (by focus ((try clear hE); (try clear hE2); (try clear g5); (try clear g13); (try clear g10); (try clear g19); (try clear g9); (try clear g21); (try clear g16); (try clear g31); (try clear g43); (try clear p1); (try clear hb9); (try clear zb); (try clear zb1); (try clear zb2); (try clear za); (try clear za1); (try clear za2); simp only [vp_in_iff, Int32.lt_iff_toInt_lt, Int32.le_iff_toInt_le, ← Int32.toInt_inj, Int32.toInt_add, Int32.toInt_sub, Int32.toInt_mul, Int32.toInt_neg, pq_NuO, pq_NuI, pq_NuJ, pq_NuR, pq_shr6, pq_shr7, pq_shr8, lqm1, lq0, lq1] at *; (try simp (disch := omega) only [pq_bm] at *); all_goals omega)) (by focus ((try clear hE); (try clear hE2); (try clear g5); (try clear g13); (try clear g10); (try clear g19); (try clear g9); (try clear g21); (try clear g16); (try clear g31); (try clear g43); (try clear p1); (try clear hb9); (try clear zb); (try clear zb1); (try clear zb2); (try clear za); (try clear za1); (try clear za2); simp only [vp_in_iff, Int32.lt_iff_toInt_lt, Int32.le_iff_toInt_le, ← Int32.toInt_inj, Int32.toInt_add, Int32.toInt_sub, Int32.toInt_mul, Int32.toInt_neg, pq_NuO, pq_NuI, pq_NuJ, pq_NuR, pq_shr6, pq_shr7, pq_shr8, lqm1, lq0, lq1] at *; (try simp (disch := omega) only [pq_bm] at *); all_goals omega)) dX2_append_66 ?_
          exact pq_vret F hr hlk hA (Nat.le_refl _) (Nat.le_refl _) ((by refine ⟨rfl, ((((pq_Fr.rf.uJ hE.r0 (by first | decide | exact List.mem_cons_self)).uJ hE.r1 (by first | decide | exact List.mem_cons_self)).uJ hE.r1 (by first | decide | exact List.mem_cons_self)).uO ha (by decide)), ((((tk_AF.rf.jh).jt).jt).jo), hE.up ((((tk_AF.rf.jh).jt).jt).jo) pq_ks (Or.inl rfl) (fun q => ?_) ⟨fun w => absurd (zb2.mp w.2) (by rw [c58]; decide), fun w => absurd w (by decide)⟩ (fun q => ?_)⟩; (simp only [pq_IuO, pq_IuJ, pq_Iu, pq_JuO, pq_JuI, pq_Ju, pq_RuO, pq_RuJ, pq_RuI, if_true, if_false, nht]; rw [tk_bit.or (r := hJ S hh) (r2 := hJ S h2) (st := 0) (st2 := 0) (fun w9 hv9 => (by rw [Nat.zero_add]; have v := g16.1 w9 hv9; rw [Nat.zero_add] at v; exact v))]; exact or_congr (hE.2.2.1 q) ((and_iff_right (za2.mpr (za1.resolve_left c4))).trans (hE2.2.2.1 q))); (simp only [pq_IuO, pq_IuJ, pq_Iu, pq_JuO, pq_JuI, pq_Ju, pq_RuO, pq_RuJ, pq_RuI, if_true, if_false]; rw [tk_bit.or (r := f31) (r2 := hJ S t2) (st := 0) (st2 := 0) (fun w9 hv9 => (by rw [Nat.zero_add]; have v := g43.1 w9 hv9; rw [Nat.zero_add] at v; simp only [pq_IuO, pq_IuJ, pq_Iu, pq_JuO, pq_JuI, pq_Ju, pq_RuO, pq_RuJ, pq_RuI, if_true, if_false, nth, n2h, Ne.symm n2] at v; exact v))]; exact ⟨fun w => w.elim (fun v => Or.inr ((hE2.2.2.2 q).mp v)) (fun v => absurd (zb2.mp v.2) (by rw [c23]; decide)), fun w => w.elim (fun v => absurd v (tk_bit.z (fun w9 hv9 => g31 _ (by (try simp only [pq_NuJ]); omega)))) (fun v => Or.inl ((hE2.2.2.2 q).mpr v))⟩))) dX2_append_69
        · exact absurd c23 c58

