/-- from p it is m steps along f to 0 -/
def pq_rt (f : Nat → Int32) : Nat → Int32 → Prop
  | 0, p => p = 0
  | m + 1, p => ¬ p = 0 ∧ 0 ≤ p.toInt ∧ p.toInt < 161604 ∧ pq_rt f m (f p.toNatClampNeg)
theorem pq_rt_m1 {f : Nat → Int32} : ∀ m, ¬ pq_rt f m (-1)
  | 0, h => absurd (show (-1 : Int32) = 0 from h) (by decide)
  | m + 1, h => absurd (show 0 ≤ (-1 : Int32).toInt from h.2.1) (by decide)
theorem pq_rt_upd {f : Nat → Int32} {t : Nat} {v : Int32} (ht : f t = -1) : ∀ (m : Nat) (p : Int32), pq_rt f m p → pq_rt (upd f t v) m p
  | 0, p, h => h
  | m + 1, p, ⟨h1, h2, h3, h4⟩ => by
    have hne : p.toNatClampNeg ≠ t := fun e => by rw [e, ht] at h4; exact pq_rt_m1 m h4
    refine ⟨h1, h2, h3, ?_⟩
    rw [pk_un hne]
    exact pq_rt_upd ht m _ h4
theorem pq_un_lt {f : Nat → Int32} {x : Int32} {i : Nat} (h : f i = x) : ∀ n, i < n → pq_un f x n < n
  | 0, hi => absurd hi (Nat.not_lt_zero _)
  | n + 1, hi => by
    by_cases e : n = i
    · subst e
      have := pq_un_le f x n
      simp only [pq_un, h, if_true]; omega
    · have := pq_un_lt (f := f) (x := x) h n (by omega)
      simp only [pq_un]; split <;> omega
theorem pq_un_add {f : Nat → Int32} {x v : Int32} {i : Nat} (h : f i = x) (hv : ¬ v = x) : ∀ n, i < n → pq_un (upd f i v) x n = pq_un f x n + 1
  | 0, hi => absurd hi (Nat.not_lt_zero _)
  | n + 1, hi => by
    by_cases e : n = i
    · subst e
      have h0 : ∀ k, k ≤ n → pq_un (upd f n v) x k = pq_un f x k := by
        intro k
        induction k with
        | zero => intro _; rfl
        | succ k ih => intro hk; simp only [pq_un, pk_un (show k ≠ n by omega), ih (by omega)]
      simp only [pq_un, pk_us, hv, h, if_true, if_false, h0 n (Nat.le_refl _)]
    · simp only [pq_un, pk_un e, pq_un_add h hv n (by omega)]; omega
/-- the queue q of n pairs, each found from one ahead of it -/
def pq_bf (q f : Nat → Int32) (n : Nat) : Prop := n ≤ pq_un f (-1) 161604 ∧ f 0 = 0 ∧ ∀ k, k < n → (0 ≤ (q k).toInt ∧ (q k).toInt < 161604) ∧ ∃ m, m ≤ k ∧ pq_rt f m (q k)
theorem pq_bf.add {q f : Nat → Int32} {n m : Nat} {pr t : Int32} (H : pq_bf q f n) (ht0 : 0 ≤ t.toInt) (ht1 : t.toInt < 161604) (hf : f t.toNatClampNeg = -1) (hm : m + 1 ≤ n) (hr : pq_rt f m pr) (hp : 0 ≤ pr.toInt) : n < 161604 ∧ pq_bf (upd q n t) (upd f t.toNatClampNeg pr) (n + 1) := by
  have ct := pq_cl ht0
  have hi : t.toNatClampNeg < 161604 := by omega
  have hne : ¬ pr = -1 := fun e => by rw [e] at hp; exact absurd hp (by decide)
  have h1 := pq_un_lt hf 161604 hi
  have h2 := pq_un_add hf hne 161604 hi
  have ht : ¬ t = 0 := fun e => by
    have h3 := H.2.1
    rw [e] at hf
    rw [show (0 : Int32).toNatClampNeg = 0 from rfl, h3] at hf
    exact absurd hf (by decide)
  refine ⟨by have := H.1; omega, by have := H.1; omega, ?_, fun k hk => ?_⟩
  · rw [pk_un]
    · exact H.2.1
    · intro e
      apply ht
      apply Int32.toInt_inj.mp
      show t.toInt = 0
      omega
  · by_cases e : k = n
    · subst e
      rw [pk_us]
      refine ⟨⟨ht0, ht1⟩, m + 1, hm, ht, ht0, ht1, ?_⟩
      rw [pk_us]
      exact pq_rt_upd hf m pr hr
    · rw [pk_un e]
      obtain ⟨g1, m1, g2, g3⟩ := H.2.2 k (by omega)
      exact ⟨g1, m1, g2, pq_rt_upd hf m1 _ g3⟩
theorem pq_un_all {f : Nat → Int32} {x : Int32} : ∀ n, (∀ j, j < n → f j = x) → pq_un f x n = 0
  | 0, _ => rfl
  | n + 1, h => by simp only [pq_un, h n (by omega), if_true, pq_un_all n (fun j hj => h j (by omega))]
theorem pq_bf.start {q f : Nat → Int32} (h : ∀ j, j < 161604 → f j = -1) : pq_bf (upd q 0 0) (upd f 0 0) 1 := by
  have h1 := pq_un_add (f := f) (x := -1) (v := 0) (i := 0) (h 0 (by omega)) (by decide) 161604 (by omega)
  refine ⟨by omega, pk_us, fun k hk => ?_⟩
  have e : k = 0 := by omega
  subst e
  rw [pk_us]
  exact ⟨⟨by decide, by decide⟩, 0, Nat.le_refl _, rfl⟩

set_option maxHeartbeats 4000000 in
set_option maxRecDepth 100000 in
theorem k_X11_tell (l : Launch) (D : va_G) (cy : Nat → ClassId) (S : HS) (a : Nat) (ha : pq_R S a 14) (af m0 : Nat) (pr : Int32) (e43 : hO S a 43 = .ref af) (haf : pq_R S af 139) (e41 : hO S a 41 = .int 0) (hm0 : m0 ≤ 161603) (hr0 : pq_rt (hI S af) m0 pr) : pq_C l D cy yX11_tell cX11_tell 4 (some .int) 1 0 0 S [.ref a, .int pr] (fun v S2 => pq_Fr [(14, 41), (101, 0)] S S2 ∧ ∃ x : Int32, v = some (.int x)) := by
  refine pq_start (by decide) (Nat.le_of_ble_eq_true rfl) ?_
  intro p e s m args below meth c A F hr hlk hnm hA
  have qm1 : (-1 : Int32).toInt = -1 := rfl
  have q0 : (0 : Int32).toInt = 0 := rfl
  have q1 : (1 : Int32).toInt = 1 := rfl
  have L33 : ∀  (fu : Nat) (S1 : HS) (k w : Int32) (mm : Nat) (hF : pq_Fr [(14, 41), (101, 0)] S S1) (hk : k.toInt = (mm : Int)) (hmm : mm ≤ 161603) (hrt : pq_rt (hI S af) mm w), mm < fu → pq_At p l e (pq_rm 1 0 0) s m args below meth c (pq_Z below args s D cy S 0 0 (fun v S2 => pq_Fr [(14, 41), (101, 0)] S S2 ∧ ∃ x : Int32, v = some (.int x))) D cy A 4 0 0 33 S1 [some (.ref a), some (.int pr), some (.int k), some (.int w)] [] := by
    intro  fu
    induction fu with
    | zero => intro S1 k w mm hF hk hmm hrt hm; exact absurd hm (Nat.not_lt_zero _)
    | succ fu ih =>
      intro S1 k w mm hF hk hmm hrt hm
      have ha1 := hF.R ha (by decide)
      have haf1 := hF.R haf (by decide)
      have e43a := hF.O ha (by decide) (by decide) e43
      have if1 := hF.I haf (by decide) (by decide)
      refine pq_iload_n F dX11_tell_33 rfl rfl ?_
      refine pq_if_eq (tgt := 62) F dX11_tell_34 (by decide) (fun c34 => ?_) (fun c34 => ?_)
      · skip
        refine pq_aload_n F dX11_tell_62 rfl rfl ?_
        refine pq_getI F ha1 (by decide) lk_X11_276 rfl dX11_tell_63 (fun x63 e63 l63 u63 => ?_)
        exact pq_iret F hr hlk hA (Nat.le_refl _) (Nat.le_refl _) (⟨hF, _, rfl⟩) dX11_tell_66
      · skip
        obtain ⟨m1, rfl⟩ : ∃ m1, mm = m1 + 1 := (by cases mm with | zero => exact absurd hrt c34 | succ k => exact ⟨k, rfl⟩)
        obtain ⟨g1, g2, g3, g4⟩ := hrt
        refine pq_iinc (v := -1) F dX11_tell_37 rfl (by decide) (by decide) ?_
        refine pq_aload_n F dX11_tell_40 rfl rfl ?_
        refine pq_getR F ha1 (by decide) lk_X11_229 rfl dX11_tell_41 (fun r41 e41 h41 => ?_)
        refine pq_iload_n F dX11_tell_44 rfl rfl ?_
        refine pq_aload_n F dX11_tell_45 rfl rfl ?_
        refine pq_getR F ha1 (by decide) lk_X11_238 rfl dX11_tell_46 (fun r46 e46 h46 => ?_)
        refine pq_iload_n F dX11_tell_49 rfl rfl ?_
        refine pq_bald F h46 (by decide) (by decide) rfl (fun n1_50 n2_50 => (by simp only [vp_in_iff, Int32.lt_iff_toInt_lt, Int32.le_iff_toInt_le, ← Int32.toInt_inj, Int32.toInt_add, Int32.toInt_sub, Int32.toInt_mul, Int32.toInt_neg, pq_NuO, pq_NuI, pq_NuJ, qm1, q0, q1] at *; (try simp (disch := omega) only [pq_bm] at *); all_goals omega)) dX11_tell_50 (fun x50 e50 l50 u50 => ?_)
        refine pq_bast F h41 (by decide) (by decide) rfl (fun n1_51 n2_51 => (by simp only [vp_in_iff, Int32.lt_iff_toInt_lt, Int32.le_iff_toInt_le, ← Int32.toInt_inj, Int32.toInt_add, Int32.toInt_sub, Int32.toInt_mul, Int32.toInt_neg, pq_NuO, pq_NuI, pq_NuJ, qm1, q0, q1] at *; (try simp (disch := omega) only [pq_bm] at *); all_goals omega)) (pq_nb _) dX11_tell_51 ?_
        refine pq_aload_n F dX11_tell_52 rfl rfl ?_
        refine pq_get F ha1 (by decide) lk_X11_235 e43a dX11_tell_53 ?_
        refine pq_iload_n F dX11_tell_56 rfl rfl ?_
        refine pq_iald F haf1 (by decide) (by decide) rfl (fun n1_57 n2_57 => (by simp only [vp_in_iff, Int32.lt_iff_toInt_lt, Int32.le_iff_toInt_le, ← Int32.toInt_inj, Int32.toInt_add, Int32.toInt_sub, Int32.toInt_mul, Int32.toInt_neg, pq_NuO, pq_NuI, pq_NuJ, qm1, q0, q1] at *; (try simp (disch := omega) only [pq_bm] at *); all_goals omega)) dX11_tell_57 (fun x57 e57 l57 u57 => ?_)
        refine pq_istore_n F dX11_tell_58 rfl (by decide) ?_
        refine pq_goto (tgt := 33) F dX11_tell_59 (by decide) ?_
        exact ih _ _ _ m1 (hF.uI h41 (by decide)) (by simp only [vp_in_iff, Int32.lt_iff_toInt_lt, Int32.le_iff_toInt_le, ← Int32.toInt_inj, Int32.toInt_add, Int32.toInt_sub, Int32.toInt_mul, Int32.toInt_neg, pq_NuO, pq_NuI, pq_NuJ, qm1, q0, q1] at *; (try simp (disch := omega) only [pq_bm] at *); all_goals omega) (by omega) (by rw [show x57 = hI S af w.toNatClampNeg from e57.trans (by first | exact congrFun if1 _ | (rw [← if1]; exact congrFun (pq_Ib haf1 h41 (by decide)) _))]; exact g4) (by omega)
  have L2 : ∀  (fu : Nat) (S1 : HS) (w tl : Int32) (mm : Nat) (hF : pq_Fr [(14, 41), (101, 0)] S S1) (ht : hO S1 a 41 = .int tl) (hk : tl.toInt + (mm : Int) = (m0 : Int)) (hk0 : 0 ≤ tl.toInt) (hrt : pq_rt (hI S af) mm w), mm < fu → pq_At p l e (pq_rm 1 0 0) s m args below meth c (pq_Z below args s D cy S 0 0 (fun v S2 => pq_Fr [(14, 41), (101, 0)] S S2 ∧ ∃ x : Int32, v = some (.int x))) D cy A 4 0 0 2 S1 [some (.ref a), some (.int pr), some (.int w), none] [] := by
    intro  fu
    induction fu with
    | zero => intro S1 w tl mm hF ht hk hk0 hrt hm; exact absurd hm (Nat.not_lt_zero _)
    | succ fu ih =>
      intro S1 w tl mm hF ht hk hk0 hrt hm
      have ha1 := hF.R ha (by decide)
      have haf1 := hF.R haf (by decide)
      have e43a := hF.O ha (by decide) (by decide) e43
      have if1 := hF.I haf (by decide) (by decide)
      refine pq_iload_n F dX11_tell_2 rfl rfl ?_
      refine pq_if_eq (tgt := 26) F dX11_tell_3 (by decide) (fun c3 => ?_) (fun c3 => ?_)
      · skip
        have hm9 : mm = 0 := (by cases mm with | zero => rfl | succ k => exact absurd c3 hrt.1)
        refine pq_aload_n F dX11_tell_26 rfl rfl ?_
        refine pq_get F ha1 (by decide) lk_X11_276 ht dX11_tell_27 ?_
        refine pq_istore_n F dX11_tell_30 rfl (by decide) ?_
        refine pq_iload_n F dX11_tell_31 rfl rfl ?_
        refine pq_istore_n F dX11_tell_32 rfl (by decide) ?_
        exact L33 200000 _ tl pr m0 hF (by simp only [vp_in_iff, Int32.lt_iff_toInt_lt, Int32.le_iff_toInt_le, ← Int32.toInt_inj, Int32.toInt_add, Int32.toInt_sub, Int32.toInt_mul, Int32.toInt_neg, pq_NuO, pq_NuI, pq_NuJ, qm1, q0, q1] at *; (try simp (disch := omega) only [pq_bm] at *); all_goals omega) hm0 hr0 (by omega)
      · skip
        obtain ⟨m1, rfl⟩ : ∃ m1, mm = m1 + 1 := (by cases mm with | zero => exact absurd hrt c3 | succ k => exact ⟨k, rfl⟩)
        obtain ⟨g1, g2, g3, g4⟩ := hrt
        refine pq_aload_n F dX11_tell_6 rfl rfl ?_
        refine pq_dup F dX11_tell_7 rfl ?_
        refine pq_get F ha1 (by decide) lk_X11_276 ht dX11_tell_8 ?_
        refine pq_iconst (v := 1) F dX11_tell_11 (by decide) ?_
        refine pq_iadd F dX11_tell_12 ?_
        refine pq_putI F ha1 (by decide) lp_X11_276 rfl (by simp only [vp_in_iff, Int32.lt_iff_toInt_lt, Int32.le_iff_toInt_le, ← Int32.toInt_inj, Int32.toInt_add, Int32.toInt_sub, Int32.toInt_mul, Int32.toInt_neg, pq_NuO, pq_NuI, pq_NuJ, qm1, q0, q1] at *; (try simp (disch := omega) only [pq_bm] at *); all_goals omega) (by simp only [vp_in_iff, Int32.lt_iff_toInt_lt, Int32.le_iff_toInt_le, ← Int32.toInt_inj, Int32.toInt_add, Int32.toInt_sub, Int32.toInt_mul, Int32.toInt_neg, pq_NuO, pq_NuI, pq_NuJ, qm1, q0, q1] at *; (try simp (disch := omega) only [pq_bm] at *); all_goals omega) dX11_tell_13 ?_
        refine pq_aload_n F dX11_tell_16 rfl rfl ?_
        refine pq_get F ha1 (by decide) lk_X11_235 (pq_kp e43a (by decide)) dX11_tell_17 ?_
        refine pq_iload_n F dX11_tell_20 rfl rfl ?_
        refine pq_iald F haf1 (by decide) (by decide) rfl (fun n1_21 n2_21 => (by simp only [vp_in_iff, Int32.lt_iff_toInt_lt, Int32.le_iff_toInt_le, ← Int32.toInt_inj, Int32.toInt_add, Int32.toInt_sub, Int32.toInt_mul, Int32.toInt_neg, pq_NuO, pq_NuI, pq_NuJ, qm1, q0, q1] at *; (try simp (disch := omega) only [pq_bm] at *); all_goals omega)) dX11_tell_21 (fun x21 e21 l21 u21 => ?_)
        refine pq_istore_n F dX11_tell_22 rfl (by decide) ?_
        refine pq_goto (tgt := 2) F dX11_tell_23 (by decide) ?_
        exact pq_fg (ih _ x21 (tl + 1) m1 (hF.uO ha1 (by decide)) pq_ks (by simp only [vp_in_iff, Int32.lt_iff_toInt_lt, Int32.le_iff_toInt_le, ← Int32.toInt_inj, Int32.toInt_add, Int32.toInt_sub, Int32.toInt_mul, Int32.toInt_neg, pq_NuO, pq_NuI, pq_NuJ, qm1, q0, q1] at *; (try simp (disch := omega) only [pq_bm] at *); all_goals omega) (by simp only [vp_in_iff, Int32.lt_iff_toInt_lt, Int32.le_iff_toInt_le, ← Int32.toInt_inj, Int32.toInt_add, Int32.toInt_sub, Int32.toInt_mul, Int32.toInt_neg, pq_NuO, pq_NuI, pq_NuJ, qm1, q0, q1] at *; (try simp (disch := omega) only [pq_bm] at *); all_goals omega) (by rw [show x21 = hI S af w.toNatClampNeg from e21.trans (congrFun if1 _)]; exact g4) (by omega)) (by repeat' (first | exact rfl | exact trivial | constructor))
  refine pq_iload_n F dX11_tell_0 rfl rfl ?_
  refine pq_istore_n F dX11_tell_1 rfl (by decide) ?_
  exact pq_fg (L2 200000 _ pr 0 m0 pq_Fr.rf e41 (by simp only [vp_in_iff, Int32.lt_iff_toInt_lt, Int32.le_iff_toInt_le, ← Int32.toInt_inj, Int32.toInt_add, Int32.toInt_sub, Int32.toInt_mul, Int32.toInt_neg, pq_NuO, pq_NuI, pq_NuJ, qm1, q0, q1] at *; (try simp (disch := omega) only [pq_bm] at *); all_goals omega) (by simp only [vp_in_iff, Int32.lt_iff_toInt_lt, Int32.le_iff_toInt_le, ← Int32.toInt_inj, Int32.toInt_add, Int32.toInt_sub, Int32.toInt_mul, Int32.toInt_neg, pq_NuO, pq_NuI, pq_NuJ, qm1, q0, q1] at *; (try simp (disch := omega) only [pq_bm] at *); all_goals omega) hr0 (by omega)) (by repeat' (first | exact rfl | exact trivial | constructor))

set_option maxHeartbeats 4000000 in
set_option maxRecDepth 100000 in
theorem k_X11_first (l : Launch) (D : va_G) (cy : Nat → ClassId) (S : HS) (a : Nat) (ha : pq_R S a 14) (kd : Int32) (aq af : Nat) (e42 : hO S a 42 = .ref aq) (haq : pq_R S aq 138) (e43 : hO S a 43 = .ref af) (haf : pq_R S af 139) : pq_C l D cy yX11_first cX11_first 7 (some .int) 2 0 0 S [.ref a, .int kd] (fun v S2 => pq_Fr [(14, 3), (14, 41), (101, 0), (102, 0), (138, 0), (139, 0)] S S2 ∧ ∃ x : Int32, v = some (.int x)) := by
  refine pq_start (by decide) (Nat.le_of_ble_eq_true rfl) ?_
  intro p e s m args below meth c A F hr hlk hnm hA
  have qm1 : (-1 : Int32).toInt = -1 := rfl
  have q0 : (0 : Int32).toInt = 0 := rfl
  have q1 : (1 : Int32).toInt = 1 := rfl
  have q4 : (4 : Int32).toInt = 4 := rfl
  have q128 : (128 : Int32).toInt = 128 := rfl
  have q402 : (402 : Int32).toInt = 402 := rfl
  have L100 : ∀ (k pr : Int32) (hk0 : 0 ≤ k.toInt) (hp0 : 0 ≤ pr.toInt) (hp1 : pr.toInt ≤ 161603) (K : ∀ (S2 : HS) (n2 : Int32) (hF2 : pq_Fr [(14, 3), (14, 41), (101, 0), (102, 0), (138, 0), (139, 0)] S S2) (h412 : hO S2 a 41 = .int 0) (hn02 : 0 ≤ n2.toInt) (hkn2 : k.toInt < n2.toInt) (hbf2 : pq_bf (hI S2 aq) (hI S2 af) n2.toNatClampNeg), pq_At p l e (pq_rm 2 0 0) s m args below meth c (pq_Z below args s D cy S 0 0 (fun v S2 => pq_Fr [(14, 3), (14, 41), (101, 0), (102, 0), (138, 0), (139, 0)] S S2 ∧ ∃ x : Int32, v = some (.int x))) D cy A 7 0 0 205 S2 [some (.ref a), some (.int kd), some (.int n2), some (.int k), none, none, none] []) (fu : Nat) (S1 : HS) (n b : Int32) (hF : pq_Fr [(14, 3), (14, 41), (101, 0), (102, 0), (138, 0), (139, 0)] S S1) (h41 : hO S1 a 41 = .int 0) (hn0 : 0 ≤ n.toInt) (hkn : k.toInt < n.toInt) (hbf : pq_bf (hI S1 aq) (hI S1 af) n.toNatClampNeg) (hpm : ∃ mm, mm ≤ k.toNatClampNeg ∧ pq_rt (hI S1 af) mm pr) (hb0 : 0 ≤ b.toInt) (hb1 : b.toInt ≤ 128), (128 - b.toInt).toNat < fu → pq_At p l e (pq_rm 2 0 0) s m args below meth c (pq_Z below args s D cy S 0 0 (fun v S2 => pq_Fr [(14, 3), (14, 41), (101, 0), (102, 0), (138, 0), (139, 0)] S S2 ∧ ∃ x : Int32, v = some (.int x))) D cy A 7 0 0 100 S1 [some (.ref a), some (.int kd), some (.int n), some (.int k), some (.int pr), some (.int b), none] [] := by
    intro k pr hk0 hp0 hp1 K fu
    induction fu with
    | zero => intro S1 n b hF h41 hn0 hkn hbf hpm hb0 hb1 hm; exact absurd hm (Nat.not_lt_zero _)
    | succ fu ih =>
      intro S1 n b hF h41 hn0 hkn hbf hpm hb0 hb1 hm
      have ha1 := hF.R ha (by decide)
      have haf1 := hF.R haf (by decide)
      have haq1 := hF.R haq (by decide)
      have e431 := hF.O ha (by decide) (by decide) e43
      have e421 := hF.O ha (by decide) (by decide) e42
      refine pq_iload F dX11_first_100 rfl ?_
      refine pq_sipush (v := 128) F dX11_first_102 (by decide) ?_
      refine pq_icmp_ge (tgt := 205) F dX11_first_105 (by decide) (fun c105 => ?_) (fun c105 => ?_)
      · skip
        exact pq_fg (K _ n hF h41 hn0 hkn hbf) (by repeat' (first | exact rfl | exact trivial | constructor))
      · skip
        have z9 := pq_dv (x := pr) (y := 402) hp0 (by decide)
        refine pq_sipush (v := 402) F dX11_first_108 (by decide) ?_
        refine pq_aload_n F dX11_first_111 rfl rfl ?_
        refine pq_getR F ha1 (by decide) lk_X11_219 rfl dX11_first_112 (fun r112 e112 h112 => ?_)
        refine pq_sipush (v := 128) F dX11_first_115 (by decide) ?_
        refine pq_iload F dX11_first_118 rfl ?_
        refine pq_sipush (v := 402) F dX11_first_120 (by decide) ?_
        refine pq_idiv F dX11_first_123 (by decide) ?_
        refine pq_imul F dX11_first_124 ?_
        refine pq_iload F dX11_first_125 rfl ?_
        refine pq_iadd F dX11_first_127 ?_
        refine pq_iald F h112 (by decide) (by decide) rfl (fun n1_128 n2_128 => (by simp only [vp_in_iff, Int32.lt_iff_toInt_lt, Int32.le_iff_toInt_le, ← Int32.toInt_inj, Int32.toInt_add, Int32.toInt_sub, Int32.toInt_mul, Int32.toInt_neg, pq_NuO, pq_NuI, pq_NuJ, qm1, q0, q1, q4, q128, q402] at *; (try simp (disch := omega) only [pq_bm] at *); all_goals omega)) dX11_first_128 (fun x128 e128 l128 u128 => ?_)
        refine pq_imul F dX11_first_129 ?_
        refine pq_aload_n F dX11_first_130 rfl rfl ?_
        refine pq_get F ha1 (by decide) lk_X11_219 e112 dX11_first_131 ?_
        refine pq_sipush (v := 128) F dX11_first_134 (by decide) ?_
        refine pq_sipush (v := 402) F dX11_first_137 (by decide) ?_
        refine pq_iload F dX11_first_140 rfl ?_
        refine pq_sipush (v := 402) F dX11_first_142 (by decide) ?_
        refine pq_irem F dX11_first_145 (by decide) ?_
        refine pq_iadd F dX11_first_146 ?_
        refine pq_imul F dX11_first_147 ?_
        refine pq_iload F dX11_first_148 rfl ?_
        refine pq_iadd F dX11_first_150 ?_
        refine pq_iald F h112 (by decide) (by decide) rfl (fun n1_151 n2_151 => (by simp only [vp_in_iff, Int32.lt_iff_toInt_lt, Int32.le_iff_toInt_le, ← Int32.toInt_inj, Int32.toInt_add, Int32.toInt_sub, Int32.toInt_mul, Int32.toInt_neg, pq_NuO, pq_NuI, pq_NuJ, qm1, q0, q1, q4, q128, q402] at *; (try simp (disch := omega) only [pq_bm] at *); all_goals omega)) dX11_first_151 (fun x151 e151 l151 u151 => ?_)
        refine pq_iadd F dX11_first_152 ?_
        refine pq_istore F dX11_first_153 (by decide) ?_
        have ht0 : 0 ≤ (402 * x128 + x151).toInt := (by simp only [vp_in_iff, Int32.lt_iff_toInt_lt, Int32.le_iff_toInt_le, ← Int32.toInt_inj, Int32.toInt_add, Int32.toInt_sub, Int32.toInt_mul, Int32.toInt_neg, pq_NuO, pq_NuI, pq_NuJ, qm1, q0, q1, q4, q128, q402] at *; (try simp (disch := omega) only [pq_bm] at *); all_goals omega)
        have ht1 : (402 * x128 + x151).toInt < 161604 := (by simp only [vp_in_iff, Int32.lt_iff_toInt_lt, Int32.le_iff_toInt_le, ← Int32.toInt_inj, Int32.toInt_add, Int32.toInt_sub, Int32.toInt_mul, Int32.toInt_neg, pq_NuO, pq_NuI, pq_NuJ, qm1, q0, q1, q4, q128, q402] at *; (try simp (disch := omega) only [pq_bm] at *); all_goals omega)
        refine pq_aload_n F dX11_first_155 rfl rfl ?_
        refine pq_get F ha1 (by decide) lk_X11_235 e431 dX11_first_156 ?_
        refine pq_iload F dX11_first_159 rfl ?_
        refine pq_iald F haf1 (by decide) (by decide) rfl (fun n1_161 n2_161 => (by simp only [vp_in_iff, Int32.lt_iff_toInt_lt, Int32.le_iff_toInt_le, ← Int32.toInt_inj, Int32.toInt_add, Int32.toInt_sub, Int32.toInt_mul, Int32.toInt_neg, pq_NuO, pq_NuI, pq_NuJ, qm1, q0, q1, q4, q128, q402] at *; (try simp (disch := omega) only [pq_bm] at *); all_goals omega)) dX11_first_161 (fun x161 e161 l161 u161 => ?_)
        refine pq_iconst (v := -1) F dX11_first_162 (by decide) ?_
        refine pq_icmp_eq (tgt := 169) F dX11_first_163 (by decide) (fun c163 => ?_) (fun c163 => ?_)
        · skip
          obtain ⟨mm, hm1, hm2⟩ := hpm
          have ck := pq_cl hk0
          have cn := pq_cl hn0
          have hft : hI S1 af (402 * x128 + x151).toNatClampNeg = -1 := e161.symm.trans c163
          have hadd := hbf.add ht0 ht1 hft (m := mm) (by omega) hm2 hp0
          have hnlt := hadd.1
          have en : (n + 1).toNatClampNeg = n.toNatClampNeg + 1 := (by have h8 : 0 ≤ (n + 1).toInt := (by simp only [vp_in_iff, Int32.lt_iff_toInt_lt, Int32.le_iff_toInt_le, ← Int32.toInt_inj, Int32.toInt_add, Int32.toInt_sub, Int32.toInt_mul, Int32.toInt_neg, pq_NuO, pq_NuI, pq_NuJ, qm1, q0, q1, q4, q128, q402] at *; (try simp (disch := omega) only [pq_bm] at *); all_goals omega); have h7 : (n + 1).toInt = n.toInt + 1 := (by simp only [vp_in_iff, Int32.lt_iff_toInt_lt, Int32.le_iff_toInt_le, ← Int32.toInt_inj, Int32.toInt_add, Int32.toInt_sub, Int32.toInt_mul, Int32.toInt_neg, pq_NuO, pq_NuI, pq_NuJ, qm1, q0, q1, q4, q128, q402] at *; (try simp (disch := omega) only [pq_bm] at *); all_goals omega); have h6 := pq_cl h8; omega)
          refine pq_aload_n F dX11_first_169 rfl rfl ?_
          refine pq_get F ha1 (by decide) lk_X11_235 e431 dX11_first_170 ?_
          refine pq_iload F dX11_first_173 rfl ?_
          refine pq_iload F dX11_first_175 rfl ?_
          refine pq_iast F haf1 (by decide) (by decide) rfl (fun n1_177 n2_177 => (by simp only [vp_in_iff, Int32.lt_iff_toInt_lt, Int32.le_iff_toInt_le, ← Int32.toInt_inj, Int32.toInt_add, Int32.toInt_sub, Int32.toInt_mul, Int32.toInt_neg, pq_NuO, pq_NuI, pq_NuJ, qm1, q0, q1, q4, q128, q402] at *; (try simp (disch := omega) only [pq_bm] at *); all_goals omega)) (⟨(by simp only [vp_in_iff, Int32.lt_iff_toInt_lt, Int32.le_iff_toInt_le, ← Int32.toInt_inj, Int32.toInt_add, Int32.toInt_sub, Int32.toInt_mul, Int32.toInt_neg, pq_NuO, pq_NuI, pq_NuJ, qm1, q0, q1, q4, q128, q402] at *; (try simp (disch := omega) only [pq_bm] at *); all_goals omega), (by simp only [vp_in_iff, Int32.lt_iff_toInt_lt, Int32.le_iff_toInt_le, ← Int32.toInt_inj, Int32.toInt_add, Int32.toInt_sub, Int32.toInt_mul, Int32.toInt_neg, pq_NuO, pq_NuI, pq_NuJ, qm1, q0, q1, q4, q128, q402] at *; (try simp (disch := omega) only [pq_bm] at *); all_goals omega)⟩) dX11_first_177 ?_
          refine pq_aload_n F dX11_first_178 rfl rfl ?_
          refine pq_getR F ha1 (by decide) lk_X11_238 rfl dX11_first_179 (fun r179 e179 h179 => ?_)
          refine pq_iload F dX11_first_182 rfl ?_
          refine pq_iload F dX11_first_184 rfl ?_
          refine pq_i2b F dX11_first_186 ?_
          refine pq_bast F h179 (by decide) (by decide) rfl (fun n1_187 n2_187 => (by simp only [vp_in_iff, Int32.lt_iff_toInt_lt, Int32.le_iff_toInt_le, ← Int32.toInt_inj, Int32.toInt_add, Int32.toInt_sub, Int32.toInt_mul, Int32.toInt_neg, pq_NuO, pq_NuI, pq_NuJ, qm1, q0, q1, q4, q128, q402] at *; (try simp (disch := omega) only [pq_bm] at *); all_goals omega)) (pq_nb _) dX11_first_187 ?_
          refine pq_aload_n F dX11_first_188 rfl rfl ?_
          refine pq_get F ha1 (by decide) lk_X11_232 e421 dX11_first_189 ?_
          refine pq_iload_n F dX11_first_192 rfl rfl ?_
          refine pq_iload F dX11_first_193 rfl ?_
          refine pq_iast F haq1 (by decide) (by decide) rfl (fun n1_195 n2_195 => (by simp only [vp_in_iff, Int32.lt_iff_toInt_lt, Int32.le_iff_toInt_le, ← Int32.toInt_inj, Int32.toInt_add, Int32.toInt_sub, Int32.toInt_mul, Int32.toInt_neg, pq_NuO, pq_NuI, pq_NuJ, qm1, q0, q1, q4, q128, q402] at *; (try simp (disch := omega) only [pq_bm] at *); all_goals omega)) (⟨(by simp only [vp_in_iff, Int32.lt_iff_toInt_lt, Int32.le_iff_toInt_le, ← Int32.toInt_inj, Int32.toInt_add, Int32.toInt_sub, Int32.toInt_mul, Int32.toInt_neg, pq_NuO, pq_NuI, pq_NuJ, qm1, q0, q1, q4, q128, q402] at *; (try simp (disch := omega) only [pq_bm] at *); all_goals omega), (by simp only [vp_in_iff, Int32.lt_iff_toInt_lt, Int32.le_iff_toInt_le, ← Int32.toInt_inj, Int32.toInt_add, Int32.toInt_sub, Int32.toInt_mul, Int32.toInt_neg, pq_NuO, pq_NuI, pq_NuJ, qm1, q0, q1, q4, q128, q402] at *; (try simp (disch := omega) only [pq_bm] at *); all_goals omega)⟩) dX11_first_195 ?_
          refine pq_iinc (v := 1) F dX11_first_196 rfl (by decide) (by decide) ?_
          refine pq_iinc (v := 1) F dX11_first_199 rfl (by decide) (by decide) ?_
          refine pq_goto (tgt := 100) F dX11_first_202 (by decide) ?_
          exact pq_fg (ih _ (n + 1) (b + 1) (((hF.uI haf1 (by decide)).uI h179 (by decide)).uI haq1 (by decide)) h41 (by simp only [vp_in_iff, Int32.lt_iff_toInt_lt, Int32.le_iff_toInt_le, ← Int32.toInt_inj, Int32.toInt_add, Int32.toInt_sub, Int32.toInt_mul, Int32.toInt_neg, pq_NuO, pq_NuI, pq_NuJ, qm1, q0, q1, q4, q128, q402] at *; (try simp (disch := omega) only [pq_bm] at *); all_goals omega) (by simp only [vp_in_iff, Int32.lt_iff_toInt_lt, Int32.le_iff_toInt_le, ← Int32.toInt_inj, Int32.toInt_add, Int32.toInt_sub, Int32.toInt_mul, Int32.toInt_neg, pq_NuO, pq_NuI, pq_NuJ, qm1, q0, q1, q4, q128, q402] at *; (try simp (disch := omega) only [pq_bm] at *); all_goals omega) (by rw [en]; show pq_bf (hI (pq_uI (pq_uI (pq_uI S1 af _) r179 _) aq _) aq) (hI (pq_uI (pq_uI (pq_uI S1 af _) r179 _) aq _) af) _; rw [pq_Ia, pq_Ib (S := pq_uI (pq_uI S1 af _) r179 _) (rb := 139) (ra := 138) haf1 haq1 (by decide), pq_Ib (S := pq_uI S1 af _) (rb := 139) (ra := 102) haf1 h179 (by decide), pq_Ia, pq_Ib (S := pq_uI S1 af _) (rb := 138) (ra := 102) haq1 h179 (by decide), pq_Ib (S := S1) (rb := 138) (ra := 139) haq1 haf1 (by decide)]; exact hadd.2) ⟨mm, hm1, (by show pq_rt (hI (pq_uI (pq_uI (pq_uI S1 af _) r179 _) aq _) af) mm pr; rw [pq_Ib (S := pq_uI (pq_uI S1 af _) r179 _) (rb := 139) (ra := 138) haf1 haq1 (by decide), pq_Ib (S := pq_uI S1 af _) (rb := 139) (ra := 102) haf1 h179 (by decide), pq_Ia]; exact pq_rt_upd hft mm pr hm2)⟩ (by simp only [vp_in_iff, Int32.lt_iff_toInt_lt, Int32.le_iff_toInt_le, ← Int32.toInt_inj, Int32.toInt_add, Int32.toInt_sub, Int32.toInt_mul, Int32.toInt_neg, pq_NuO, pq_NuI, pq_NuJ, qm1, q0, q1, q4, q128, q402] at *; (try simp (disch := omega) only [pq_bm] at *); all_goals omega) (by simp only [vp_in_iff, Int32.lt_iff_toInt_lt, Int32.le_iff_toInt_le, ← Int32.toInt_inj, Int32.toInt_add, Int32.toInt_sub, Int32.toInt_mul, Int32.toInt_neg, pq_NuO, pq_NuI, pq_NuJ, qm1, q0, q1, q4, q128, q402] at *; (try simp (disch := omega) only [pq_bm] at *); all_goals omega) (by simp only [vp_in_iff, Int32.lt_iff_toInt_lt, Int32.le_iff_toInt_le, ← Int32.toInt_inj, Int32.toInt_add, Int32.toInt_sub, Int32.toInt_mul, Int32.toInt_neg, pq_NuO, pq_NuI, pq_NuJ, qm1, q0, q1, q4, q128, q402] at *; (try simp (disch := omega) only [pq_bm] at *); all_goals omega)) (by repeat' (first | exact rfl | exact trivial | constructor))
        · skip
          refine pq_goto (tgt := 199) F dX11_first_166 (by decide) ?_
          refine pq_iinc (v := 1) F dX11_first_199 rfl (by decide) (by decide) ?_
          refine pq_goto (tgt := 100) F dX11_first_202 (by decide) ?_
          exact pq_fg (ih _ n (b + 1) hF h41 hn0 hkn hbf hpm (by simp only [vp_in_iff, Int32.lt_iff_toInt_lt, Int32.le_iff_toInt_le, ← Int32.toInt_inj, Int32.toInt_add, Int32.toInt_sub, Int32.toInt_mul, Int32.toInt_neg, pq_NuO, pq_NuI, pq_NuJ, qm1, q0, q1, q4, q128, q402] at *; (try simp (disch := omega) only [pq_bm] at *); all_goals omega) (by simp only [vp_in_iff, Int32.lt_iff_toInt_lt, Int32.le_iff_toInt_le, ← Int32.toInt_inj, Int32.toInt_add, Int32.toInt_sub, Int32.toInt_mul, Int32.toInt_neg, pq_NuO, pq_NuI, pq_NuJ, qm1, q0, q1, q4, q128, q402] at *; (try simp (disch := omega) only [pq_bm] at *); all_goals omega) (by simp only [vp_in_iff, Int32.lt_iff_toInt_lt, Int32.le_iff_toInt_le, ← Int32.toInt_inj, Int32.toInt_add, Int32.toInt_sub, Int32.toInt_mul, Int32.toInt_neg, pq_NuO, pq_NuI, pq_NuJ, qm1, q0, q1, q4, q128, q402] at *; (try simp (disch := omega) only [pq_bm] at *); all_goals omega)) (by repeat' (first | exact rfl | exact trivial | constructor))
  have L67 : ∀  (fu : Nat) (S1 : HS) (n k : Int32) (hF : pq_Fr [(14, 3), (14, 41), (101, 0), (102, 0), (138, 0), (139, 0)] S S1) (h41 : hO S1 a 41 = .int 0) (hn0 : 0 ≤ n.toInt) (hk0 : 0 ≤ k.toInt) (hkn : k.toInt ≤ n.toInt) (hbf : pq_bf (hI S1 aq) (hI S1 af) n.toNatClampNeg), (161604 - k.toInt).toNat < fu → pq_At p l e (pq_rm 2 0 0) s m args below meth c (pq_Z below args s D cy S 0 0 (fun v S2 => pq_Fr [(14, 3), (14, 41), (101, 0), (102, 0), (138, 0), (139, 0)] S S2 ∧ ∃ x : Int32, v = some (.int x))) D cy A 7 0 0 67 S1 [some (.ref a), some (.int kd), some (.int n), some (.int k), none, none, none] [] := by
    intro  fu
    induction fu with
    | zero => intro S1 n k hF h41 hn0 hk0 hkn hbf hm; exact absurd hm (Nat.not_lt_zero _)
    | succ fu ih =>
      intro S1 n k hF h41 hn0 hk0 hkn hbf hm
      have ha1 := hF.R ha (by decide)
      have haf1 := hF.R haf (by decide)
      have haq1 := hF.R haq (by decide)
      have e431 := hF.O ha (by decide) (by decide) e43
      have e421 := hF.O ha (by decide) (by decide) e42
      have hnle : n.toInt ≤ 161604 := (by have h1 := hbf.1; have h2 := pq_un_le (hI S1 af) (-1) 161604; have h3 := pq_cl hn0; omega)
      refine pq_iload_n F dX11_first_67 rfl rfl ?_
      refine pq_iload_n F dX11_first_68 rfl rfl ?_
      refine pq_icmp_ge (tgt := 211) F dX11_first_69 (by decide) (fun c69 => ?_) (fun c69 => ?_)
      · skip
        refine pq_iconst (v := -1) F dX11_first_211 (by decide) ?_
        exact pq_iret F hr hlk hA (Nat.le_refl _) (Nat.le_refl _) (⟨hF, _, rfl⟩) dX11_first_212
      · skip
        refine pq_aload_n F dX11_first_72 rfl rfl ?_
        refine pq_get F ha1 (by decide) lk_X11_232 e421 dX11_first_73 ?_
        refine pq_iload_n F dX11_first_76 rfl rfl ?_
        refine pq_iald F haq1 (by decide) (by decide) rfl (fun n1_77 n2_77 => (by simp only [vp_in_iff, Int32.lt_iff_toInt_lt, Int32.le_iff_toInt_le, ← Int32.toInt_inj, Int32.toInt_add, Int32.toInt_sub, Int32.toInt_mul, Int32.toInt_neg, pq_NuO, pq_NuI, pq_NuJ, qm1, q0, q1, q4, q128, q402] at *; (try simp (disch := omega) only [pq_bm] at *); all_goals omega)) dX11_first_77 (fun x77 e77 l77 u77 => ?_)
        refine pq_istore F dX11_first_78 (by decide) ?_
        have ck := pq_cl hk0
        have cn := pq_cl hn0
        obtain ⟨hq1, mm, hmk, hmr⟩ := hbf.2.2 k.toNatClampNeg (by simp only [vp_in_iff, Int32.lt_iff_toInt_lt, Int32.le_iff_toInt_le, ← Int32.toInt_inj, Int32.toInt_add, Int32.toInt_sub, Int32.toInt_mul, Int32.toInt_neg, pq_NuO, pq_NuI, pq_NuJ, qm1, q0, q1, q4, q128, q402] at *; (try simp (disch := omega) only [pq_bm] at *); all_goals omega)
        have hx1 := l77
        have hx2 := u77
        refine pq_aload_n F dX11_first_80 rfl rfl ?_
        refine pq_iload_n F dX11_first_81 rfl rfl ?_
        refine pq_iload F dX11_first_82 rfl ?_
        refine pq_callV (As := [_, _]) F (k_X11_is l D cy _ _ ?_ _ _ ?_ ?_) ml_X11_279 ha1 (by decide) rfl (Nat.le_of_ble_eq_true rfl) ⟨Nat.le_of_ble_eq_true rfl, Nat.le_of_ble_eq_true rfl⟩ ⟨by decide, by decide⟩ dX11_first_84 (fun v84 S84 w84 => ?_)
        · exact ha1
        · simp only [vp_in_iff, Int32.lt_iff_toInt_lt, Int32.le_iff_toInt_le, ← Int32.toInt_inj, Int32.toInt_add, Int32.toInt_sub, Int32.toInt_mul, Int32.toInt_neg, pq_NuO, pq_NuI, pq_NuJ, qm1, q0, q1, q4, q128, q402] at *; (try simp (disch := omega) only [pq_bm] at *); all_goals omega
        · simp only [vp_in_iff, Int32.lt_iff_toInt_lt, Int32.le_iff_toInt_le, ← Int32.toInt_inj, Int32.toInt_add, Int32.toInt_sub, Int32.toInt_mul, Int32.toInt_neg, pq_NuO, pq_NuI, pq_NuJ, qm1, q0, q1, q4, q128, q402] at *; (try simp (disch := omega) only [pq_bm] at *); all_goals omega
        obtain ⟨u84, z84, rfl, z84a, z84b⟩ := w84
        rw [u84]
        refine pq_if_eq (tgt := 97) F dX11_first_87 (by decide) (fun c87 => ?_) (fun c87 => ?_)
        · skip
          refine pq_iconst (v := 0) F dX11_first_97 (by decide) ?_
          refine pq_istore F dX11_first_98 (by decide) ?_
          refine pq_fg (L100 k x77 hk0 hx1 hx2 (fun S5 n5 hF5 h415 hn05 hkn5 hbf5 => ?_) 1000 S1 n 0 hF h41 hn0 (by simp only [vp_in_iff, Int32.lt_iff_toInt_lt, Int32.le_iff_toInt_le, ← Int32.toInt_inj, Int32.toInt_add, Int32.toInt_sub, Int32.toInt_mul, Int32.toInt_neg, pq_NuO, pq_NuI, pq_NuJ, qm1, q0, q1, q4, q128, q402] at *; (try simp (disch := omega) only [pq_bm] at *); all_goals omega) hbf ⟨mm, hmk, (by rw [e77]; exact hmr)⟩ (by simp only [vp_in_iff, Int32.lt_iff_toInt_lt, Int32.le_iff_toInt_le, ← Int32.toInt_inj, Int32.toInt_add, Int32.toInt_sub, Int32.toInt_mul, Int32.toInt_neg, pq_NuO, pq_NuI, pq_NuJ, qm1, q0, q1, q4, q128, q402] at *; (try simp (disch := omega) only [pq_bm] at *); all_goals omega) (by simp only [vp_in_iff, Int32.lt_iff_toInt_lt, Int32.le_iff_toInt_le, ← Int32.toInt_inj, Int32.toInt_add, Int32.toInt_sub, Int32.toInt_mul, Int32.toInt_neg, pq_NuO, pq_NuI, pq_NuJ, qm1, q0, q1, q4, q128, q402] at *; (try simp (disch := omega) only [pq_bm] at *); all_goals omega) (by simp only [vp_in_iff, Int32.lt_iff_toInt_lt, Int32.le_iff_toInt_le, ← Int32.toInt_inj, Int32.toInt_add, Int32.toInt_sub, Int32.toInt_mul, Int32.toInt_neg, pq_NuO, pq_NuI, pq_NuJ, qm1, q0, q1, q4, q128, q402] at *; (try simp (disch := omega) only [pq_bm] at *); all_goals omega)) (by repeat' (first | exact rfl | exact trivial | constructor))
          have ha5 := hF5.R ha (by decide)
          have haf5 := hF5.R haf (by decide)
          have haq5 := hF5.R haq (by decide)
          have e435 := hF5.O ha (by decide) (by decide) e43
          have e425 := hF5.O ha (by decide) (by decide) e42
          refine pq_iinc (v := 1) F dX11_first_205 rfl (by decide) (by decide) ?_
          refine pq_goto (tgt := 67) F dX11_first_208 (by decide) ?_
          exact pq_fg (ih _ n5 (k + 1) hF5 h415 hn05 (by simp only [vp_in_iff, Int32.lt_iff_toInt_lt, Int32.le_iff_toInt_le, ← Int32.toInt_inj, Int32.toInt_add, Int32.toInt_sub, Int32.toInt_mul, Int32.toInt_neg, pq_NuO, pq_NuI, pq_NuJ, qm1, q0, q1, q4, q128, q402] at *; (try simp (disch := omega) only [pq_bm] at *); all_goals omega) (by simp only [vp_in_iff, Int32.lt_iff_toInt_lt, Int32.le_iff_toInt_le, ← Int32.toInt_inj, Int32.toInt_add, Int32.toInt_sub, Int32.toInt_mul, Int32.toInt_neg, pq_NuO, pq_NuI, pq_NuJ, qm1, q0, q1, q4, q128, q402] at *; (try simp (disch := omega) only [pq_bm] at *); all_goals omega) hbf5 (by simp only [vp_in_iff, Int32.lt_iff_toInt_lt, Int32.le_iff_toInt_le, ← Int32.toInt_inj, Int32.toInt_add, Int32.toInt_sub, Int32.toInt_mul, Int32.toInt_neg, pq_NuO, pq_NuI, pq_NuJ, qm1, q0, q1, q4, q128, q402] at *; (try simp (disch := omega) only [pq_bm] at *); all_goals omega)) (by repeat' (first | exact rfl | exact trivial | constructor))
        · skip
          refine pq_aload_n F dX11_first_90 rfl rfl ?_
          refine pq_iload F dX11_first_91 rfl ?_
          refine pq_callV (As := [_]) F (k_X11_tell l D cy _ _ ?_ af mm _ ?_ ?_ ?_ ?_ ?_) ml_X11_282 ha1 (by decide) rfl (Nat.le_of_ble_eq_true rfl) ⟨Nat.le_of_ble_eq_true rfl, Nat.le_of_ble_eq_true rfl⟩ ⟨by decide, by decide⟩ dX11_first_93 (fun v93 S93 w93 => ?_)
          · exact ha1
          · exact e431
          · exact haf1
          · exact h41
          · (have := pq_cl hk0; simp only [vp_in_iff, Int32.lt_iff_toInt_lt, Int32.le_iff_toInt_le, ← Int32.toInt_inj, Int32.toInt_add, Int32.toInt_sub, Int32.toInt_mul, Int32.toInt_neg, pq_NuO, pq_NuI, pq_NuJ, qm1, q0, q1, q4, q128, q402] at *; (try simp (disch := omega) only [pq_bm] at *); all_goals omega)
          · exact (by rw [e77]; exact hmr)
          obtain ⟨hF93, z93, rfl⟩ := w93
          have ha1_93 := (hF93.1 _ _ ha1 (by decide)).1
          exact pq_iret F hr hlk hA (Nat.le_refl _) (Nat.le_refl _) (⟨(hF.cm hF93 (by decide)), _, rfl⟩) dX11_first_96
  have L27 : ∀  (fu : Nat) (S1 : HS) (n : Int32) (hF : pq_Fr [(14, 3), (14, 41), (101, 0), (102, 0), (138, 0), (139, 0)] S S1) (h41 : hO S1 a 41 = .int 0) (hn0 : 0 ≤ n.toInt) (hn1 : n.toInt ≤ 161604) (hfl : ∀ j : Nat, (j : Int) < n.toInt → hI S1 af j = -1), (161604 - n.toInt).toNat < fu → pq_At p l e (pq_rm 2 0 0) s m args below meth c (pq_Z below args s D cy S 0 0 (fun v S2 => pq_Fr [(14, 3), (14, 41), (101, 0), (102, 0), (138, 0), (139, 0)] S S2 ∧ ∃ x : Int32, v = some (.int x))) D cy A 7 0 0 27 S1 [some (.ref a), some (.int kd), some (.int n), none, none, none, none] [] := by
    intro  fu
    induction fu with
    | zero => intro S1 n hF h41 hn0 hn1 hfl hm; exact absurd hm (Nat.not_lt_zero _)
    | succ fu ih =>
      intro S1 n hF h41 hn0 hn1 hfl hm
      have ha1 := hF.R ha (by decide)
      have haf1 := hF.R haf (by decide)
      have haq1 := hF.R haq (by decide)
      have e431 := hF.O ha (by decide) (by decide) e43
      have e421 := hF.O ha (by decide) (by decide) e42
      refine pq_iload_n F dX11_first_27 rfl rfl ?_
      refine pq_aload_n F dX11_first_28 rfl rfl ?_
      refine pq_get F ha1 (by decide) lk_X11_235 e431 dX11_first_29 ?_
      refine pq_alen F haf1 (by decide) rfl dX11_first_32 (fun l32 u32 => ?_)
      refine pq_icmp_ge (tgt := 49) F dX11_first_33 (by decide) (fun c33 => ?_) (fun c33 => ?_)
      · skip
        have hall : ∀ j : Nat, j < 161604 → hI S1 af j = -1 := fun j hj => hfl j (by have z := nI_toInt (n := hN S1 af) (by omega); simp only [vp_in_iff, Int32.lt_iff_toInt_lt, Int32.le_iff_toInt_le, ← Int32.toInt_inj, Int32.toInt_add, Int32.toInt_sub, Int32.toInt_mul, Int32.toInt_neg, pq_NuO, pq_NuI, pq_NuJ, qm1, q0, q1, q4, q128, q402] at *; (try simp (disch := omega) only [pq_bm] at *); all_goals omega)
        refine pq_aload_n F dX11_first_49 rfl rfl ?_
        refine pq_get F ha1 (by decide) lk_X11_232 e421 dX11_first_50 ?_
        refine pq_iconst (v := 0) F dX11_first_53 (by decide) ?_
        refine pq_iconst (v := 0) F dX11_first_54 (by decide) ?_
        refine pq_iast F haq1 (by decide) (by decide) rfl (fun n1_55 n2_55 => (by simp only [vp_in_iff, Int32.lt_iff_toInt_lt, Int32.le_iff_toInt_le, ← Int32.toInt_inj, Int32.toInt_add, Int32.toInt_sub, Int32.toInt_mul, Int32.toInt_neg, pq_NuO, pq_NuI, pq_NuJ, qm1, q0, q1, q4, q128, q402] at *; (try simp (disch := omega) only [pq_bm] at *); all_goals omega)) (⟨(by simp only [vp_in_iff, Int32.lt_iff_toInt_lt, Int32.le_iff_toInt_le, ← Int32.toInt_inj, Int32.toInt_add, Int32.toInt_sub, Int32.toInt_mul, Int32.toInt_neg, pq_NuO, pq_NuI, pq_NuJ, qm1, q0, q1, q4, q128, q402] at *; (try simp (disch := omega) only [pq_bm] at *); all_goals omega), (by simp only [vp_in_iff, Int32.lt_iff_toInt_lt, Int32.le_iff_toInt_le, ← Int32.toInt_inj, Int32.toInt_add, Int32.toInt_sub, Int32.toInt_mul, Int32.toInt_neg, pq_NuO, pq_NuI, pq_NuJ, qm1, q0, q1, q4, q128, q402] at *; (try simp (disch := omega) only [pq_bm] at *); all_goals omega)⟩) dX11_first_55 ?_
        refine pq_aload_n F dX11_first_56 rfl rfl ?_
        refine pq_get F ha1 (by decide) lk_X11_235 e431 dX11_first_57 ?_
        refine pq_iconst (v := 0) F dX11_first_60 (by decide) ?_
        refine pq_iconst (v := 0) F dX11_first_61 (by decide) ?_
        refine pq_iast F haf1 (by decide) (by decide) rfl (fun n1_62 n2_62 => (by simp only [vp_in_iff, Int32.lt_iff_toInt_lt, Int32.le_iff_toInt_le, ← Int32.toInt_inj, Int32.toInt_add, Int32.toInt_sub, Int32.toInt_mul, Int32.toInt_neg, pq_NuO, pq_NuI, pq_NuJ, qm1, q0, q1, q4, q128, q402] at *; (try simp (disch := omega) only [pq_bm] at *); all_goals omega)) (⟨(by simp only [vp_in_iff, Int32.lt_iff_toInt_lt, Int32.le_iff_toInt_le, ← Int32.toInt_inj, Int32.toInt_add, Int32.toInt_sub, Int32.toInt_mul, Int32.toInt_neg, pq_NuO, pq_NuI, pq_NuJ, qm1, q0, q1, q4, q128, q402] at *; (try simp (disch := omega) only [pq_bm] at *); all_goals omega), (by simp only [vp_in_iff, Int32.lt_iff_toInt_lt, Int32.le_iff_toInt_le, ← Int32.toInt_inj, Int32.toInt_add, Int32.toInt_sub, Int32.toInt_mul, Int32.toInt_neg, pq_NuO, pq_NuI, pq_NuJ, qm1, q0, q1, q4, q128, q402] at *; (try simp (disch := omega) only [pq_bm] at *); all_goals omega)⟩) dX11_first_62 ?_
        refine pq_iconst (v := 1) F dX11_first_63 (by decide) ?_
        refine pq_istore_n F dX11_first_64 rfl (by decide) ?_
        refine pq_iconst (v := 0) F dX11_first_65 (by decide) ?_
        refine pq_istore_n F dX11_first_66 rfl (by decide) ?_
        exact pq_fg (L67 200000 _ 1 0 ((hF.uI haq1 (by decide)).uI haf1 (by decide)) h41 (by simp only [vp_in_iff, Int32.lt_iff_toInt_lt, Int32.le_iff_toInt_le, ← Int32.toInt_inj, Int32.toInt_add, Int32.toInt_sub, Int32.toInt_mul, Int32.toInt_neg, pq_NuO, pq_NuI, pq_NuJ, qm1, q0, q1, q4, q128, q402] at *; (try simp (disch := omega) only [pq_bm] at *); all_goals omega) (by simp only [vp_in_iff, Int32.lt_iff_toInt_lt, Int32.le_iff_toInt_le, ← Int32.toInt_inj, Int32.toInt_add, Int32.toInt_sub, Int32.toInt_mul, Int32.toInt_neg, pq_NuO, pq_NuI, pq_NuJ, qm1, q0, q1, q4, q128, q402] at *; (try simp (disch := omega) only [pq_bm] at *); all_goals omega) (by simp only [vp_in_iff, Int32.lt_iff_toInt_lt, Int32.le_iff_toInt_le, ← Int32.toInt_inj, Int32.toInt_add, Int32.toInt_sub, Int32.toInt_mul, Int32.toInt_neg, pq_NuO, pq_NuI, pq_NuJ, qm1, q0, q1, q4, q128, q402] at *; (try simp (disch := omega) only [pq_bm] at *); all_goals omega) (by show pq_bf (hI (pq_uI (pq_uI S1 aq _) af _) aq) (hI (pq_uI (pq_uI S1 aq _) af _) af) 1; rw [pq_Ia, pq_Ib (S := pq_uI S1 aq _) (rb := 138) (ra := 139) haq1 haf1 (by decide), pq_Ia, pq_Ib (S := S1) (rb := 139) (ra := 138) haf1 haq1 (by decide)]; exact pq_bf.start hall) (by simp only [vp_in_iff, Int32.lt_iff_toInt_lt, Int32.le_iff_toInt_le, ← Int32.toInt_inj, Int32.toInt_add, Int32.toInt_sub, Int32.toInt_mul, Int32.toInt_neg, pq_NuO, pq_NuI, pq_NuJ, qm1, q0, q1, q4, q128, q402] at *; (try simp (disch := omega) only [pq_bm] at *); all_goals omega)) (by repeat' (first | exact rfl | exact trivial | constructor))
      · skip
        refine pq_aload_n F dX11_first_36 rfl rfl ?_
        refine pq_get F ha1 (by decide) lk_X11_235 e431 dX11_first_37 ?_
        refine pq_iload_n F dX11_first_40 rfl rfl ?_
        refine pq_iconst (v := -1) F dX11_first_41 (by decide) ?_
        refine pq_iast F haf1 (by decide) (by decide) rfl (fun n1_42 n2_42 => (by have z := nI_toInt (n := hN S1 af) (by omega); simp only [vp_in_iff, Int32.lt_iff_toInt_lt, Int32.le_iff_toInt_le, ← Int32.toInt_inj, Int32.toInt_add, Int32.toInt_sub, Int32.toInt_mul, Int32.toInt_neg, pq_NuO, pq_NuI, pq_NuJ, qm1, q0, q1, q4, q128, q402] at *; (try simp (disch := omega) only [pq_bm] at *); all_goals omega)) (⟨(by simp only [vp_in_iff, Int32.lt_iff_toInt_lt, Int32.le_iff_toInt_le, ← Int32.toInt_inj, Int32.toInt_add, Int32.toInt_sub, Int32.toInt_mul, Int32.toInt_neg, pq_NuO, pq_NuI, pq_NuJ, qm1, q0, q1, q4, q128, q402] at *; (try simp (disch := omega) only [pq_bm] at *); all_goals omega), (by simp only [vp_in_iff, Int32.lt_iff_toInt_lt, Int32.le_iff_toInt_le, ← Int32.toInt_inj, Int32.toInt_add, Int32.toInt_sub, Int32.toInt_mul, Int32.toInt_neg, pq_NuO, pq_NuI, pq_NuJ, qm1, q0, q1, q4, q128, q402] at *; (try simp (disch := omega) only [pq_bm] at *); all_goals omega)⟩) dX11_first_42 ?_
        refine pq_iinc (v := 1) F dX11_first_43 rfl (by decide) (by decide) ?_
        refine pq_goto (tgt := 27) F dX11_first_46 (by decide) ?_
        exact pq_fg (ih _ (n + 1) (hF.uI haf1 (by decide)) h41 (by simp only [vp_in_iff, Int32.lt_iff_toInt_lt, Int32.le_iff_toInt_le, ← Int32.toInt_inj, Int32.toInt_add, Int32.toInt_sub, Int32.toInt_mul, Int32.toInt_neg, pq_NuO, pq_NuI, pq_NuJ, qm1, q0, q1, q4, q128, q402] at *; (try simp (disch := omega) only [pq_bm] at *); all_goals omega) (by have z := nI_toInt (n := hN S1 af) (by omega); simp only [vp_in_iff, Int32.lt_iff_toInt_lt, Int32.le_iff_toInt_le, ← Int32.toInt_inj, Int32.toInt_add, Int32.toInt_sub, Int32.toInt_mul, Int32.toInt_neg, pq_NuO, pq_NuI, pq_NuJ, qm1, q0, q1, q4, q128, q402] at *; (try simp (disch := omega) only [pq_bm] at *); all_goals omega) (by intro j hj; show hI (pq_uI S1 af _) af j = -1; rw [pq_Ia]; by_cases e9 : j = n.toNatClampNeg; (rw [e9, pk_us]); (rw [pk_un e9]; refine hfl j ?_; have cn := pq_cl hn0; have h7 : (n + 1).toInt = n.toInt + 1 := (by have z := nI_toInt (n := hN S1 af) (by omega); simp only [vp_in_iff, Int32.lt_iff_toInt_lt, Int32.le_iff_toInt_le, ← Int32.toInt_inj, Int32.toInt_add, Int32.toInt_sub, Int32.toInt_mul, Int32.toInt_neg, pq_NuO, pq_NuI, pq_NuJ, qm1, q0, q1, q4, q128, q402] at *; (try simp (disch := omega) only [pq_bm] at *); all_goals omega); omega)) (by have z := nI_toInt (n := hN S1 af) (by omega); simp only [vp_in_iff, Int32.lt_iff_toInt_lt, Int32.le_iff_toInt_le, ← Int32.toInt_inj, Int32.toInt_add, Int32.toInt_sub, Int32.toInt_mul, Int32.toInt_neg, pq_NuO, pq_NuI, pq_NuJ, qm1, q0, q1, q4, q128, q402] at *; (try simp (disch := omega) only [pq_bm] at *); all_goals omega)) (by repeat' (first | exact rfl | exact trivial | constructor))
  refine pq_aload_n F dX11_first_0 rfl rfl ?_
  refine pq_iconst (v := 0) F dX11_first_1 (by decide) ?_
  refine pq_putI F ha (by decide) lp_X11_3 rfl (pq_any1 _) (pq_any2 _) dX11_first_2 ?_
  refine pq_iload_n F dX11_first_5 rfl rfl ?_
  refine pq_if_lt (tgt := 14) F dX11_first_6 (by decide) (fun c6 => ?_) (fun c6 => ?_)
  · skip
    refine pq_aload_n F dX11_first_14 rfl rfl ?_
    refine pq_iconst (v := 1) F dX11_first_15 (by decide) ?_
    refine pq_callV (As := [_]) F (k_X11_refuse l D cy _ _ ?_ _) ml_X11_267 ha (by decide) rfl (Nat.le_of_ble_eq_true rfl) ⟨Nat.le_of_ble_eq_true rfl, Nat.le_of_ble_eq_true rfl⟩ ⟨by decide, by decide⟩ dX11_first_16 (fun v16 S16 w16 => ?_)
    · exact ha
    obtain ⟨rfl, rfl⟩ := w16
    exact pq_iret F hr hlk hA (Nat.le_refl _) (Nat.le_refl _) (⟨((pq_Fr.rf.uO ha (by decide)).uO ha (by decide)), _, rfl⟩) dX11_first_19
  · skip
    refine pq_iload_n F dX11_first_9 rfl rfl ?_
    refine pq_iconst (v := 4) F dX11_first_10 (by decide) ?_
    refine pq_icmp_le (tgt := 20) F dX11_first_11 (by decide) (fun c11 => ?_) (fun c11 => ?_)
    · skip
      refine pq_aload_n F dX11_first_20 rfl rfl ?_
      refine pq_iconst (v := 0) F dX11_first_21 (by decide) ?_
      refine pq_putI F ha (by decide) lp_X11_276 rfl (by simp only [vp_in_iff, Int32.lt_iff_toInt_lt, Int32.le_iff_toInt_le, ← Int32.toInt_inj, Int32.toInt_add, Int32.toInt_sub, Int32.toInt_mul, Int32.toInt_neg, pq_NuO, pq_NuI, pq_NuJ, qm1, q0, q1, q4, q128, q402] at *; (try simp (disch := omega) only [pq_bm] at *); all_goals omega) (by simp only [vp_in_iff, Int32.lt_iff_toInt_lt, Int32.le_iff_toInt_le, ← Int32.toInt_inj, Int32.toInt_add, Int32.toInt_sub, Int32.toInt_mul, Int32.toInt_neg, pq_NuO, pq_NuI, pq_NuJ, qm1, q0, q1, q4, q128, q402] at *; (try simp (disch := omega) only [pq_bm] at *); all_goals omega) dX11_first_22 ?_
      refine pq_iconst (v := 0) F dX11_first_25 (by decide) ?_
      refine pq_istore_n F dX11_first_26 rfl (by decide) ?_
      exact pq_fg (L27 200000 _ 0 ((pq_Fr.rf.uO ha (by decide)).uO ha (by decide)) pq_ks (by simp only [vp_in_iff, Int32.lt_iff_toInt_lt, Int32.le_iff_toInt_le, ← Int32.toInt_inj, Int32.toInt_add, Int32.toInt_sub, Int32.toInt_mul, Int32.toInt_neg, pq_NuO, pq_NuI, pq_NuJ, qm1, q0, q1, q4, q128, q402] at *; (try simp (disch := omega) only [pq_bm] at *); all_goals omega) (by simp only [vp_in_iff, Int32.lt_iff_toInt_lt, Int32.le_iff_toInt_le, ← Int32.toInt_inj, Int32.toInt_add, Int32.toInt_sub, Int32.toInt_mul, Int32.toInt_neg, pq_NuO, pq_NuI, pq_NuJ, qm1, q0, q1, q4, q128, q402] at *; (try simp (disch := omega) only [pq_bm] at *); all_goals omega) (fun j hj => absurd hj (by have : (0 : Int32).toInt = 0 := rfl; omega)) (by simp only [vp_in_iff, Int32.lt_iff_toInt_lt, Int32.le_iff_toInt_le, ← Int32.toInt_inj, Int32.toInt_add, Int32.toInt_sub, Int32.toInt_mul, Int32.toInt_neg, pq_NuO, pq_NuI, pq_NuJ, qm1, q0, q1, q4, q128, q402] at *; (try simp (disch := omega) only [pq_bm] at *); all_goals omega)) (by repeat' (first | exact rfl | exact trivial | constructor))
    · skip
      refine pq_aload_n F dX11_first_14 rfl rfl ?_
      refine pq_iconst (v := 1) F dX11_first_15 (by decide) ?_
      refine pq_callV (As := [_]) F (k_X11_refuse l D cy _ _ ?_ _) ml_X11_267 ha (by decide) rfl (Nat.le_of_ble_eq_true rfl) ⟨Nat.le_of_ble_eq_true rfl, Nat.le_of_ble_eq_true rfl⟩ ⟨by decide, by decide⟩ dX11_first_16 (fun v16 S16 w16 => ?_)
      · exact ha
      obtain ⟨rfl, rfl⟩ := w16
      exact pq_iret F hr hlk hA (Nat.le_refl _) (Nat.le_refl _) (⟨((pq_Fr.rf.uO ha (by decide)).uO ha (by decide)), _, rfl⟩) dX11_first_19

