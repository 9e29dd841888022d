/-- from p it is m steps along f to 0 -/
def pq_rt (f : Nat → Int32) : Nat → Int32 → Prop
  | 0, p => p = 0
  | m + 1, p => ¬ p = 0 ∧ 0 ≤ p.toInt ∧ p.toInt < 161604 ∧ pq_rt f m (f p.toNatClampNeg)
theorem pq_rt_m1 {f : Nat → Int32} : ∀ m, ¬ pq_rt f m (-1)
  | 0, h => absurd (show (-1 : Int32) = 0 from h) (by decide)
  | m + 1, h => absurd (show 0 ≤ (-1 : Int32).toInt from h.2.1) (by decide)
theorem pq_rt_upd {f : Nat → Int32} {t : Nat} {v : Int32} (ht : f t = -1) : ∀ (m : Nat) (p : Int32), pq_rt f m p → pq_rt (upd f t v) m p
  | 0, p, h => h
  | m + 1, p, ⟨h1, h2, h3, h4⟩ => by
    have hne : p.toNatClampNeg ≠ t := fun e => by rw [e, ht] at h4; exact pq_rt_m1 m h4
    refine ⟨h1, h2, h3, ?_⟩
    rw [pk_un hne]
    exact pq_rt_upd ht m _ h4
theorem pq_un_lt {f : Nat → Int32} {x : Int32} {i : Nat} (h : f i = x) : ∀ n, i < n → pq_un f x n < n
  | 0, hi => absurd hi (Nat.not_lt_zero _)
  | n + 1, hi => by
    by_cases e : n = i
    · subst e
      have := pq_un_le f x n
      simp only [pq_un, h, if_true]; omega
    · have := pq_un_lt (f := f) (x := x) h n (by omega)
      simp only [pq_un]; split <;> omega
theorem pq_un_add {f : Nat → Int32} {x v : Int32} {i : Nat} (h : f i = x) (hv : ¬ v = x) : ∀ n, i < n → pq_un (upd f i v) x n = pq_un f x n + 1
  | 0, hi => absurd hi (Nat.not_lt_zero _)
  | n + 1, hi => by
    by_cases e : n = i
    · subst e
      have h0 : ∀ k, k ≤ n → pq_un (upd f n v) x k = pq_un f x k := by
        intro k
        induction k with
        | zero => intro _; rfl
        | succ k ih => intro hk; simp only [pq_un, pk_un (show k ≠ n by omega), ih (by omega)]
      simp only [pq_un, pk_us, hv, h, if_true, if_false, h0 n (Nat.le_refl _)]
    · simp only [pq_un, pk_un e, pq_un_add h hv n (by omega)]; omega
/-- the queue q of n pairs, each found from one ahead of it -/
def pq_bf (q f : Nat → Int32) (n : Nat) : Prop := n ≤ pq_un f (-1) 161604 ∧ f 0 = 0 ∧ ∀ k, k < n → (0 ≤ (q k).toInt ∧ (q k).toInt < 161604) ∧ ∃ m, m ≤ k ∧ pq_rt f m (q k)
theorem pq_bf.add {q f : Nat → Int32} {n m : Nat} {pr t : Int32} (H : pq_bf q f n) (ht0 : 0 ≤ t.toInt) (ht1 : t.toInt < 161604) (hf : f t.toNatClampNeg = -1) (hm : m + 1 ≤ n) (hr : pq_rt f m pr) (hp : 0 ≤ pr.toInt) : n < 161604 ∧ pq_bf (upd q n t) (upd f t.toNatClampNeg pr) (n + 1) := by
  have ct := pq_cl ht0
  have hi : t.toNatClampNeg < 161604 := by omega
  have hne : ¬ pr = -1 := fun e => by rw [e] at hp; exact absurd hp (by decide)
  have h1 := pq_un_lt hf 161604 hi
  have h2 := pq_un_add hf hne 161604 hi
  have ht : ¬ t = 0 := fun e => by
    have h3 := H.2.1
    rw [e] at hf
    rw [show (0 : Int32).toNatClampNeg = 0 from rfl, h3] at hf
    exact absurd hf (by decide)
  refine ⟨by have := H.1; omega, by have := H.1; omega, ?_, fun k hk => ?_⟩
  · rw [pk_un]
    · exact H.2.1
    · intro e
      apply ht
      apply Int32.toInt_inj.mp
      show t.toInt = 0
      omega
  · by_cases e : k = n
    · subst e
      rw [pk_us]
      refine ⟨⟨ht0, ht1⟩, m + 1, hm, ht, ht0, ht1, ?_⟩
      rw [pk_us]
      exact pq_rt_upd hf m pr hr
    · rw [pk_un e]
      obtain ⟨g1, m1, g2, g3⟩ := H.2.2 k (by omega)
      exact ⟨g1, m1, g2, pq_rt_upd hf m1 _ g3⟩
theorem pq_un_all {f : Nat → Int32} {x : Int32} : ∀ n, (∀ j, j < n → f j = x) → pq_un f x n = 0
  | 0, _ => rfl
  | n + 1, h => by simp only [pq_un, h n (by omega), if_true, pq_un_all n (fun j hj => h j (by omega))]
theorem pq_bf.start {q f : Nat → Int32} (h : ∀ j, j < 161604 → f j = -1) : pq_bf (upd q 0 0) (upd f 0 0) 1 := by
  have h1 := pq_un_add (f := f) (x := -1) (v := 0) (i := 0) (h 0 (by omega)) (by decide) 161604 (by omega)
  refine ⟨by omega, pk_us, fun k hk => ?_⟩
  have e : k = 0 := by omega
  subst e
  rw [pk_us]
  exact ⟨⟨by decide, by decide⟩, 0, Nat.le_refl _, rfl⟩

set_option maxHeartbeats 4000000 in
set_option maxRecDepth 100000 in
theorem k_X11_tell (l : Launch) (D : va_G) (cy : Nat → ClassId) (S : HS) (a : Nat) (ha : pq_R S a 14) (af m0 : Nat) (pr : Int32) (e43 : hO S a 43 = .ref af) (haf : pq_R S af 139) (e41 : hO S a 41 = .int 0) (hm0 : m0 ≤ 161603) (hr0 : pq_rt (hI S af) m0 pr) : pq_C l D cy yX11_tell cX11_tell 4 (some .int) 1 0 0 S [.ref a, .int pr] (fun v S2 => pq_Fr [(14, 41), (101, 0)] S S2 ∧ ∃ x : Int32, v = some (.int x)) := by
  refine pq_start (by decide) (Nat.le_of_ble_eq_true rfl) ?_
  intro p e s m args below meth c A F hr hlk hnm hA
  have qm1 : (-1 : Int32).toInt = -1 := rfl
  have q0 : (0 : Int32).toInt = 0 := rfl
  have q1 : (1 : Int32).toInt = 1 := rfl
  have L33 : ∀  (fu : Nat) (S1 : HS) (k w : Int32) (mm : Nat) (hF : pq_Fr [(14, 41), (101, 0)] S S1) (hk : k.toInt = (mm : Int)) (hmm : mm ≤ 161603) (hrt : pq_rt (hI S af) mm w), mm < fu → pq_At p l e (pq_rm 1 0 0) s m args below meth c (pq_Z below args s D cy S 0 0 (fun v S2 => pq_Fr [(14, 41), (101, 0)] S S2 ∧ ∃ x : Int32, v = some (.int x))) D cy A 4 0 0 33 S1 [some (.ref a), some (.int pr), some (.int k), some (.int w)] [] := by
    intro  fu
    induction fu with
    | zero => intro S1 k w mm hF hk hmm hrt hm; exact absurd hm (Nat.not_lt_zero _)
    | succ fu ih =>
      intro S1 k w mm hF hk hmm hrt hm
      have ha1 := hF.R ha (by decide)
      have haf1 := hF.R haf (by decide)
      have e43a := hF.O ha (by decide) (by decide) e43
      have if1 := hF.I haf (by decide) (by decide)
      refine pq_iload_n F dX11_tell_33 rfl rfl ?_
      refine pq_if_eq (tgt := 62) F dX11_tell_34 (by decide) (fun c34 => ?_) (fun c34 => ?_)
      · skip
        refine pq_aload_n F dX11_tell_62 rfl rfl ?_
        refine pq_getI F ha1 (by decide) lk_X11_276 rfl dX11_tell_63 (fun x63 e63 l63 u63 => ?_)
        exact pq_iret F hr hlk hA (Nat.le_refl _) (Nat.le_refl _) (⟨hF, _, rfl⟩) dX11_tell_66
      · skip
        obtain ⟨m1, rfl⟩ : ∃ m1, mm = m1 + 1 := (by cases mm with | zero => exact absurd hrt c34 | succ k => exact ⟨k, rfl⟩)
        obtain ⟨g1, g2, g3, g4⟩ := hrt
        refine pq_iinc (v := -1) F dX11_tell_37 rfl (by decide) (by decide) ?_
        refine pq_aload_n F dX11_tell_40 rfl rfl ?_
        refine pq_getR F ha1 (by decide) lk_X11_229 rfl dX11_tell_41 (fun r41 e41 h41 => ?_)
        refine pq_iload_n F dX11_tell_44 rfl rfl ?_
        refine pq_aload_n F dX11_tell_45 rfl rfl ?_
        refine pq_getR F ha1 (by decide) lk_X11_238 rfl dX11_tell_46 (fun r46 e46 h46 => ?_)
        refine pq_iload_n F dX11_tell_49 rfl rfl ?_
        refine pq_bald F h46 (by decide) (by decide) rfl (fun n1_50 n2_50 => (by simp only [vp_in_iff, Int32.lt_iff_toInt_lt, Int32.le_iff_toInt_le, ← Int32.toInt_inj, Int32.toInt_add, Int32.toInt_sub, Int32.toInt_mul, Int32.toInt_neg, pq_NuO, pq_NuI, pq_NuJ, qm1, q0, q1] at *; (try simp (disch := omega) only [pq_bm] at *); all_goals omega)) dX11_tell_50 (fun x50 e50 l50 u50 => ?_)
        refine pq_bast F h41 (by decide) (by decide) rfl (fun n1_51 n2_51 => (by simp only [vp_in_iff, Int32.lt_iff_toInt_lt, Int32.le_iff_toInt_le, ← Int32.toInt_inj, Int32.toInt_add, Int32.toInt_sub, Int32.toInt_mul, Int32.toInt_neg, pq_NuO, pq_NuI, pq_NuJ, qm1, q0, q1] at *; (try simp (disch := omega) only [pq_bm] at *); all_goals omega)) (pq_nb _) dX11_tell_51 ?_
        refine pq_aload_n F dX11_tell_52 rfl rfl ?_
        refine pq_get F ha1 (by decide) lk_X11_235 e43a dX11_tell_53 ?_
        refine pq_iload_n F dX11_tell_56 rfl rfl ?_
        refine pq_iald F haf1 (by decide) (by decide) rfl (fun n1_57 n2_57 => (by simp only [vp_in_iff, Int32.lt_iff_toInt_lt, Int32.le_iff_toInt_le, ← Int32.toInt_inj, Int32.toInt_add, Int32.toInt_sub, Int32.toInt_mul, Int32.toInt_neg, pq_NuO, pq_NuI, pq_NuJ, qm1, q0, q1] at *; (try simp (disch := omega) only [pq_bm] at *); all_goals omega)) dX11_tell_57 (fun x57 e57 l57 u57 => ?_)
        refine pq_istore_n F dX11_tell_58 rfl (by decide) ?_
        refine pq_goto (tgt := 33) F dX11_tell_59 (by decide) ?_
        exact ih _ _ _ m1 (hF.uI h41 (by decide)) (by simp only [vp_in_iff, Int32.lt_iff_toInt_lt, Int32.le_iff_toInt_le, ← Int32.toInt_inj, Int32.toInt_add, Int32.toInt_sub, Int32.toInt_mul, Int32.toInt_neg, pq_NuO, pq_NuI, pq_NuJ, qm1, q0, q1] at *; (try simp (disch := omega) only [pq_bm] at *); all_goals omega) (by omega) (by rw [show x57 = hI S af w.toNatClampNeg from e57.trans (by first | exact congrFun if1 _ | (rw [← if1]; exact congrFun (pq_Ib haf1 h41 (by decide)) _))]; exact g4) (by omega)
  have L2 : ∀  (fu : Nat) (S1 : HS) (w tl : Int32) (mm : Nat) (hF : pq_Fr [(14, 41), (101, 0)] S S1) (ht : hO S1 a 41 = .int tl) (hk : tl.toInt + (mm : Int) = (m0 : Int)) (hk0 : 0 ≤ tl.toInt) (hrt : pq_rt (hI S af) mm w), mm < fu → pq_At p l e (pq_rm 1 0 0) s m args below meth c (pq_Z below args s D cy S 0 0 (fun v S2 => pq_Fr [(14, 41), (101, 0)] S S2 ∧ ∃ x : Int32, v = some (.int x))) D cy A 4 0 0 2 S1 [some (.ref a), some (.int pr), some (.int w), none] [] := by
    intro  fu
    induction fu with
    | zero => intro S1 w tl mm hF ht hk hk0 hrt hm; exact absurd hm (Nat.not_lt_zero _)
    | succ fu ih =>
      intro S1 w tl mm hF ht hk hk0 hrt hm
      have ha1 := hF.R ha (by decide)
      have haf1 := hF.R haf (by decide)
      have e43a := hF.O ha (by decide) (by decide) e43
      have if1 := hF.I haf (by decide) (by decide)
      refine pq_iload_n F dX11_tell_2 rfl rfl ?_
      refine pq_if_eq (tgt := 26) F dX11_tell_3 (by decide) (fun c3 => ?_) (fun c3 => ?_)
      · skip
        have hm9 : mm = 0 := (by cases mm with | zero => rfl | succ k => exact absurd c3 hrt.1)
        refine pq_aload_n F dX11_tell_26 rfl rfl ?_
        refine pq_get F ha1 (by decide) lk_X11_276 ht dX11_tell_27 ?_
        refine pq_istore_n F dX11_tell_30 rfl (by decide) ?_
        refine pq_iload_n F dX11_tell_31 rfl rfl ?_
        refine pq_istore_n F dX11_tell_32 rfl (by decide) ?_
        exact L33 200000 _ tl pr m0 hF (by simp only [vp_in_iff, Int32.lt_iff_toInt_lt, Int32.le_iff_toInt_le, ← Int32.toInt_inj, Int32.toInt_add, Int32.toInt_sub, Int32.toInt_mul, Int32.toInt_neg, pq_NuO, pq_NuI, pq_NuJ, qm1, q0, q1] at *; (try simp (disch := omega) only [pq_bm] at *); all_goals omega) hm0 hr0 (by omega)
      · skip
        obtain ⟨m1, rfl⟩ : ∃ m1, mm = m1 + 1 := (by cases mm with | zero => exact absurd hrt c3 | succ k => exact ⟨k, rfl⟩)
        obtain ⟨g1, g2, g3, g4⟩ := hrt
        refine pq_aload_n F dX11_tell_6 rfl rfl ?_
        refine pq_dup F dX11_tell_7 rfl ?_
        refine pq_get F ha1 (by decide) lk_X11_276 ht dX11_tell_8 ?_
        refine pq_iconst (v := 1) F dX11_tell_11 (by decide) ?_
        refine pq_iadd F dX11_tell_12 ?_
        refine pq_putI F ha1 (by decide) lp_X11_276 rfl (by simp only [vp_in_iff, Int32.lt_iff_toInt_lt, Int32.le_iff_toInt_le, ← Int32.toInt_inj, Int32.toInt_add, Int32.toInt_sub, Int32.toInt_mul, Int32.toInt_neg, pq_NuO, pq_NuI, pq_NuJ, qm1, q0, q1] at *; (try simp (disch := omega) only [pq_bm] at *); all_goals omega) (by simp only [vp_in_iff, Int32.lt_iff_toInt_lt, Int32.le_iff_toInt_le, ← Int32.toInt_inj, Int32.toInt_add, Int32.toInt_sub, Int32.toInt_mul, Int32.toInt_neg, pq_NuO, pq_NuI, pq_NuJ, qm1, q0, q1] at *; (try simp (disch := omega) only [pq_bm] at *); all_goals omega) dX11_tell_13 ?_
        refine pq_aload_n F dX11_tell_16 rfl rfl ?_
        refine pq_get F ha1 (by decide) lk_X11_235 (pq_kp e43a (by decide)) dX11_tell_17 ?_
        refine pq_iload_n F dX11_tell_20 rfl rfl ?_
        refine pq_iald F haf1 (by decide) (by decide) rfl (fun n1_21 n2_21 => (by simp only [vp_in_iff, Int32.lt_iff_toInt_lt, Int32.le_iff_toInt_le, ← Int32.toInt_inj, Int32.toInt_add, Int32.toInt_sub, Int32.toInt_mul, Int32.toInt_neg, pq_NuO, pq_NuI, pq_NuJ, qm1, q0, q1] at *; (try simp (disch := omega) only [pq_bm] at *); all_goals omega)) dX11_tell_21 (fun x21 e21 l21 u21 => ?_)
        refine pq_istore_n F dX11_tell_22 rfl (by decide) ?_
        refine pq_goto (tgt := 2) F dX11_tell_23 (by decide) ?_
        exact pq_fg (ih _ x21 (tl + 1) m1 (hF.uO ha1 (by decide)) pq_ks (by simp only [vp_in_iff, Int32.lt_iff_toInt_lt, Int32.le_iff_toInt_le, ← Int32.toInt_inj, Int32.toInt_add, Int32.toInt_sub, Int32.toInt_mul, Int32.toInt_neg, pq_NuO, pq_NuI, pq_NuJ, qm1, q0, q1] at *; (try simp (disch := omega) only [pq_bm] at *); all_goals omega) (by simp only [vp_in_iff, Int32.lt_iff_toInt_lt, Int32.le_iff_toInt_le, ← Int32.toInt_inj, Int32.toInt_add, Int32.toInt_sub, Int32.toInt_mul, Int32.toInt_neg, pq_NuO, pq_NuI, pq_NuJ, qm1, q0, q1] at *; (try simp (disch := omega) only [pq_bm] at *); all_goals omega) (by rw [show x21 = hI S af w.toNatClampNeg from e21.trans (congrFun if1 _)]; exact g4) (by omega)) (by repeat' (first | exact rfl | exact trivial | constructor))
  refine pq_iload_n F dX11_tell_0 rfl rfl ?_
  refine pq_istore_n F dX11_tell_1 rfl (by decide) ?_
  exact pq_fg (L2 200000 _ pr 0 m0 pq_Fr.rf e41 (by simp only [vp_in_iff, Int32.lt_iff_toInt_lt, Int32.le_iff_toInt_le, ← Int32.toInt_inj, Int32.toInt_add, Int32.toInt_sub, Int32.toInt_mul, Int32.toInt_neg, pq_NuO, pq_NuI, pq_NuJ, qm1, q0, q1] at *; (try simp (disch := omega) only [pq_bm] at *); all_goals omega) (by simp only [vp_in_iff, Int32.lt_iff_toInt_lt, Int32.le_iff_toInt_le, ← Int32.toInt_inj, Int32.toInt_add, Int32.toInt_sub, Int32.toInt_mul, Int32.toInt_neg, pq_NuO, pq_NuI, pq_NuJ, qm1, q0, q1] at *; (try simp (disch := omega) only [pq_bm] at *); all_goals omega) hr0 (by omega)) (by repeat' (first | exact rfl | exact trivial | constructor))

