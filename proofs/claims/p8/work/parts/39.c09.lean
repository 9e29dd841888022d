/-! ===== an automaton's fields, bundled; P the states that are reached ===== -/
theorem pq_lt.two {f : Nat → Int32} {x y : Int32} {b : Int} (hx : x.toInt < b) (hy : y.toInt < b) : pq_lt (upd (upd f (0 : Int32).toNatClampNeg x) (1 : Int32).toNatClampNeg y) (2 : Int32).toInt b := fun i hi => by
  rw [show (2 : Int32).toInt = 2 from rfl] at hi
  rw [show (0 : Int32).toNatClampNeg = 0 from rfl, show (1 : Int32).toNatClampNeg = 1 from rfl]
  by_cases e : i = 1
  · rw [e, pk_us]; exact hy
  · rw [pk_un e, show i = 0 by omega, pk_us]; exact hx
theorem pq_lt.cpy {f g : Nat → Int32} {b : Int} (h : pq_lt f 128 b) : pq_lt (va_cpy f g (0 : Int32).toNatClampNeg (0 : Int32).toNatClampNeg (128 : Int32).toNatClampNeg) 128 b := fun i hi => by
  rw [show (0 : Int32).toNatClampNeg = 0 from rfl, show (128 : Int32).toNatClampNeg = 128 from rfl]
  unfold va_cpy
  rw [if_pos ⟨Nat.zero_le _, by omega⟩]
  have := h i hi
  rwa [show 0 + (i - 0) = i by omega]
/-- every row of n elements that begins at x * n, x in Q, has its elements in P -/
def pq_Cl (f : Nat → Int32) (Q P : Int32 → Prop) (n : Int) : Prop := ∀ x, Q x → ∀ i : Nat, x.toInt * n ≤ (i : Int) → (i : Int) < x.toInt * n + n → P (f i)
theorem pq_Cl.put {f : Nat → Int32} {Q P : Int32 → Prop} {n : Int} {k : Nat} {v : Int32} (h : pq_Cl f Q P n) (hv : P v) : pq_Cl (upd f k v) Q P n := fun x hx i h1 h2 => by
  by_cases e : i = k
  · rw [e, pk_us]; exact hv
  · rw [pk_un e]; exact h x hx i h1 h2
def pq_Au (S : HS) (t rk rs ko st : Nat) (n sn s0 : Int32) (P : Int32 → Prop) : Prop := (hO S t 0 = .ref ko ∧ pq_R S ko rk ∧ hO S t 3 = .ref st ∧ pq_R S st rs) ∧ (hO S t 4 = .int n ∧ hO S t 5 = .int sn ∧ hO S t 6 = .int s0) ∧ (1 ≤ n.toInt ∧ n.toInt ≤ 128 ∧ 1 ≤ sn.toInt ∧ sn.toInt ≤ 201) ∧ sn.toInt * n.toInt ≤ (hN S st : Int) ∧ pq_lt (hI S ko) 128 n.toInt ∧ (∀ x, P x → 0 ≤ x.toInt ∧ x.toInt < sn.toInt) ∧ P s0 ∧ pq_Cl (hI S st) P P n.toInt
section AU
variable {S S1 : HS} {t rk rs ko st : Nat} {n sn s0 : Int32} {P : Int32 → Prop}
theorem pq_Au.e0 (h : pq_Au S t rk rs ko st n sn s0 P) : hO S t 0 = .ref ko := h.1.1
theorem pq_Au.hk (h : pq_Au S t rk rs ko st n sn s0 P) : pq_R S ko rk := h.1.2.1
theorem pq_Au.e3 (h : pq_Au S t rk rs ko st n sn s0 P) : hO S t 3 = .ref st := h.1.2.2.1
theorem pq_Au.hs (h : pq_Au S t rk rs ko st n sn s0 P) : pq_R S st rs := h.1.2.2.2
theorem pq_Au.e4 (h : pq_Au S t rk rs ko st n sn s0 P) : hO S t 4 = .int n := h.2.1.1
theorem pq_Au.e5 (h : pq_Au S t rk rs ko st n sn s0 P) : hO S t 5 = .int sn := h.2.1.2.1
theorem pq_Au.e6 (h : pq_Au S t rk rs ko st n sn s0 P) : hO S t 6 = .int s0 := h.2.1.2.2
theorem pq_Au.b (h : pq_Au S t rk rs ko st n sn s0 P) : 1 ≤ n.toInt ∧ n.toInt ≤ 128 ∧ 1 ≤ sn.toInt ∧ sn.toInt ≤ 201 := h.2.2.1
theorem pq_Au.l (h : pq_Au S t rk rs ko st n sn s0 P) : sn.toInt * n.toInt ≤ (hN S st : Int) := h.2.2.2.1
theorem pq_Au.k (h : pq_Au S t rk rs ko st n sn s0 P) : pq_lt (hI S ko) 128 n.toInt := h.2.2.2.2.1
theorem pq_Au.p (h : pq_Au S t rk rs ko st n sn s0 P) {x : Int32} (hx : P x) : 0 ≤ x.toInt ∧ x.toInt < sn.toInt := h.2.2.2.2.2.1 x hx
theorem pq_Au.p0 (h : pq_Au S t rk rs ko st n sn s0 P) : P s0 := h.2.2.2.2.2.2.1
theorem pq_Au.c (h : pq_Au S t rk rs ko st n sn s0 P) : pq_Cl (hI S st) P P n.toInt := h.2.2.2.2.2.2.2
theorem pq_Au.fr {r : Nat} (h : pq_Au S t rk rs ko st n sn s0 P) (ht : pq_R S t r) (hr : r < 60) (h1 : 100 ≤ rk) (h2 : 100 ≤ rs) {M : List (Nat × Nat)} (hF : pq_Fr M S S1) (hM : ∀ q ∈ M, q ∉ [(r, 0), (r, 3), (r, 4), (r, 5), (r, 6), (rk, 0), (rs, 0)]) : pq_Au S1 t rk rs ko st n sn s0 P := by
  have nm : ∀ q, q ∈ [(r, 0), (r, 3), (r, 4), (r, 5), (r, 6), (rk, 0), (rs, 0)] → q ∉ M := fun q hq hm => hM q hm hq
  refine ⟨⟨hF.O ht hr (nm _ (by simp)) h.e0, hF.R h.hk (Or.inr h1), hF.O ht hr (nm _ (by simp)) h.e3, hF.R h.hs (Or.inr h2)⟩, ⟨hF.O ht hr (nm _ (by simp)) h.e4, hF.O ht hr (nm _ (by simp)) h.e5, hF.O ht hr (nm _ (by simp)) h.e6⟩, h.b, ?_, ?_, h.2.2.2.2.2.1, h.p0, ?_⟩
  · rw [(hF.1 st rs h.hs (Or.inr h2)).2]; exact h.l
  · rw [hF.I h.hk h1 (nm _ (by simp))]; exact h.k
  · rw [hF.I h.hs h2 (nm _ (by simp))]; exact h.c
end AU

set_option maxHeartbeats 4000000 in
set_option maxRecDepth 100000 in
theorem k_X0_stepOfA (l : Launch) (D : va_G) (cy : Nat → ClassId) (S : HS) (a : Nat) (ha : pq_R S a 3) (sv : Int32) (bv : Int32) (hbv0 : 0 ≤ bv.toInt) (hbv1 : bv.toInt ≤ 127) (ko st : Nat) (n sn s0 : Int32) (Pr : Int32 → Prop) (hA1 : pq_Au S a 150 152 ko st n sn s0 Pr) (hPs : Pr sv) : pq_C l D cy yX0_stepOf cX0_stepOf 3 (some .int) 1 0 0 S [.ref a, .int sv, .int bv] (fun v S2 => S2 = S ∧ ∃ x : Int32, v = some (.int x) ∧ 0 ≤ x.toInt ∧ x.toInt ≤ 200 ∧ (Pr x ∧ x.toInt < sn.toInt)) := by
  refine pq_start (by decide) (Nat.le_of_ble_eq_true rfl) ?_
  intro p e s m args below meth c A F hr hlk hnm hA
  have lqm1 : (-1 : Int32).toInt = -1 := rfl
  have lq0 : (0 : Int32).toInt = 0 := rfl
  have lq1 : (1 : Int32).toInt = 1 := rfl
  have hab := hA1.b
  have hal := hA1.l
  have hsp := hA1.p hPs
  obtain ⟨q1, q2, q3, q4⟩ := pq_mb (x := sv.toInt) (y := n.toInt) (A := 200) (B := 128) (by focus ((try clear hA1); (try clear hPs); simp only [vp_in_iff, Int32.lt_iff_toInt_lt, Int32.le_iff_toInt_le, ← Int32.toInt_inj, Int32.toInt_add, Int32.toInt_sub, Int32.toInt_mul, Int32.toInt_neg, pq_NuO, pq_NuI, pq_NuJ, pq_NuR, pq_shr6, pq_shr7, pq_shr8, lqm1, lq0, lq1] at *; (try simp (disch := omega) only [pq_bm] at *); all_goals omega)) (by focus ((try clear hA1); (try clear hPs); simp only [vp_in_iff, Int32.lt_iff_toInt_lt, Int32.le_iff_toInt_le, ← Int32.toInt_inj, Int32.toInt_add, Int32.toInt_sub, Int32.toInt_mul, Int32.toInt_neg, pq_NuO, pq_NuI, pq_NuJ, pq_NuR, pq_shr6, pq_shr7, pq_shr8, lqm1, lq0, lq1] at *; (try simp (disch := omega) only [pq_bm] at *); all_goals omega)) (by focus ((try clear hA1); (try clear hPs); simp only [vp_in_iff, Int32.lt_iff_toInt_lt, Int32.le_iff_toInt_le, ← Int32.toInt_inj, Int32.toInt_add, Int32.toInt_sub, Int32.toInt_mul, Int32.toInt_neg, pq_NuO, pq_NuI, pq_NuJ, pq_NuR, pq_shr6, pq_shr7, pq_shr8, lqm1, lq0, lq1] at *; (try simp (disch := omega) only [pq_bm] at *); all_goals omega)) (by focus ((try clear hA1); (try clear hPs); simp only [vp_in_iff, Int32.lt_iff_toInt_lt, Int32.le_iff_toInt_le, ← Int32.toInt_inj, Int32.toInt_add, Int32.toInt_sub, Int32.toInt_mul, Int32.toInt_neg, pq_NuO, pq_NuI, pq_NuJ, pq_NuR, pq_shr6, pq_shr7, pq_shr8, lqm1, lq0, lq1] at *; (try simp (disch := omega) only [pq_bm] at *); all_goals omega))
  have q5 := pq_mn (x := sv.toInt) (y := n.toInt) (A := sn.toInt) (by focus ((try clear hA1); (try clear hPs); simp only [vp_in_iff, Int32.lt_iff_toInt_lt, Int32.le_iff_toInt_le, ← Int32.toInt_inj, Int32.toInt_add, Int32.toInt_sub, Int32.toInt_mul, Int32.toInt_neg, pq_NuO, pq_NuI, pq_NuJ, pq_NuR, pq_shr6, pq_shr7, pq_shr8, lqm1, lq0, lq1] at *; (try simp (disch := omega) only [pq_bm] at *); all_goals omega)) (by focus ((try clear hA1); (try clear hPs); simp only [vp_in_iff, Int32.lt_iff_toInt_lt, Int32.le_iff_toInt_le, ← Int32.toInt_inj, Int32.toInt_add, Int32.toInt_sub, Int32.toInt_mul, Int32.toInt_neg, pq_NuO, pq_NuI, pq_NuJ, pq_NuR, pq_shr6, pq_shr7, pq_shr8, lqm1, lq0, lq1] at *; (try simp (disch := omega) only [pq_bm] at *); all_goals omega))
  refine pq_aload_n F dX0_stepOf_0 rfl rfl ?_
  refine pq_get F ha (by decide) lk_X0_24 hA1.e3 dX0_stepOf_1 ?_
  refine pq_iload_n F dX0_stepOf_4 rfl rfl ?_
  refine pq_aload_n F dX0_stepOf_5 rfl rfl ?_
  refine pq_get F ha (by decide) lk_X0_27 hA1.e4 dX0_stepOf_6 ?_
  refine pq_imul F dX0_stepOf_9 ?_
  refine pq_aload_n F dX0_stepOf_10 rfl rfl ?_
  refine pq_get F ha (by decide) lk_X0_9 hA1.e0 dX0_stepOf_11 ?_
  refine pq_iload_n F dX0_stepOf_14 rfl rfl ?_
  refine pq_iald F hA1.hk (by decide) (by decide) rfl (fun n1_15 n2_15 => (by focus ((try clear hA1); (try clear hPs); simp only [vp_in_iff, Int32.lt_iff_toInt_lt, Int32.le_iff_toInt_le, ← Int32.toInt_inj, Int32.toInt_add, Int32.toInt_sub, Int32.toInt_mul, Int32.toInt_neg, pq_NuO, pq_NuI, pq_NuJ, pq_NuR, pq_shr6, pq_shr7, pq_shr8, lqm1, lq0, lq1] at *; (try simp (disch := omega) only [pq_bm] at *); all_goals omega))) dX0_stepOf_15 (fun x15 e15 l15 u15 => ?_)
  have hkb : x15.toInt < n.toInt := (by rw [e15]; exact hA1.k _ (by have := pq_cl (x := bv) (by focus ((try clear hA1); (try clear hPs); simp only [vp_in_iff, Int32.lt_iff_toInt_lt, Int32.le_iff_toInt_le, ← Int32.toInt_inj, Int32.toInt_add, Int32.toInt_sub, Int32.toInt_mul, Int32.toInt_neg, pq_NuO, pq_NuI, pq_NuJ, pq_NuR, pq_shr6, pq_shr7, pq_shr8, lqm1, lq0, lq1] at *; (try simp (disch := omega) only [pq_bm] at *); all_goals omega)); focus ((try clear hA1); (try clear hPs); simp only [vp_in_iff, Int32.lt_iff_toInt_lt, Int32.le_iff_toInt_le, ← Int32.toInt_inj, Int32.toInt_add, Int32.toInt_sub, Int32.toInt_mul, Int32.toInt_neg, pq_NuO, pq_NuI, pq_NuJ, pq_NuR, pq_shr6, pq_shr7, pq_shr8, lqm1, lq0, lq1] at *; (try simp (disch := omega) only [pq_bm] at *); all_goals omega)))
  refine pq_iadd F dX0_stepOf_16 ?_
  refine pq_iald F hA1.hs (by decide) (by decide) rfl (fun n1_17 n2_17 => (by focus ((try clear hA1); (try clear hPs); simp only [vp_in_iff, Int32.lt_iff_toInt_lt, Int32.le_iff_toInt_le, ← Int32.toInt_inj, Int32.toInt_add, Int32.toInt_sub, Int32.toInt_mul, Int32.toInt_neg, pq_NuO, pq_NuI, pq_NuJ, pq_NuR, pq_shr6, pq_shr7, pq_shr8, lqm1, lq0, lq1] at *; (try simp (disch := omega) only [pq_bm] at *); all_goals omega))) dX0_stepOf_17 (fun x17 e17 l17 u17 => ?_)
  exact pq_iret F hr hlk hA (Nat.le_refl _) (Nat.le_refl _) ((by have hP : Pr x17 := (by rw [e17]; exact hA1.c sv hPs _ (by rw [pq_cl (by focus ((try clear hA1); (try clear hPs); simp only [vp_in_iff, Int32.lt_iff_toInt_lt, Int32.le_iff_toInt_le, ← Int32.toInt_inj, Int32.toInt_add, Int32.toInt_sub, Int32.toInt_mul, Int32.toInt_neg, pq_NuO, pq_NuI, pq_NuJ, pq_NuR, pq_shr6, pq_shr7, pq_shr8, lqm1, lq0, lq1] at *; (try simp (disch := omega) only [pq_bm] at *); all_goals omega))]; focus ((try clear hA1); (try clear hPs); simp only [vp_in_iff, Int32.lt_iff_toInt_lt, Int32.le_iff_toInt_le, ← Int32.toInt_inj, Int32.toInt_add, Int32.toInt_sub, Int32.toInt_mul, Int32.toInt_neg, pq_NuO, pq_NuI, pq_NuJ, pq_NuR, pq_shr6, pq_shr7, pq_shr8, lqm1, lq0, lq1] at *; (try simp (disch := omega) only [pq_bm] at *); all_goals omega)) (by rw [pq_cl (by focus ((try clear hA1); (try clear hPs); simp only [vp_in_iff, Int32.lt_iff_toInt_lt, Int32.le_iff_toInt_le, ← Int32.toInt_inj, Int32.toInt_add, Int32.toInt_sub, Int32.toInt_mul, Int32.toInt_neg, pq_NuO, pq_NuI, pq_NuJ, pq_NuR, pq_shr6, pq_shr7, pq_shr8, lqm1, lq0, lq1] at *; (try simp (disch := omega) only [pq_bm] at *); all_goals omega))]; focus ((try clear hA1); (try clear hPs); simp only [vp_in_iff, Int32.lt_iff_toInt_lt, Int32.le_iff_toInt_le, ← Int32.toInt_inj, Int32.toInt_add, Int32.toInt_sub, Int32.toInt_mul, Int32.toInt_neg, pq_NuO, pq_NuI, pq_NuJ, pq_NuR, pq_shr6, pq_shr7, pq_shr8, lqm1, lq0, lq1] at *; (try simp (disch := omega) only [pq_bm] at *); all_goals omega))); exact ⟨rfl, _, rfl, (by focus ((try clear hA1); (try clear hPs); simp only [vp_in_iff, Int32.lt_iff_toInt_lt, Int32.le_iff_toInt_le, ← Int32.toInt_inj, Int32.toInt_add, Int32.toInt_sub, Int32.toInt_mul, Int32.toInt_neg, pq_NuO, pq_NuI, pq_NuJ, pq_NuR, pq_shr6, pq_shr7, pq_shr8, lqm1, lq0, lq1] at *; (try simp (disch := omega) only [pq_bm] at *); all_goals omega)), (by focus ((try clear hA1); (try clear hPs); simp only [vp_in_iff, Int32.lt_iff_toInt_lt, Int32.le_iff_toInt_le, ← Int32.toInt_inj, Int32.toInt_add, Int32.toInt_sub, Int32.toInt_mul, Int32.toInt_neg, pq_NuO, pq_NuI, pq_NuJ, pq_NuR, pq_shr6, pq_shr7, pq_shr8, lqm1, lq0, lq1] at *; (try simp (disch := omega) only [pq_bm] at *); all_goals omega)), hP, (hA1.p hP).2⟩)) dX0_stepOf_18

set_option maxHeartbeats 4000000 in
set_option maxRecDepth 100000 in
theorem k_X0_hasTextA (l : Launch) (D : va_G) (cy : Nat → ClassId) (S : HS) (a : Nat) (ha : pq_R S a 3) (tp : Nat) (htp : pq_R S tp 12) (ko st : Nat) (n sn s0 : Int32) (Pr : Int32 → Prop) (hA1 : pq_Au S a 150 152 ko st n sn s0 Pr) : pq_C l D cy yX0_hasText cX0_hasText 5 (some .boolean) 2 0 0 S [.ref a, .ref tp] (fun v S2 => S2 = S ∧ ∃ x : Int32, v = some (.int x) ∧ 0 ≤ x.toInt ∧ x.toInt ≤ 1) := by
  refine pq_start (by decide) (Nat.le_of_ble_eq_true rfl) ?_
  intro p e s m args below meth c A F hr hlk hnm hA
  have lqm1 : (-1 : Int32).toInt = -1 := rfl
  have lq0 : (0 : Int32).toInt = 0 := rfl
  have lq1 : (1 : Int32).toInt = 1 := rfl
  have lq128 : (128 : Int32).toInt = 128 := rfl
  have hab := hA1.b
  have hal := hA1.l
  have L19 : ∀  (fu : Nat)  (sv : Int32) (k : Int32)  (hPv : Pr sv) (hk0 : 0 ≤ k.toInt) (hk1 : k.toInt ≤ 2048), (2048 - k.toInt).toNat < fu → pq_At p l e (pq_rm 2 0 0) s m args below meth c (pq_Z below args s D cy S 0 0 (fun v S2 => S2 = S ∧ ∃ x : Int32, v = some (.int x) ∧ 0 ≤ x.toInt ∧ x.toInt ≤ 1)) D cy A 5 0 0 19 S [some (.ref a), some (.ref tp), some (.int sv), some (.int k), none] [] := by
    intro  fu
    induction fu with
    | zero => intro sv k hPv hk0 hk1 hm; exact absurd hm (Nat.not_lt_zero _)
    | succ fu ih =>
      intro sv k hPv hk0 hk1 hm
      have hsv := hA1.p hPv
      refine pq_iload_n F dX0_hasText_19 rfl rfl ?_
      refine pq_aload_n F dX0_hasText_20 rfl rfl ?_
      refine pq_getI F htp (by decide) lk_X0_58 rfl dX0_hasText_21 (fun x21 e21 l21 u21 => ?_)
      refine pq_icmp_ge (tgt := 63) F dX0_hasText_24 (by decide) (fun c24 => ?_) (fun c24 => ?_)
      · skip
        refine pq_aload_n F dX0_hasText_63 rfl rfl ?_
        refine pq_getR F ha (by decide) lk_X0_20 rfl dX0_hasText_64 (fun r64 e64 h64 => ?_)
        refine pq_iload_n F dX0_hasText_67 rfl rfl ?_
        refine pq_zald F h64 (by decide) (by decide) rfl (fun n1_68 n2_68 => (by focus ((try clear hA1); (try clear hPs); (try clear p53); (try clear p29); (try clear hPv); simp only [vp_in_iff, Int32.lt_iff_toInt_lt, Int32.le_iff_toInt_le, ← Int32.toInt_inj, Int32.toInt_add, Int32.toInt_sub, Int32.toInt_mul, Int32.toInt_neg, pq_NuO, pq_NuI, pq_NuJ, pq_NuR, pq_shr6, pq_shr7, pq_shr8, lqm1, lq0, lq1, lq128] at *; (try simp (disch := omega) only [pq_bm] at *); all_goals omega))) dX0_hasText_68 (fun x68 e68 l68 u68 => ?_)
        exact pq_zret F hr hlk hA (pq_bz (by focus ((try clear hA1); (try clear hPs); (try clear p53); (try clear p29); (try clear hPv); simp only [vp_in_iff, Int32.lt_iff_toInt_lt, Int32.le_iff_toInt_le, ← Int32.toInt_inj, Int32.toInt_add, Int32.toInt_sub, Int32.toInt_mul, Int32.toInt_neg, pq_NuO, pq_NuI, pq_NuJ, pq_NuR, pq_shr6, pq_shr7, pq_shr8, lqm1, lq0, lq1, lq128] at *; (try simp (disch := omega) only [pq_bm] at *); all_goals omega)) (by focus ((try clear hA1); (try clear hPs); (try clear p53); (try clear p29); (try clear hPv); simp only [vp_in_iff, Int32.lt_iff_toInt_lt, Int32.le_iff_toInt_le, ← Int32.toInt_inj, Int32.toInt_add, Int32.toInt_sub, Int32.toInt_mul, Int32.toInt_neg, pq_NuO, pq_NuI, pq_NuJ, pq_NuR, pq_shr6, pq_shr7, pq_shr8, lqm1, lq0, lq1, lq128] at *; (try simp (disch := omega) only [pq_bm] at *); all_goals omega))).1 (Nat.le_refl _) (Nat.le_refl _) (⟨rfl, _, rfl, (by focus ((try clear hA1); (try clear hPs); (try clear p53); (try clear p29); (try clear hPv); simp only [vp_in_iff, Int32.lt_iff_toInt_lt, Int32.le_iff_toInt_le, ← Int32.toInt_inj, Int32.toInt_add, Int32.toInt_sub, Int32.toInt_mul, Int32.toInt_neg, pq_NuO, pq_NuI, pq_NuJ, pq_NuR, pq_shr6, pq_shr7, pq_shr8, lqm1, lq0, lq1, lq128] at *; (try simp (disch := omega) only [pq_bm] at *); all_goals omega)), (by focus ((try clear hA1); (try clear hPs); (try clear p53); (try clear p29); (try clear hPv); simp only [vp_in_iff, Int32.lt_iff_toInt_lt, Int32.le_iff_toInt_le, ← Int32.toInt_inj, Int32.toInt_add, Int32.toInt_sub, Int32.toInt_mul, Int32.toInt_neg, pq_NuO, pq_NuI, pq_NuJ, pq_NuR, pq_shr6, pq_shr7, pq_shr8, lqm1, lq0, lq1, lq128] at *; (try simp (disch := omega) only [pq_bm] at *); all_goals omega))⟩) dX0_hasText_69
      · skip
        refine pq_aload_n F dX0_hasText_27 rfl rfl ?_
        refine pq_iload_n F dX0_hasText_28 rfl rfl ?_
        refine pq_callV (As := [_]) F (k_X9_byteAt l D cy _ _ ?_ _) ml_X0_63 htp (by decide) rfl (Nat.le_of_ble_eq_true rfl) ⟨Nat.le_of_ble_eq_true rfl, Nat.le_of_ble_eq_true rfl⟩ ⟨by decide, by decide⟩ dX0_hasText_29 (fun v29 S29 w29 => ?_)
        · exact htp
        obtain ⟨u29, y29, rfl, yl29_0, yl29_1, p29⟩ := w29
        rw [u29]
        try rw [u29] at p29
        refine pq_istore F dX0_hasText_32 (by decide) ?_
        refine pq_iload F dX0_hasText_34 rfl ?_
        refine pq_if_lt (tgt := 47) F dX0_hasText_36 (by decide) (fun c36 => ?_) (fun c36 => ?_)
        · skip
          refine pq_iconst (v := 0) F dX0_hasText_47 (by decide) ?_
          exact pq_zret F hr hlk hA rfl (Nat.le_refl _) (Nat.le_refl _) (⟨rfl, _, rfl, (by focus ((try clear hA1); (try clear hPs); (try clear p53); (try clear p29); (try clear hPv); simp only [vp_in_iff, Int32.lt_iff_toInt_lt, Int32.le_iff_toInt_le, ← Int32.toInt_inj, Int32.toInt_add, Int32.toInt_sub, Int32.toInt_mul, Int32.toInt_neg, pq_NuO, pq_NuI, pq_NuJ, pq_NuR, pq_shr6, pq_shr7, pq_shr8, lqm1, lq0, lq1, lq128] at *; (try simp (disch := omega) only [pq_bm] at *); all_goals omega)), (by focus ((try clear hA1); (try clear hPs); (try clear p53); (try clear p29); (try clear hPv); simp only [vp_in_iff, Int32.lt_iff_toInt_lt, Int32.le_iff_toInt_le, ← Int32.toInt_inj, Int32.toInt_add, Int32.toInt_sub, Int32.toInt_mul, Int32.toInt_neg, pq_NuO, pq_NuI, pq_NuJ, pq_NuR, pq_shr6, pq_shr7, pq_shr8, lqm1, lq0, lq1, lq128] at *; (try simp (disch := omega) only [pq_bm] at *); all_goals omega))⟩) dX0_hasText_48
        · skip
          refine pq_iload F dX0_hasText_39 rfl ?_
          refine pq_sipush (v := 128) F dX0_hasText_41 (by decide) ?_
          refine pq_icmp_lt (tgt := 49) F dX0_hasText_44 (by decide) (fun c44 => ?_) (fun c44 => ?_)
          · skip
            refine pq_aload_n F dX0_hasText_49 rfl rfl ?_
            refine pq_iload_n F dX0_hasText_50 rfl rfl ?_
            refine pq_iload F dX0_hasText_51 rfl ?_
            refine pq_callV (As := [_, _]) F (k_X0_stepOfA l D cy _ _ ?_ _ _ ?_ ?_ ko st n sn s0 Pr hA1 hPv) ml_X0_67 ha (by decide) rfl (Nat.le_of_ble_eq_true rfl) ⟨Nat.le_of_ble_eq_true rfl, Nat.le_of_ble_eq_true rfl⟩ ⟨by decide, by decide⟩ dX0_hasText_53 (fun v53 S53 w53 => ?_)
            · exact ha
            · focus ((try clear hA1); (try clear hPs); (try clear p53); (try clear p29); (try clear hPv); simp only [vp_in_iff, Int32.lt_iff_toInt_lt, Int32.le_iff_toInt_le, ← Int32.toInt_inj, Int32.toInt_add, Int32.toInt_sub, Int32.toInt_mul, Int32.toInt_neg, pq_NuO, pq_NuI, pq_NuJ, pq_NuR, pq_shr6, pq_shr7, pq_shr8, lqm1, lq0, lq1, lq128] at *; (try simp (disch := omega) only [pq_bm] at *); all_goals omega)
            · focus ((try clear hA1); (try clear hPs); (try clear p53); (try clear p29); (try clear hPv); simp only [vp_in_iff, Int32.lt_iff_toInt_lt, Int32.le_iff_toInt_le, ← Int32.toInt_inj, Int32.toInt_add, Int32.toInt_sub, Int32.toInt_mul, Int32.toInt_neg, pq_NuO, pq_NuI, pq_NuJ, pq_NuR, pq_shr6, pq_shr7, pq_shr8, lqm1, lq0, lq1, lq128] at *; (try simp (disch := omega) only [pq_bm] at *); all_goals omega)
            obtain ⟨u53, y53, rfl, yl53_0, yl53_1, p53⟩ := w53
            rw [u53]
            try rw [u53] at p53
            refine pq_istore_n F dX0_hasText_56 rfl (by decide) ?_
            refine pq_iinc (v := 1) F dX0_hasText_57 rfl (by decide) (by decide) ?_
            refine pq_goto (tgt := 19) F dX0_hasText_60 (by decide) ?_
            exact pq_fgm [true, true, true, true, false] (ih _ _ p53.1 (by focus ((try clear hA1); (try clear hPs); (try clear p53); (try clear p29); (try clear hPv); simp only [vp_in_iff, Int32.lt_iff_toInt_lt, Int32.le_iff_toInt_le, ← Int32.toInt_inj, Int32.toInt_add, Int32.toInt_sub, Int32.toInt_mul, Int32.toInt_neg, pq_NuO, pq_NuI, pq_NuJ, pq_NuR, pq_shr6, pq_shr7, pq_shr8, lqm1, lq0, lq1, lq128] at *; (try simp (disch := omega) only [pq_bm] at *); all_goals omega)) (by focus ((try clear hA1); (try clear hPs); (try clear p53); (try clear p29); (try clear hPv); simp only [vp_in_iff, Int32.lt_iff_toInt_lt, Int32.le_iff_toInt_le, ← Int32.toInt_inj, Int32.toInt_add, Int32.toInt_sub, Int32.toInt_mul, Int32.toInt_neg, pq_NuO, pq_NuI, pq_NuJ, pq_NuR, pq_shr6, pq_shr7, pq_shr8, lqm1, lq0, lq1, lq128] at *; (try simp (disch := omega) only [pq_bm] at *); all_goals omega)) (by focus ((try clear hA1); (try clear hPs); (try clear p53); (try clear p29); (try clear hPv); simp only [vp_in_iff, Int32.lt_iff_toInt_lt, Int32.le_iff_toInt_le, ← Int32.toInt_inj, Int32.toInt_add, Int32.toInt_sub, Int32.toInt_mul, Int32.toInt_neg, pq_NuO, pq_NuI, pq_NuJ, pq_NuR, pq_shr6, pq_shr7, pq_shr8, lqm1, lq0, lq1, lq128] at *; (try simp (disch := omega) only [pq_bm] at *); all_goals omega)))
          · skip
            refine pq_iconst (v := 0) F dX0_hasText_47 (by decide) ?_
            exact pq_zret F hr hlk hA rfl (Nat.le_refl _) (Nat.le_refl _) (⟨rfl, _, rfl, (by focus ((try clear hA1); (try clear hPs); (try clear p53); (try clear p29); (try clear hPv); simp only [vp_in_iff, Int32.lt_iff_toInt_lt, Int32.le_iff_toInt_le, ← Int32.toInt_inj, Int32.toInt_add, Int32.toInt_sub, Int32.toInt_mul, Int32.toInt_neg, pq_NuO, pq_NuI, pq_NuJ, pq_NuR, pq_shr6, pq_shr7, pq_shr8, lqm1, lq0, lq1, lq128] at *; (try simp (disch := omega) only [pq_bm] at *); all_goals omega)), (by focus ((try clear hA1); (try clear hPs); (try clear p53); (try clear p29); (try clear hPv); simp only [vp_in_iff, Int32.lt_iff_toInt_lt, Int32.le_iff_toInt_le, ← Int32.toInt_inj, Int32.toInt_add, Int32.toInt_sub, Int32.toInt_mul, Int32.toInt_neg, pq_NuO, pq_NuI, pq_NuJ, pq_NuR, pq_shr6, pq_shr7, pq_shr8, lqm1, lq0, lq1, lq128] at *; (try simp (disch := omega) only [pq_bm] at *); all_goals omega))⟩) dX0_hasText_48
  refine pq_aload_n F dX0_hasText_0 rfl rfl ?_
  refine pq_getI F htp (by decide) lk_X0_58 rfl dX0_hasText_1 (fun x1 e1 l1 u1 => ?_)
  refine pq_if_ne (tgt := 12) F dX0_hasText_4 (by decide) (fun c4 => ?_) (fun c4 => ?_)
  · skip
    refine pq_aload_n F dX0_hasText_12 rfl rfl ?_
    refine pq_get F ha (by decide) lk_X0_34 hA1.e6 dX0_hasText_13 ?_
    refine pq_istore_n F dX0_hasText_16 rfl (by decide) ?_
    refine pq_iconst (v := 0) F dX0_hasText_17 (by decide) ?_
    refine pq_istore_n F dX0_hasText_18 rfl (by decide) ?_
    exact pq_fgm [true, true, true, true, false] (L19  100000 _ _  hA1.p0 (by focus ((try clear hA1); (try clear hPs); (try clear p53); (try clear p29); (try clear hPv); simp only [vp_in_iff, Int32.lt_iff_toInt_lt, Int32.le_iff_toInt_le, ← Int32.toInt_inj, Int32.toInt_add, Int32.toInt_sub, Int32.toInt_mul, Int32.toInt_neg, pq_NuO, pq_NuI, pq_NuJ, pq_NuR, pq_shr6, pq_shr7, pq_shr8, lqm1, lq0, lq1, lq128] at *; (try simp (disch := omega) only [pq_bm] at *); all_goals omega)) (by focus ((try clear hA1); (try clear hPs); (try clear p53); (try clear p29); (try clear hPv); simp only [vp_in_iff, Int32.lt_iff_toInt_lt, Int32.le_iff_toInt_le, ← Int32.toInt_inj, Int32.toInt_add, Int32.toInt_sub, Int32.toInt_mul, Int32.toInt_neg, pq_NuO, pq_NuI, pq_NuJ, pq_NuR, pq_shr6, pq_shr7, pq_shr8, lqm1, lq0, lq1, lq128] at *; (try simp (disch := omega) only [pq_bm] at *); all_goals omega)) (by focus ((try clear hA1); (try clear hPs); (try clear p53); (try clear p29); (try clear hPv); simp only [vp_in_iff, Int32.lt_iff_toInt_lt, Int32.le_iff_toInt_le, ← Int32.toInt_inj, Int32.toInt_add, Int32.toInt_sub, Int32.toInt_mul, Int32.toInt_neg, pq_NuO, pq_NuI, pq_NuJ, pq_NuR, pq_shr6, pq_shr7, pq_shr8, lqm1, lq0, lq1, lq128] at *; (try simp (disch := omega) only [pq_bm] at *); all_goals omega)))
  · skip
    refine pq_aload_n F dX0_hasText_7 rfl rfl ?_
    refine pq_getI F ha (by decide) lk_X0_37 rfl dX0_hasText_8 (fun x8 e8 l8 u8 => ?_)
    exact pq_zret F hr hlk hA (pq_bz (by focus ((try clear hA1); (try clear hPs); (try clear p53); (try clear p29); (try clear hPv); simp only [vp_in_iff, Int32.lt_iff_toInt_lt, Int32.le_iff_toInt_le, ← Int32.toInt_inj, Int32.toInt_add, Int32.toInt_sub, Int32.toInt_mul, Int32.toInt_neg, pq_NuO, pq_NuI, pq_NuJ, pq_NuR, pq_shr6, pq_shr7, pq_shr8, lqm1, lq0, lq1, lq128] at *; (try simp (disch := omega) only [pq_bm] at *); all_goals omega)) (by focus ((try clear hA1); (try clear hPs); (try clear p53); (try clear p29); (try clear hPv); simp only [vp_in_iff, Int32.lt_iff_toInt_lt, Int32.le_iff_toInt_le, ← Int32.toInt_inj, Int32.toInt_add, Int32.toInt_sub, Int32.toInt_mul, Int32.toInt_neg, pq_NuO, pq_NuI, pq_NuJ, pq_NuR, pq_shr6, pq_shr7, pq_shr8, lqm1, lq0, lq1, lq128] at *; (try simp (disch := omega) only [pq_bm] at *); all_goals omega))).1 (Nat.le_refl _) (Nat.le_refl _) (⟨rfl, _, rfl, (by focus ((try clear hA1); (try clear hPs); (try clear p53); (try clear p29); (try clear hPv); simp only [vp_in_iff, Int32.lt_iff_toInt_lt, Int32.le_iff_toInt_le, ← Int32.toInt_inj, Int32.toInt_add, Int32.toInt_sub, Int32.toInt_mul, Int32.toInt_neg, pq_NuO, pq_NuI, pq_NuJ, pq_NuR, pq_shr6, pq_shr7, pq_shr8, lqm1, lq0, lq1, lq128] at *; (try simp (disch := omega) only [pq_bm] at *); all_goals omega)), (by focus ((try clear hA1); (try clear hPs); (try clear p53); (try clear p29); (try clear hPv); simp only [vp_in_iff, Int32.lt_iff_toInt_lt, Int32.le_iff_toInt_le, ← Int32.toInt_inj, Int32.toInt_add, Int32.toInt_sub, Int32.toInt_mul, Int32.toInt_neg, pq_NuO, pq_NuI, pq_NuJ, pq_NuR, pq_shr6, pq_shr7, pq_shr8, lqm1, lq0, lq1, lq128] at *; (try simp (disch := omega) only [pq_bm] at *); all_goals omega))⟩) dX0_hasText_11

set_option maxHeartbeats 4000000 in
set_option maxRecDepth 100000 in
theorem k_X1_lengthenA (l : Launch) (D : va_G) (cy : Nat → ClassId) (S : HS) (a : Nat) (ha : pq_R S a 4) (tt : Nat) (htt : pq_R S tt 3) (ts sst : Nat) (n sn : Int32) (e3 : hO S tt 3 = .ref sst) (hsst : pq_R S sst 152) (e4 : hO S tt 4 = .int n) (hn0 : 1 ≤ n.toInt) (hn1 : n.toInt ≤ 128) (e5 : hO S tt 5 = .int sn) (hsn0 : 1 ≤ sn.toInt) (hsn1 : sn.toInt ≤ 201) (hll : sn.toInt * n.toInt ≤ (hN S sst : Int)) : pq_C l D cy yX1_lengthen cX1_lengthen 4 (none) 2 0 0 S [.ref a, .ref tt] (fun v S2 => v = none ∧ pq_Fr [(189, 0), (4, 0), (4, 1)] S S2) := by
  refine pq_start (by decide) (Nat.le_of_ble_eq_true rfl) ?_
  intro p e s m args below meth c A F hr hlk hnm hA
  have lqm1 : (-1 : Int32).toInt = -1 := rfl
  have lq0 : (0 : Int32).toInt = 0 := rfl
  have lq1 : (1 : Int32).toInt = 1 := rfl
  have L20 : ∀ (k : Int32) (hk0 : 0 ≤ k.toInt) (hk1 : k.toInt < sn.toInt) (K : ∀ (S2 : HS) (hF2 : pq_Fr [(189, 0), (4, 0), (4, 1)] S S2), pq_At p l e (pq_rm 2 0 0) s m args below meth c (pq_Z below args s D cy S 0 0 (fun v S2 => v = none ∧ pq_Fr [(189, 0), (4, 0), (4, 1)] S S2)) D cy A 4 0 0 80 S2 [some (.ref a), some (.ref tt), some (.int k), none] []) (fu : Nat) (S1 : HS) (q9 : Int32)  (hF : pq_Fr [(189, 0), (4, 0), (4, 1)] S S1) (hq0 : 0 ≤ q9.toInt) (hq1 : q9.toInt ≤ 128), (128 - q9.toInt).toNat < fu → pq_At p l e (pq_rm 2 0 0) s m args below meth c (pq_Z below args s D cy S 0 0 (fun v S2 => v = none ∧ pq_Fr [(189, 0), (4, 0), (4, 1)] S S2)) D cy A 4 0 0 20 S1 [some (.ref a), some (.ref tt), some (.int k), some (.int q9)] [] := by
    intro k hk0 hk1 K fu
    induction fu with
    | zero => intro S1 q9 hF hq0 hq1 hm; exact absurd hm (Nat.not_lt_zero _)
    | succ fu ih =>
      intro S1 q9 hF hq0 hq1 hm
      have haL := hF.R ha (by first | decide | omega)
      have httL := hF.R htt (by first | decide | omega)
      have e3L := hF.O htt (by decide) (by decide) e3
      have hsL := hF.R hsst (by decide)
      have e4L := hF.O htt (by decide) (by decide) e4
      have e5L := hF.O htt (by decide) (by decide) e5
      have hNL : sn.toInt * n.toInt ≤ (hN S1 sst : Int) := (by rw [(hF.1 sst 152 hsst (by decide)).2]; exact hll)
      obtain ⟨q1, q2, q3, q4⟩ := pq_mb (x := k.toInt) (y := n.toInt) (A := 200) (B := 128) (by focus ((try clear K); (try clear ih); simp only [vp_in_iff, Int32.lt_iff_toInt_lt, Int32.le_iff_toInt_le, ← Int32.toInt_inj, Int32.toInt_add, Int32.toInt_sub, Int32.toInt_mul, Int32.toInt_neg, pq_NuO, pq_NuI, pq_NuJ, pq_NuR, pq_shr6, pq_shr7, pq_shr8, lqm1, lq0, lq1] at *; (try simp (disch := omega) only [pq_bm] at *); all_goals omega)) (by focus ((try clear K); (try clear ih); simp only [vp_in_iff, Int32.lt_iff_toInt_lt, Int32.le_iff_toInt_le, ← Int32.toInt_inj, Int32.toInt_add, Int32.toInt_sub, Int32.toInt_mul, Int32.toInt_neg, pq_NuO, pq_NuI, pq_NuJ, pq_NuR, pq_shr6, pq_shr7, pq_shr8, lqm1, lq0, lq1] at *; (try simp (disch := omega) only [pq_bm] at *); all_goals omega)) (by focus ((try clear K); (try clear ih); simp only [vp_in_iff, Int32.lt_iff_toInt_lt, Int32.le_iff_toInt_le, ← Int32.toInt_inj, Int32.toInt_add, Int32.toInt_sub, Int32.toInt_mul, Int32.toInt_neg, pq_NuO, pq_NuI, pq_NuJ, pq_NuR, pq_shr6, pq_shr7, pq_shr8, lqm1, lq0, lq1] at *; (try simp (disch := omega) only [pq_bm] at *); all_goals omega)) (by focus ((try clear K); (try clear ih); simp only [vp_in_iff, Int32.lt_iff_toInt_lt, Int32.le_iff_toInt_le, ← Int32.toInt_inj, Int32.toInt_add, Int32.toInt_sub, Int32.toInt_mul, Int32.toInt_neg, pq_NuO, pq_NuI, pq_NuJ, pq_NuR, pq_shr6, pq_shr7, pq_shr8, lqm1, lq0, lq1] at *; (try simp (disch := omega) only [pq_bm] at *); all_goals omega))
      have q5 := pq_mn (x := k.toInt) (y := n.toInt) (A := sn.toInt) (by focus ((try clear K); (try clear ih); simp only [vp_in_iff, Int32.lt_iff_toInt_lt, Int32.le_iff_toInt_le, ← Int32.toInt_inj, Int32.toInt_add, Int32.toInt_sub, Int32.toInt_mul, Int32.toInt_neg, pq_NuO, pq_NuI, pq_NuJ, pq_NuR, pq_shr6, pq_shr7, pq_shr8, lqm1, lq0, lq1] at *; (try simp (disch := omega) only [pq_bm] at *); all_goals omega)) (by focus ((try clear K); (try clear ih); simp only [vp_in_iff, Int32.lt_iff_toInt_lt, Int32.le_iff_toInt_le, ← Int32.toInt_inj, Int32.toInt_add, Int32.toInt_sub, Int32.toInt_mul, Int32.toInt_neg, pq_NuO, pq_NuI, pq_NuJ, pq_NuR, pq_shr6, pq_shr7, pq_shr8, lqm1, lq0, lq1] at *; (try simp (disch := omega) only [pq_bm] at *); all_goals omega))
      refine pq_iload_n F dX1_lengthen_20 rfl rfl ?_
      refine pq_aload_n F dX1_lengthen_21 rfl rfl ?_
      refine pq_get F httL (by decide) lk_X1_45 e4L dX1_lengthen_22 ?_
      refine pq_icmp_ge (tgt := 80) F dX1_lengthen_25 (by decide) (fun c25 => ?_) (fun c25 => ?_)
      · skip
        exact pq_fgm [true, true, true, false] (K _ hF)
      · skip
        refine pq_aload_n F dX1_lengthen_28 rfl rfl ?_
        refine pq_getR F haL (by decide) lk_X1_9 rfl dX1_lengthen_29 (fun r29 e29 h29 => ?_)
        refine pq_iload_n F dX1_lengthen_32 rfl rfl ?_
        refine pq_lald F h29 (by decide) (by decide) rfl (fun n1_33 n2_33 => (by focus ((try clear K); (try clear ih); simp only [vp_in_iff, Int32.lt_iff_toInt_lt, Int32.le_iff_toInt_le, ← Int32.toInt_inj, Int32.toInt_add, Int32.toInt_sub, Int32.toInt_mul, Int32.toInt_neg, pq_NuO, pq_NuI, pq_NuJ, pq_NuR, pq_shr6, pq_shr7, pq_shr8, lqm1, lq0, lq1] at *; (try simp (disch := omega) only [pq_bm] at *); all_goals omega))) dX1_lengthen_33 (fun x33 e33 => ?_)
        refine pq_lconst (v := 0) F dX1_lengthen_34 (by decide) ?_
        refine pq_lcmp F dX1_lengthen_35 ?_
        refine pq_if_eq (tgt := 80) F dX1_lengthen_36 (by decide) (fun c36 => ?_) (fun c36 => ?_)
        · skip
          exact pq_fgm [true, true, true, false] (K _ hF)
        · skip
          refine pq_aload_n F dX1_lengthen_39 rfl rfl ?_
          refine pq_getR F haL (by decide) lk_X1_15 rfl dX1_lengthen_40 (fun r40 e40 h40 => ?_)
          refine pq_aload_n F dX1_lengthen_43 rfl rfl ?_
          refine pq_get F httL (by decide) lk_X1_48 e3L dX1_lengthen_44 ?_
          refine pq_iload_n F dX1_lengthen_47 rfl rfl ?_
          refine pq_aload_n F dX1_lengthen_48 rfl rfl ?_
          refine pq_get F httL (by decide) lk_X1_45 e4L dX1_lengthen_49 ?_
          refine pq_imul F dX1_lengthen_52 ?_
          refine pq_iload_n F dX1_lengthen_53 rfl rfl ?_
          refine pq_iadd F dX1_lengthen_54 ?_
          refine pq_iald F hsL (by decide) (by decide) rfl (fun n1_55 n2_55 => (by focus ((try clear K); (try clear ih); simp only [vp_in_iff, Int32.lt_iff_toInt_lt, Int32.le_iff_toInt_le, ← Int32.toInt_inj, Int32.toInt_add, Int32.toInt_sub, Int32.toInt_mul, Int32.toInt_neg, pq_NuO, pq_NuI, pq_NuJ, pq_NuR, pq_shr6, pq_shr7, pq_shr8, lqm1, lq0, lq1] at *; (try simp (disch := omega) only [pq_bm] at *); all_goals omega))) dX1_lengthen_55 (fun x55 e55 l55 u55 => ?_)
          refine pq_dup2 F dX1_lengthen_56 rfl rfl ?_
          refine pq_lald F h40 (by decide) (by decide) rfl (fun n1_57 n2_57 => (by focus ((try clear K); (try clear ih); simp only [vp_in_iff, Int32.lt_iff_toInt_lt, Int32.le_iff_toInt_le, ← Int32.toInt_inj, Int32.toInt_add, Int32.toInt_sub, Int32.toInt_mul, Int32.toInt_neg, pq_NuO, pq_NuI, pq_NuJ, pq_NuR, pq_shr6, pq_shr7, pq_shr8, lqm1, lq0, lq1] at *; (try simp (disch := omega) only [pq_bm] at *); all_goals omega))) dX1_lengthen_57 (fun x57 e57 => ?_)
          refine pq_aload_n F dX1_lengthen_58 rfl rfl ?_
          refine pq_get F haL (by decide) lk_X1_9 e29 dX1_lengthen_59 ?_
          refine pq_iload_n F dX1_lengthen_62 rfl rfl ?_
          refine pq_lald F h29 (by decide) (by decide) rfl (fun n1_63 n2_63 => (by focus ((try clear K); (try clear ih); simp only [vp_in_iff, Int32.lt_iff_toInt_lt, Int32.le_iff_toInt_le, ← Int32.toInt_inj, Int32.toInt_add, Int32.toInt_sub, Int32.toInt_mul, Int32.toInt_neg, pq_NuO, pq_NuI, pq_NuJ, pq_NuR, pq_shr6, pq_shr7, pq_shr8, lqm1, lq0, lq1] at *; (try simp (disch := omega) only [pq_bm] at *); all_goals omega))) dX1_lengthen_63 (fun x63 e63 => ?_)
          refine pq_aload_n F dX1_lengthen_64 rfl rfl ?_
          refine pq_getR F httL (by decide) lk_X1_52 rfl dX1_lengthen_65 (fun r65 e65 h65 => ?_)
          refine pq_iload_n F dX1_lengthen_68 rfl rfl ?_
          refine pq_iald F h65 (by decide) (by decide) rfl (fun n1_69 n2_69 => (by focus ((try clear K); (try clear ih); simp only [vp_in_iff, Int32.lt_iff_toInt_lt, Int32.le_iff_toInt_le, ← Int32.toInt_inj, Int32.toInt_add, Int32.toInt_sub, Int32.toInt_mul, Int32.toInt_neg, pq_NuO, pq_NuI, pq_NuJ, pq_NuR, pq_shr6, pq_shr7, pq_shr8, lqm1, lq0, lq1] at *; (try simp (disch := omega) only [pq_bm] at *); all_goals omega))) dX1_lengthen_69 (fun x69 e69 l69 u69 => ?_)
          refine pq_i2l F dX1_lengthen_70 ?_
          refine pq_lmul F dX1_lengthen_71 ?_
          refine pq_ladd F dX1_lengthen_72 ?_
          refine pq_last F h40 (by decide) (by decide) rfl (fun n1_73 n2_73 => (by focus ((try clear K); (try clear ih); simp only [vp_in_iff, Int32.lt_iff_toInt_lt, Int32.le_iff_toInt_le, ← Int32.toInt_inj, Int32.toInt_add, Int32.toInt_sub, Int32.toInt_mul, Int32.toInt_neg, pq_NuO, pq_NuI, pq_NuJ, pq_NuR, pq_shr6, pq_shr7, pq_shr8, lqm1, lq0, lq1] at *; (try simp (disch := omega) only [pq_bm] at *); all_goals omega))) dX1_lengthen_73 ?_
          refine pq_iinc (v := 1) F dX1_lengthen_74 rfl (by decide) (by decide) ?_
          refine pq_goto (tgt := 20) F dX1_lengthen_77 (by decide) ?_
          exact pq_fgm [true, true, true, true] (ih _ _ (hF.uJ h40 (by first | decide | exact List.mem_cons_self)) (by focus ((try clear K); (try clear ih); simp only [vp_in_iff, Int32.lt_iff_toInt_lt, Int32.le_iff_toInt_le, ← Int32.toInt_inj, Int32.toInt_add, Int32.toInt_sub, Int32.toInt_mul, Int32.toInt_neg, pq_NuO, pq_NuI, pq_NuJ, pq_NuR, pq_shr6, pq_shr7, pq_shr8, lqm1, lq0, lq1] at *; (try simp (disch := omega) only [pq_bm] at *); all_goals omega)) (by focus ((try clear K); (try clear ih); simp only [vp_in_iff, Int32.lt_iff_toInt_lt, Int32.le_iff_toInt_le, ← Int32.toInt_inj, Int32.toInt_add, Int32.toInt_sub, Int32.toInt_mul, Int32.toInt_neg, pq_NuO, pq_NuI, pq_NuJ, pq_NuR, pq_shr6, pq_shr7, pq_shr8, lqm1, lq0, lq1] at *; (try simp (disch := omega) only [pq_bm] at *); all_goals omega)) (by focus ((try clear K); (try clear ih); simp only [vp_in_iff, Int32.lt_iff_toInt_lt, Int32.le_iff_toInt_le, ← Int32.toInt_inj, Int32.toInt_add, Int32.toInt_sub, Int32.toInt_mul, Int32.toInt_neg, pq_NuO, pq_NuI, pq_NuJ, pq_NuR, pq_shr6, pq_shr7, pq_shr8, lqm1, lq0, lq1] at *; (try simp (disch := omega) only [pq_bm] at *); all_goals omega)))
  have L10 : ∀  (fu : Nat) (S1 : HS) (k : Int32)  (hF : pq_Fr [(189, 0), (4, 0), (4, 1)] S S1) (hk0 : 0 ≤ k.toInt) (hk1 : k.toInt ≤ 201), (201 - k.toInt).toNat < fu → pq_At p l e (pq_rm 2 0 0) s m args below meth c (pq_Z below args s D cy S 0 0 (fun v S2 => v = none ∧ pq_Fr [(189, 0), (4, 0), (4, 1)] S S2)) D cy A 4 0 0 10 S1 [some (.ref a), some (.ref tt), some (.int k), none] [] := by
    intro  fu
    induction fu with
    | zero => intro S1 k hF hk0 hk1 hm; exact absurd hm (Nat.not_lt_zero _)
    | succ fu ih =>
      intro S1 k hF hk0 hk1 hm
      have haL := hF.R ha (by first | decide | omega)
      have httL := hF.R htt (by first | decide | omega)
      have e3L := hF.O htt (by decide) (by decide) e3
      have hsL := hF.R hsst (by decide)
      have e4L := hF.O htt (by decide) (by decide) e4
      have e5L := hF.O htt (by decide) (by decide) e5
      have hNL : sn.toInt * n.toInt ≤ (hN S1 sst : Int) := (by rw [(hF.1 sst 152 hsst (by decide)).2]; exact hll)
      refine pq_iload_n F dX1_lengthen_10 rfl rfl ?_
      refine pq_aload_n F dX1_lengthen_11 rfl rfl ?_
      refine pq_get F httL (by decide) lk_X1_38 e5L dX1_lengthen_12 ?_
      refine pq_icmp_ge (tgt := 86) F dX1_lengthen_15 (by decide) (fun c15 => ?_) (fun c15 => ?_)
      · skip
        refine pq_aload_n F dX1_lengthen_86 rfl rfl ?_
        refine pq_getR F haL (by decide) lk_X1_9 rfl dX1_lengthen_87 (fun r87 e87 h87 => ?_)
        refine pq_astore_n F dX1_lengthen_90 rfl (by decide) ?_
        refine pq_aload_n F dX1_lengthen_91 rfl rfl ?_
        refine pq_aload_n F dX1_lengthen_92 rfl rfl ?_
        refine pq_getR F haL (by decide) lk_X1_15 rfl dX1_lengthen_93 (fun r93 e93 h93 => ?_)
        refine pq_put F haL (by decide) lp_X1_9 rfl rfl (⟨by decide, _, rfl, h93⟩) dX1_lengthen_96 ?_
        refine pq_aload_n F dX1_lengthen_99 rfl rfl ?_
        refine pq_aload_n F dX1_lengthen_100 rfl rfl ?_
        refine pq_put F haL (by decide) lp_X1_15 rfl rfl (⟨by decide, _, rfl, h87⟩) dX1_lengthen_101 ?_
        exact pq_vret F hr hlk hA (Nat.le_refl _) (Nat.le_refl _) (⟨rfl, ((hF.uO haL (by decide)).uO haL (by decide))⟩) dX1_lengthen_104
      · skip
        refine pq_iconst (v := 0) F dX1_lengthen_18 (by decide) ?_
        refine pq_istore_n F dX1_lengthen_19 rfl (by decide) ?_
        refine pq_fgm [true, true, true, true] (L20 k (by focus ((try clear K); (try clear ih); simp only [vp_in_iff, Int32.lt_iff_toInt_lt, Int32.le_iff_toInt_le, ← Int32.toInt_inj, Int32.toInt_add, Int32.toInt_sub, Int32.toInt_mul, Int32.toInt_neg, pq_NuO, pq_NuI, pq_NuJ, pq_NuR, pq_shr6, pq_shr7, pq_shr8, lqm1, lq0, lq1] at *; (try simp (disch := omega) only [pq_bm] at *); all_goals omega)) (by focus ((try clear K); (try clear ih); simp only [vp_in_iff, Int32.lt_iff_toInt_lt, Int32.le_iff_toInt_le, ← Int32.toInt_inj, Int32.toInt_add, Int32.toInt_sub, Int32.toInt_mul, Int32.toInt_neg, pq_NuO, pq_NuI, pq_NuJ, pq_NuR, pq_shr6, pq_shr7, pq_shr8, lqm1, lq0, lq1] at *; (try simp (disch := omega) only [pq_bm] at *); all_goals omega)) (fun S5 hF5 => ?_) 1000 _ _ hF (by focus ((try clear K); (try clear ih); simp only [vp_in_iff, Int32.lt_iff_toInt_lt, Int32.le_iff_toInt_le, ← Int32.toInt_inj, Int32.toInt_add, Int32.toInt_sub, Int32.toInt_mul, Int32.toInt_neg, pq_NuO, pq_NuI, pq_NuJ, pq_NuR, pq_shr6, pq_shr7, pq_shr8, lqm1, lq0, lq1] at *; (try simp (disch := omega) only [pq_bm] at *); all_goals omega)) (by focus ((try clear K); (try clear ih); simp only [vp_in_iff, Int32.lt_iff_toInt_lt, Int32.le_iff_toInt_le, ← Int32.toInt_inj, Int32.toInt_add, Int32.toInt_sub, Int32.toInt_mul, Int32.toInt_neg, pq_NuO, pq_NuI, pq_NuJ, pq_NuR, pq_shr6, pq_shr7, pq_shr8, lqm1, lq0, lq1] at *; (try simp (disch := omega) only [pq_bm] at *); all_goals omega)) (by focus ((try clear K); (try clear ih); simp only [vp_in_iff, Int32.lt_iff_toInt_lt, Int32.le_iff_toInt_le, ← Int32.toInt_inj, Int32.toInt_add, Int32.toInt_sub, Int32.toInt_mul, Int32.toInt_neg, pq_NuO, pq_NuI, pq_NuJ, pq_NuR, pq_shr6, pq_shr7, pq_shr8, lqm1, lq0, lq1] at *; (try simp (disch := omega) only [pq_bm] at *); all_goals omega)))
        have ha5 := hF5.R ha (by decide)
        have htt5 := hF5.R htt (by decide)
        refine pq_iinc (v := 1) F dX1_lengthen_80 rfl (by decide) (by decide) ?_
        refine pq_goto (tgt := 10) F dX1_lengthen_83 (by decide) ?_
        exact pq_fgm [true, true, true, false] (ih _ _ hF5 (by focus ((try clear K); (try clear ih); simp only [vp_in_iff, Int32.lt_iff_toInt_lt, Int32.le_iff_toInt_le, ← Int32.toInt_inj, Int32.toInt_add, Int32.toInt_sub, Int32.toInt_mul, Int32.toInt_neg, pq_NuO, pq_NuI, pq_NuJ, pq_NuR, pq_shr6, pq_shr7, pq_shr8, lqm1, lq0, lq1] at *; (try simp (disch := omega) only [pq_bm] at *); all_goals omega)) (by focus ((try clear K); (try clear ih); simp only [vp_in_iff, Int32.lt_iff_toInt_lt, Int32.le_iff_toInt_le, ← Int32.toInt_inj, Int32.toInt_add, Int32.toInt_sub, Int32.toInt_mul, Int32.toInt_neg, pq_NuO, pq_NuI, pq_NuJ, pq_NuR, pq_shr6, pq_shr7, pq_shr8, lqm1, lq0, lq1] at *; (try simp (disch := omega) only [pq_bm] at *); all_goals omega)) (by focus ((try clear K); (try clear ih); simp only [vp_in_iff, Int32.lt_iff_toInt_lt, Int32.le_iff_toInt_le, ← Int32.toInt_inj, Int32.toInt_add, Int32.toInt_sub, Int32.toInt_mul, Int32.toInt_neg, pq_NuO, pq_NuI, pq_NuJ, pq_NuR, pq_shr6, pq_shr7, pq_shr8, lqm1, lq0, lq1] at *; (try simp (disch := omega) only [pq_bm] at *); all_goals omega)))
  refine pq_aload_n F dX1_lengthen_0 rfl rfl ?_
  refine pq_getR F ha (by decide) lk_X1_15 rfl dX1_lengthen_1 (fun r1 e1 h1 => ?_)
  refine pq_lconst (v := 0) F dX1_lengthen_4 (by decide) ?_
  refine pq_lenF h1 (by decide) rfl (fun lna5_0 lnb5_0 => ?_)
  refine pq_callS (As := [_, _]) F (k_J7_fill_d0a16 l D cy _ _ 189 ?_ ?_ ?_ _ ?_) ml_X1_24 (Nat.le_of_ble_eq_true rfl) ⟨Nat.le_of_ble_eq_true rfl, Nat.le_of_ble_eq_true rfl⟩ ⟨by decide, by decide⟩ dX1_lengthen_5 (fun v5 S5 w5 => ?_)
  · exact h1
  · first | decide | omega
  · first | decide | omega
  · focus ((try clear K); (try clear ih); simp only [vp_in_iff, Int32.lt_iff_toInt_lt, Int32.le_iff_toInt_le, ← Int32.toInt_inj, Int32.toInt_add, Int32.toInt_sub, Int32.toInt_mul, Int32.toInt_neg, pq_NuO, pq_NuI, pq_NuJ, pq_NuR, pq_shr6, pq_shr7, pq_shr8, lqm1, lq0, lq1] at *; (try simp (disch := omega) only [pq_bm] at *); all_goals omega)
  obtain ⟨rfl, f5, rfl, g5⟩ := w5
  refine pq_iconst (v := 0) F dX1_lengthen_8 (by decide) ?_
  refine pq_istore_n F dX1_lengthen_9 rfl (by decide) ?_
  exact pq_fgm [true, true, true, false] (L10  100000 _ _  (pq_Fr.rf.uJ h1 (by first | decide | exact List.mem_cons_self)) (by focus ((try clear K); (try clear ih); simp only [vp_in_iff, Int32.lt_iff_toInt_lt, Int32.le_iff_toInt_le, ← Int32.toInt_inj, Int32.toInt_add, Int32.toInt_sub, Int32.toInt_mul, Int32.toInt_neg, pq_NuO, pq_NuI, pq_NuJ, pq_NuR, pq_shr6, pq_shr7, pq_shr8, lqm1, lq0, lq1] at *; (try simp (disch := omega) only [pq_bm] at *); all_goals omega)) (by focus ((try clear K); (try clear ih); simp only [vp_in_iff, Int32.lt_iff_toInt_lt, Int32.le_iff_toInt_le, ← Int32.toInt_inj, Int32.toInt_add, Int32.toInt_sub, Int32.toInt_mul, Int32.toInt_neg, pq_NuO, pq_NuI, pq_NuJ, pq_NuR, pq_shr6, pq_shr7, pq_shr8, lqm1, lq0, lq1] at *; (try simp (disch := omega) only [pq_bm] at *); all_goals omega)) (by focus ((try clear K); (try clear ih); simp only [vp_in_iff, Int32.lt_iff_toInt_lt, Int32.le_iff_toInt_le, ← Int32.toInt_inj, Int32.toInt_add, Int32.toInt_sub, Int32.toInt_mul, Int32.toInt_neg, pq_NuO, pq_NuI, pq_NuJ, pq_NuR, pq_shr6, pq_shr7, pq_shr8, lqm1, lq0, lq1] at *; (try simp (disch := omega) only [pq_bm] at *); all_goals omega)))

set_option maxHeartbeats 4000000 in
set_option maxRecDepth 100000 in
theorem k_X1_textsOfA (l : Launch) (D : va_G) (cy : Nat → ClassId) (S : HS) (a : Nat) (ha : pq_R S a 4) (tt : Nat) (htt : pq_R S tt 3) (ln : Int32) (hln0 : 0 ≤ ln.toInt) (hln1 : ln.toInt ≤ 12) (ts sst : Nat) (n sn : Int32) (e3 : hO S tt 3 = .ref sst) (hsst : pq_R S sst 152) (e4 : hO S tt 4 = .int n) (hn0 : 1 ≤ n.toInt) (hn1 : n.toInt ≤ 128) (e5 : hO S tt 5 = .int sn) (hsn0 : 1 ≤ sn.toInt) (hsn1 : sn.toInt ≤ 201) (hll : sn.toInt * n.toInt ≤ (hN S sst : Int)) : pq_C l D cy yX1_textsOf cX1_textsOf 6 (some .long) 3 0 0 S [.ref a, .ref tt, .int ln] (fun v S2 => pq_Fr [(189, 0), (4, 0), (4, 1)] S S2 ∧ ∃ x : Int64, v = some (.long x)) := by
  refine pq_start (by decide) (Nat.le_of_ble_eq_true rfl) ?_
  intro p e s m args below meth c A F hr hlk hnm hA
  have lqm1 : (-1 : Int32).toInt = -1 := rfl
  have lq0 : (0 : Int32).toInt = 0 := rfl
  have lq1 : (1 : Int32).toInt = 1 := rfl
  have L58 : ∀  (fu : Nat) (S1 : HS) (j_tx : Int64) (k : Int32)  (hF : pq_Fr [(189, 0), (4, 0), (4, 1)] S S1) (hk0 : 0 ≤ k.toInt) (hk1 : k.toInt ≤ 201), (201 - k.toInt).toNat < fu → pq_At p l e (pq_rm 3 0 0) s m args below meth c (pq_Z below args s D cy S 0 0 (fun v S2 => pq_Fr [(189, 0), (4, 0), (4, 1)] S S2 ∧ ∃ x : Int64, v = some (.long x))) D cy A 6 0 0 58 S1 [some (.ref a), some (.ref tt), some (.int ln), some (.long j_tx), none, some (.int k)] [] := by
    intro  fu
    induction fu with
    | zero => intro S1 j_tx k hF hk0 hk1 hm; exact absurd hm (Nat.not_lt_zero _)
    | succ fu ih =>
      intro S1 j_tx k hF hk0 hk1 hm
      have haL := hF.R ha (by first | decide | omega)
      have httL := hF.R htt (by first | decide | omega)
      have e3L := hF.O htt (by decide) (by decide) e3
      have hsL := hF.R hsst (by decide)
      have e4L := hF.O htt (by decide) (by decide) e4
      have e5L := hF.O htt (by decide) (by decide) e5
      have hNL : sn.toInt * n.toInt ≤ (hN S1 sst : Int) := (by rw [(hF.1 sst 152 hsst (by decide)).2]; exact hll)
      refine pq_iload F dX1_textsOf_58 rfl ?_
      refine pq_aload_n F dX1_textsOf_60 rfl rfl ?_
      refine pq_get F httL (by decide) lk_X1_38 e5L dX1_textsOf_61 ?_
      refine pq_icmp_ge (tgt := 97) F dX1_textsOf_64 (by decide) (fun c64 => ?_) (fun c64 => ?_)
      · skip
        refine pq_lload_n F dX1_textsOf_97 rfl rfl ?_
        exact pq_lret F hr hlk hA (Nat.le_refl _) (Nat.le_refl _) (⟨hF, _, rfl⟩) dX1_textsOf_98
      · skip
        refine pq_lload_n F dX1_textsOf_67 rfl rfl ?_
        refine pq_aload_n F dX1_textsOf_68 rfl rfl ?_
        refine pq_getR F httL (by decide) lk_X1_41 rfl dX1_textsOf_69 (fun r69 e69 h69 => ?_)
        refine pq_iload F dX1_textsOf_72 rfl ?_
        refine pq_zald F h69 (by decide) (by decide) rfl (fun n1_74 n2_74 => (by focus (simp only [vp_in_iff, Int32.lt_iff_toInt_lt, Int32.le_iff_toInt_le, ← Int32.toInt_inj, Int32.toInt_add, Int32.toInt_sub, Int32.toInt_mul, Int32.toInt_neg, pq_NuO, pq_NuI, pq_NuJ, pq_NuR, pq_shr6, pq_shr7, pq_shr8, lqm1, lq0, lq1] at *; (try simp (disch := omega) only [pq_bm] at *); all_goals omega))) dX1_textsOf_74 (fun x74 e74 l74 u74 => ?_)
        refine pq_if_eq (tgt := 88) F dX1_textsOf_75 (by decide) (fun c75 => ?_) (fun c75 => ?_)
        · skip
          refine pq_lconst (v := 0) F dX1_textsOf_88 (by decide) ?_
          refine pq_ladd F dX1_textsOf_89 ?_
          refine pq_lstore_n F dX1_textsOf_90 rfl (by decide) ?_
          refine pq_iinc (v := 1) F dX1_textsOf_91 rfl (by decide) (by decide) ?_
          refine pq_goto (tgt := 58) F dX1_textsOf_94 (by decide) ?_
          exact pq_fgm [true, true, true, true, false, true] (ih _ _ _ hF (by focus (simp only [vp_in_iff, Int32.lt_iff_toInt_lt, Int32.le_iff_toInt_le, ← Int32.toInt_inj, Int32.toInt_add, Int32.toInt_sub, Int32.toInt_mul, Int32.toInt_neg, pq_NuO, pq_NuI, pq_NuJ, pq_NuR, pq_shr6, pq_shr7, pq_shr8, lqm1, lq0, lq1] at *; (try simp (disch := omega) only [pq_bm] at *); all_goals omega)) (by focus (simp only [vp_in_iff, Int32.lt_iff_toInt_lt, Int32.le_iff_toInt_le, ← Int32.toInt_inj, Int32.toInt_add, Int32.toInt_sub, Int32.toInt_mul, Int32.toInt_neg, pq_NuO, pq_NuI, pq_NuJ, pq_NuR, pq_shr6, pq_shr7, pq_shr8, lqm1, lq0, lq1] at *; (try simp (disch := omega) only [pq_bm] at *); all_goals omega)) (by focus (simp only [vp_in_iff, Int32.lt_iff_toInt_lt, Int32.le_iff_toInt_le, ← Int32.toInt_inj, Int32.toInt_add, Int32.toInt_sub, Int32.toInt_mul, Int32.toInt_neg, pq_NuO, pq_NuI, pq_NuJ, pq_NuR, pq_shr6, pq_shr7, pq_shr8, lqm1, lq0, lq1] at *; (try simp (disch := omega) only [pq_bm] at *); all_goals omega)))
        · skip
          refine pq_aload_n F dX1_textsOf_78 rfl rfl ?_
          refine pq_getR F haL (by decide) lk_X1_9 rfl dX1_textsOf_79 (fun r79 e79 h79 => ?_)
          refine pq_iload F dX1_textsOf_82 rfl ?_
          refine pq_lald F h79 (by decide) (by decide) rfl (fun n1_84 n2_84 => (by focus (simp only [vp_in_iff, Int32.lt_iff_toInt_lt, Int32.le_iff_toInt_le, ← Int32.toInt_inj, Int32.toInt_add, Int32.toInt_sub, Int32.toInt_mul, Int32.toInt_neg, pq_NuO, pq_NuI, pq_NuJ, pq_NuR, pq_shr6, pq_shr7, pq_shr8, lqm1, lq0, lq1] at *; (try simp (disch := omega) only [pq_bm] at *); all_goals omega))) dX1_textsOf_84 (fun x84 e84 => ?_)
          refine pq_goto (tgt := 89) F dX1_textsOf_85 (by decide) ?_
          refine pq_ladd F dX1_textsOf_89 ?_
          refine pq_lstore_n F dX1_textsOf_90 rfl (by decide) ?_
          refine pq_iinc (v := 1) F dX1_textsOf_91 rfl (by decide) (by decide) ?_
          refine pq_goto (tgt := 58) F dX1_textsOf_94 (by decide) ?_
          exact pq_fgm [true, true, true, true, false, true] (ih _ _ _ hF (by focus (simp only [vp_in_iff, Int32.lt_iff_toInt_lt, Int32.le_iff_toInt_le, ← Int32.toInt_inj, Int32.toInt_add, Int32.toInt_sub, Int32.toInt_mul, Int32.toInt_neg, pq_NuO, pq_NuI, pq_NuJ, pq_NuR, pq_shr6, pq_shr7, pq_shr8, lqm1, lq0, lq1] at *; (try simp (disch := omega) only [pq_bm] at *); all_goals omega)) (by focus (simp only [vp_in_iff, Int32.lt_iff_toInt_lt, Int32.le_iff_toInt_le, ← Int32.toInt_inj, Int32.toInt_add, Int32.toInt_sub, Int32.toInt_mul, Int32.toInt_neg, pq_NuO, pq_NuI, pq_NuJ, pq_NuR, pq_shr6, pq_shr7, pq_shr8, lqm1, lq0, lq1] at *; (try simp (disch := omega) only [pq_bm] at *); all_goals omega)) (by focus (simp only [vp_in_iff, Int32.lt_iff_toInt_lt, Int32.le_iff_toInt_le, ← Int32.toInt_inj, Int32.toInt_add, Int32.toInt_sub, Int32.toInt_mul, Int32.toInt_neg, pq_NuO, pq_NuI, pq_NuJ, pq_NuR, pq_shr6, pq_shr7, pq_shr8, lqm1, lq0, lq1] at *; (try simp (disch := omega) only [pq_bm] at *); all_goals omega)))
  have L37 : ∀  (fu : Nat) (S1 : HS) (k : Int32)  (hF : pq_Fr [(189, 0), (4, 0), (4, 1)] S S1) (hk0 : 0 ≤ k.toInt) (hk1 : k.toInt ≤ 12), (12 - k.toInt).toNat < fu → pq_At p l e (pq_rm 3 0 0) s m args below meth c (pq_Z below args s D cy S 0 0 (fun v S2 => pq_Fr [(189, 0), (4, 0), (4, 1)] S S2 ∧ ∃ x : Int64, v = some (.long x))) D cy A 6 0 0 37 S1 [some (.ref a), some (.ref tt), some (.int ln), some (.int k), none, none] [] := by
    intro  fu
    induction fu with
    | zero => intro S1 k hF hk0 hk1 hm; exact absurd hm (Nat.not_lt_zero _)
    | succ fu ih =>
      intro S1 k hF hk0 hk1 hm
      have haL := hF.R ha (by first | decide | omega)
      have httL := hF.R htt (by first | decide | omega)
      have e3L := hF.O htt (by decide) (by decide) e3
      have hsL := hF.R hsst (by decide)
      have e4L := hF.O htt (by decide) (by decide) e4
      have e5L := hF.O htt (by decide) (by decide) e5
      have hNL : sn.toInt * n.toInt ≤ (hN S1 sst : Int) := (by rw [(hF.1 sst 152 hsst (by decide)).2]; exact hll)
      refine pq_iload_n F dX1_textsOf_37 rfl rfl ?_
      refine pq_iload_n F dX1_textsOf_38 rfl rfl ?_
      refine pq_icmp_ge (tgt := 53) F dX1_textsOf_39 (by decide) (fun c39 => ?_) (fun c39 => ?_)
      · skip
        refine pq_lconst (v := 0) F dX1_textsOf_53 (by decide) ?_
        refine pq_lstore_n F dX1_textsOf_54 rfl (by decide) ?_
        refine pq_iconst (v := 0) F dX1_textsOf_55 (by decide) ?_
        refine pq_istore F dX1_textsOf_56 (by decide) ?_
        exact pq_fgm [true, true, true, true, false, true] (L58  100000 _ _ _  hF (by focus (simp only [vp_in_iff, Int32.lt_iff_toInt_lt, Int32.le_iff_toInt_le, ← Int32.toInt_inj, Int32.toInt_add, Int32.toInt_sub, Int32.toInt_mul, Int32.toInt_neg, pq_NuO, pq_NuI, pq_NuJ, pq_NuR, pq_shr6, pq_shr7, pq_shr8, lqm1, lq0, lq1] at *; (try simp (disch := omega) only [pq_bm] at *); all_goals omega)) (by focus (simp only [vp_in_iff, Int32.lt_iff_toInt_lt, Int32.le_iff_toInt_le, ← Int32.toInt_inj, Int32.toInt_add, Int32.toInt_sub, Int32.toInt_mul, Int32.toInt_neg, pq_NuO, pq_NuI, pq_NuJ, pq_NuR, pq_shr6, pq_shr7, pq_shr8, lqm1, lq0, lq1] at *; (try simp (disch := omega) only [pq_bm] at *); all_goals omega)) (by focus (simp only [vp_in_iff, Int32.lt_iff_toInt_lt, Int32.le_iff_toInt_le, ← Int32.toInt_inj, Int32.toInt_add, Int32.toInt_sub, Int32.toInt_mul, Int32.toInt_neg, pq_NuO, pq_NuI, pq_NuJ, pq_NuR, pq_shr6, pq_shr7, pq_shr8, lqm1, lq0, lq1] at *; (try simp (disch := omega) only [pq_bm] at *); all_goals omega)))
      · skip
        refine pq_aload_n F dX1_textsOf_42 rfl rfl ?_
        refine pq_aload_n F dX1_textsOf_43 rfl rfl ?_
        refine pq_callV (As := [_]) F (k_X1_lengthenA l D cy _ _ ?_ _ ?_ ts sst n sn e3L hsL e4L ?_ ?_ e5L ?_ ?_ hNL) ml_X1_34 haL (by decide) rfl (Nat.le_of_ble_eq_true rfl) ⟨Nat.le_of_ble_eq_true rfl, Nat.le_of_ble_eq_true rfl⟩ ⟨by decide, by decide⟩ dX1_textsOf_44 (fun v44 S44 w44 => ?_)
        · exact haL
        · exact httL
        · focus (simp only [vp_in_iff, Int32.lt_iff_toInt_lt, Int32.le_iff_toInt_le, ← Int32.toInt_inj, Int32.toInt_add, Int32.toInt_sub, Int32.toInt_mul, Int32.toInt_neg, pq_NuO, pq_NuI, pq_NuJ, pq_NuR, pq_shr6, pq_shr7, pq_shr8, lqm1, lq0, lq1] at *; (try simp (disch := omega) only [pq_bm] at *); all_goals omega)
        · focus (simp only [vp_in_iff, Int32.lt_iff_toInt_lt, Int32.le_iff_toInt_le, ← Int32.toInt_inj, Int32.toInt_add, Int32.toInt_sub, Int32.toInt_mul, Int32.toInt_neg, pq_NuO, pq_NuI, pq_NuJ, pq_NuR, pq_shr6, pq_shr7, pq_shr8, lqm1, lq0, lq1] at *; (try simp (disch := omega) only [pq_bm] at *); all_goals omega)
        · focus (simp only [vp_in_iff, Int32.lt_iff_toInt_lt, Int32.le_iff_toInt_le, ← Int32.toInt_inj, Int32.toInt_add, Int32.toInt_sub, Int32.toInt_mul, Int32.toInt_neg, pq_NuO, pq_NuI, pq_NuJ, pq_NuR, pq_shr6, pq_shr7, pq_shr8, lqm1, lq0, lq1] at *; (try simp (disch := omega) only [pq_bm] at *); all_goals omega)
        · focus (simp only [vp_in_iff, Int32.lt_iff_toInt_lt, Int32.le_iff_toInt_le, ← Int32.toInt_inj, Int32.toInt_add, Int32.toInt_sub, Int32.toInt_mul, Int32.toInt_neg, pq_NuO, pq_NuI, pq_NuJ, pq_NuR, pq_shr6, pq_shr7, pq_shr8, lqm1, lq0, lq1] at *; (try simp (disch := omega) only [pq_bm] at *); all_goals omega)
        obtain ⟨rfl, hF44⟩ := w44
        have haL_44 := (hF44.1 _ _ haL (by decide)).1
        have httL_44 := (hF44.1 _ _ httL (by decide)).1
        have hsL_44 := (hF44.1 _ _ hsL (by decide)).1
        have ec44_3_httL_44 := hF44.O httL (by decide) (by decide) e3L
        have ec44_4_httL_44 := hF44.O httL (by decide) (by decide) e4L
        have ec44_5_httL_44 := hF44.O httL (by decide) (by decide) e5L
        refine pq_iinc (v := 1) F dX1_textsOf_47 rfl (by decide) (by decide) ?_
        refine pq_goto (tgt := 37) F dX1_textsOf_50 (by decide) ?_
        exact pq_fgm [true, true, true, true, false, false] (ih _ _ (hF.cm hF44 (by decide)) (by focus (simp only [vp_in_iff, Int32.lt_iff_toInt_lt, Int32.le_iff_toInt_le, ← Int32.toInt_inj, Int32.toInt_add, Int32.toInt_sub, Int32.toInt_mul, Int32.toInt_neg, pq_NuO, pq_NuI, pq_NuJ, pq_NuR, pq_shr6, pq_shr7, pq_shr8, lqm1, lq0, lq1] at *; (try simp (disch := omega) only [pq_bm] at *); all_goals omega)) (by focus (simp only [vp_in_iff, Int32.lt_iff_toInt_lt, Int32.le_iff_toInt_le, ← Int32.toInt_inj, Int32.toInt_add, Int32.toInt_sub, Int32.toInt_mul, Int32.toInt_neg, pq_NuO, pq_NuI, pq_NuJ, pq_NuR, pq_shr6, pq_shr7, pq_shr8, lqm1, lq0, lq1] at *; (try simp (disch := omega) only [pq_bm] at *); all_goals omega)) (by focus (simp only [vp_in_iff, Int32.lt_iff_toInt_lt, Int32.le_iff_toInt_le, ← Int32.toInt_inj, Int32.toInt_add, Int32.toInt_sub, Int32.toInt_mul, Int32.toInt_neg, pq_NuO, pq_NuI, pq_NuJ, pq_NuR, pq_shr6, pq_shr7, pq_shr8, lqm1, lq0, lq1] at *; (try simp (disch := omega) only [pq_bm] at *); all_goals omega)))
  refine pq_iload_n F dX1_textsOf_0 rfl rfl ?_
  refine pq_if_ne (tgt := 17) F dX1_textsOf_1 (by decide) (fun c1 => ?_) (fun c1 => ?_)
  · skip
    refine pq_aload_n F dX1_textsOf_17 rfl rfl ?_
    refine pq_getR F ha (by decide) lk_X1_9 rfl dX1_textsOf_18 (fun r18 e18 h18 => ?_)
    refine pq_lconst (v := 0) F dX1_textsOf_21 (by decide) ?_
    refine pq_lenF h18 (by decide) rfl (fun lna22_0 lnb22_0 => ?_)
    refine pq_callS (As := [_, _]) F (k_J7_fill_d0a16 l D cy _ _ 189 ?_ ?_ ?_ _ ?_) ml_X1_24 (Nat.le_of_ble_eq_true rfl) ⟨Nat.le_of_ble_eq_true rfl, Nat.le_of_ble_eq_true rfl⟩ ⟨by decide, by decide⟩ dX1_textsOf_22 (fun v22 S22 w22 => ?_)
    · exact h18
    · first | decide | omega
    · first | decide | omega
    · focus (simp only [vp_in_iff, Int32.lt_iff_toInt_lt, Int32.le_iff_toInt_le, ← Int32.toInt_inj, Int32.toInt_add, Int32.toInt_sub, Int32.toInt_mul, Int32.toInt_neg, pq_NuO, pq_NuI, pq_NuJ, pq_NuR, pq_shr6, pq_shr7, pq_shr8, lqm1, lq0, lq1] at *; (try simp (disch := omega) only [pq_bm] at *); all_goals omega)
    obtain ⟨rfl, f22, rfl, g22⟩ := w22
    refine pq_aload_n F dX1_textsOf_25 rfl rfl ?_
    refine pq_get F ha (by decide) lk_X1_9 e18 dX1_textsOf_26 ?_
    refine pq_aload_n F dX1_textsOf_29 rfl rfl ?_
    refine pq_getI F htt (by decide) lk_X1_30 rfl dX1_textsOf_30 (fun x30 e30 l30 u30 => ?_)
    refine pq_lconst (v := 1) F dX1_textsOf_33 (by decide) ?_
    refine pq_last F h18 (by decide) (by decide) rfl (fun n1_34 n2_34 => (by focus (simp only [vp_in_iff, Int32.lt_iff_toInt_lt, Int32.le_iff_toInt_le, ← Int32.toInt_inj, Int32.toInt_add, Int32.toInt_sub, Int32.toInt_mul, Int32.toInt_neg, pq_NuO, pq_NuI, pq_NuJ, pq_NuR, pq_shr6, pq_shr7, pq_shr8, lqm1, lq0, lq1] at *; (try simp (disch := omega) only [pq_bm] at *); all_goals omega))) dX1_textsOf_34 ?_
    refine pq_iconst (v := 0) F dX1_textsOf_35 (by decide) ?_
    refine pq_istore_n F dX1_textsOf_36 rfl (by decide) ?_
    exact pq_fgm [true, true, true, true, false, false] (L37  100000 _ _  ((pq_Fr.rf.uJ h18 (by first | decide | exact List.mem_cons_self)).uJ h18 (by first | decide | exact List.mem_cons_self)) (by focus (simp only [vp_in_iff, Int32.lt_iff_toInt_lt, Int32.le_iff_toInt_le, ← Int32.toInt_inj, Int32.toInt_add, Int32.toInt_sub, Int32.toInt_mul, Int32.toInt_neg, pq_NuO, pq_NuI, pq_NuJ, pq_NuR, pq_shr6, pq_shr7, pq_shr8, lqm1, lq0, lq1] at *; (try simp (disch := omega) only [pq_bm] at *); all_goals omega)) (by focus (simp only [vp_in_iff, Int32.lt_iff_toInt_lt, Int32.le_iff_toInt_le, ← Int32.toInt_inj, Int32.toInt_add, Int32.toInt_sub, Int32.toInt_mul, Int32.toInt_neg, pq_NuO, pq_NuI, pq_NuJ, pq_NuR, pq_shr6, pq_shr7, pq_shr8, lqm1, lq0, lq1] at *; (try simp (disch := omega) only [pq_bm] at *); all_goals omega)) (by focus (simp only [vp_in_iff, Int32.lt_iff_toInt_lt, Int32.le_iff_toInt_le, ← Int32.toInt_inj, Int32.toInt_add, Int32.toInt_sub, Int32.toInt_mul, Int32.toInt_neg, pq_NuO, pq_NuI, pq_NuJ, pq_NuR, pq_shr6, pq_shr7, pq_shr8, lqm1, lq0, lq1] at *; (try simp (disch := omega) only [pq_bm] at *); all_goals omega)))
  · skip
    refine pq_aload_n F dX1_textsOf_4 rfl rfl ?_
    refine pq_getI F htt (by decide) lk_X1_18 rfl dX1_textsOf_5 (fun x5 e5 l5 u5 => ?_)
    refine pq_if_eq (tgt := 15) F dX1_textsOf_8 (by decide) (fun c8 => ?_) (fun c8 => ?_)
    · skip
      refine pq_lconst (v := 0) F dX1_textsOf_15 (by decide) ?_
      exact pq_lret F hr hlk hA (Nat.le_refl _) (Nat.le_refl _) (⟨pq_Fr.rf, _, rfl⟩) dX1_textsOf_16
    · skip
      refine pq_lconst (v := 1) F dX1_textsOf_11 (by decide) ?_
      refine pq_goto (tgt := 16) F dX1_textsOf_12 (by decide) ?_
      exact pq_lret F hr hlk hA (Nat.le_refl _) (Nat.le_refl _) (⟨pq_Fr.rf, _, rfl⟩) dX1_textsOf_16

set_option maxHeartbeats 4000000 in
set_option maxRecDepth 100000 in
theorem k_X0_stepOfB (l : Launch) (D : va_G) (cy : Nat → ClassId) (S : HS) (a : Nat) (ha : pq_R S a 33) (sv : Int32) (bv : Int32) (hbv0 : 0 ≤ bv.toInt) (hbv1 : bv.toInt ≤ 127) (ko st : Nat) (n sn s0 : Int32) (Pr : Int32 → Prop) (hA1 : pq_Au S a 153 155 ko st n sn s0 Pr) (hPs : Pr sv) : pq_C l D cy yX0_stepOf cX0_stepOf 3 (some .int) 1 0 0 S [.ref a, .int sv, .int bv] (fun v S2 => S2 = S ∧ ∃ x : Int32, v = some (.int x) ∧ 0 ≤ x.toInt ∧ x.toInt ≤ 200 ∧ (Pr x ∧ x.toInt < sn.toInt)) := by
  refine pq_start (by decide) (Nat.le_of_ble_eq_true rfl) ?_
  intro p e s m args below meth c A F hr hlk hnm hA
  have lqm1 : (-1 : Int32).toInt = -1 := rfl
  have lq0 : (0 : Int32).toInt = 0 := rfl
  have lq1 : (1 : Int32).toInt = 1 := rfl
  have hab := hA1.b
  have hal := hA1.l
  have hsp := hA1.p hPs
  obtain ⟨q1, q2, q3, q4⟩ := pq_mb (x := sv.toInt) (y := n.toInt) (A := 200) (B := 128) (by focus ((try clear hA1); (try clear hPs); simp only [vp_in_iff, Int32.lt_iff_toInt_lt, Int32.le_iff_toInt_le, ← Int32.toInt_inj, Int32.toInt_add, Int32.toInt_sub, Int32.toInt_mul, Int32.toInt_neg, pq_NuO, pq_NuI, pq_NuJ, pq_NuR, pq_shr6, pq_shr7, pq_shr8, lqm1, lq0, lq1] at *; (try simp (disch := omega) only [pq_bm] at *); all_goals omega)) (by focus ((try clear hA1); (try clear hPs); simp only [vp_in_iff, Int32.lt_iff_toInt_lt, Int32.le_iff_toInt_le, ← Int32.toInt_inj, Int32.toInt_add, Int32.toInt_sub, Int32.toInt_mul, Int32.toInt_neg, pq_NuO, pq_NuI, pq_NuJ, pq_NuR, pq_shr6, pq_shr7, pq_shr8, lqm1, lq0, lq1] at *; (try simp (disch := omega) only [pq_bm] at *); all_goals omega)) (by focus ((try clear hA1); (try clear hPs); simp only [vp_in_iff, Int32.lt_iff_toInt_lt, Int32.le_iff_toInt_le, ← Int32.toInt_inj, Int32.toInt_add, Int32.toInt_sub, Int32.toInt_mul, Int32.toInt_neg, pq_NuO, pq_NuI, pq_NuJ, pq_NuR, pq_shr6, pq_shr7, pq_shr8, lqm1, lq0, lq1] at *; (try simp (disch := omega) only [pq_bm] at *); all_goals omega)) (by focus ((try clear hA1); (try clear hPs); simp only [vp_in_iff, Int32.lt_iff_toInt_lt, Int32.le_iff_toInt_le, ← Int32.toInt_inj, Int32.toInt_add, Int32.toInt_sub, Int32.toInt_mul, Int32.toInt_neg, pq_NuO, pq_NuI, pq_NuJ, pq_NuR, pq_shr6, pq_shr7, pq_shr8, lqm1, lq0, lq1] at *; (try simp (disch := omega) only [pq_bm] at *); all_goals omega))
  have q5 := pq_mn (x := sv.toInt) (y := n.toInt) (A := sn.toInt) (by focus ((try clear hA1); (try clear hPs); simp only [vp_in_iff, Int32.lt_iff_toInt_lt, Int32.le_iff_toInt_le, ← Int32.toInt_inj, Int32.toInt_add, Int32.toInt_sub, Int32.toInt_mul, Int32.toInt_neg, pq_NuO, pq_NuI, pq_NuJ, pq_NuR, pq_shr6, pq_shr7, pq_shr8, lqm1, lq0, lq1] at *; (try simp (disch := omega) only [pq_bm] at *); all_goals omega)) (by focus ((try clear hA1); (try clear hPs); simp only [vp_in_iff, Int32.lt_iff_toInt_lt, Int32.le_iff_toInt_le, ← Int32.toInt_inj, Int32.toInt_add, Int32.toInt_sub, Int32.toInt_mul, Int32.toInt_neg, pq_NuO, pq_NuI, pq_NuJ, pq_NuR, pq_shr6, pq_shr7, pq_shr8, lqm1, lq0, lq1] at *; (try simp (disch := omega) only [pq_bm] at *); all_goals omega))
  refine pq_aload_n F dX0_stepOf_0 rfl rfl ?_
  refine pq_get F ha (by decide) lk_X0_24 hA1.e3 dX0_stepOf_1 ?_
  refine pq_iload_n F dX0_stepOf_4 rfl rfl ?_
  refine pq_aload_n F dX0_stepOf_5 rfl rfl ?_
  refine pq_get F ha (by decide) lk_X0_27 hA1.e4 dX0_stepOf_6 ?_
  refine pq_imul F dX0_stepOf_9 ?_
  refine pq_aload_n F dX0_stepOf_10 rfl rfl ?_
  refine pq_get F ha (by decide) lk_X0_9 hA1.e0 dX0_stepOf_11 ?_
  refine pq_iload_n F dX0_stepOf_14 rfl rfl ?_
  refine pq_iald F hA1.hk (by decide) (by decide) rfl (fun n1_15 n2_15 => (by focus ((try clear hA1); (try clear hPs); simp only [vp_in_iff, Int32.lt_iff_toInt_lt, Int32.le_iff_toInt_le, ← Int32.toInt_inj, Int32.toInt_add, Int32.toInt_sub, Int32.toInt_mul, Int32.toInt_neg, pq_NuO, pq_NuI, pq_NuJ, pq_NuR, pq_shr6, pq_shr7, pq_shr8, lqm1, lq0, lq1] at *; (try simp (disch := omega) only [pq_bm] at *); all_goals omega))) dX0_stepOf_15 (fun x15 e15 l15 u15 => ?_)
  have hkb : x15.toInt < n.toInt := (by rw [e15]; exact hA1.k _ (by have := pq_cl (x := bv) (by focus ((try clear hA1); (try clear hPs); simp only [vp_in_iff, Int32.lt_iff_toInt_lt, Int32.le_iff_toInt_le, ← Int32.toInt_inj, Int32.toInt_add, Int32.toInt_sub, Int32.toInt_mul, Int32.toInt_neg, pq_NuO, pq_NuI, pq_NuJ, pq_NuR, pq_shr6, pq_shr7, pq_shr8, lqm1, lq0, lq1] at *; (try simp (disch := omega) only [pq_bm] at *); all_goals omega)); focus ((try clear hA1); (try clear hPs); simp only [vp_in_iff, Int32.lt_iff_toInt_lt, Int32.le_iff_toInt_le, ← Int32.toInt_inj, Int32.toInt_add, Int32.toInt_sub, Int32.toInt_mul, Int32.toInt_neg, pq_NuO, pq_NuI, pq_NuJ, pq_NuR, pq_shr6, pq_shr7, pq_shr8, lqm1, lq0, lq1] at *; (try simp (disch := omega) only [pq_bm] at *); all_goals omega)))
  refine pq_iadd F dX0_stepOf_16 ?_
  refine pq_iald F hA1.hs (by decide) (by decide) rfl (fun n1_17 n2_17 => (by focus ((try clear hA1); (try clear hPs); simp only [vp_in_iff, Int32.lt_iff_toInt_lt, Int32.le_iff_toInt_le, ← Int32.toInt_inj, Int32.toInt_add, Int32.toInt_sub, Int32.toInt_mul, Int32.toInt_neg, pq_NuO, pq_NuI, pq_NuJ, pq_NuR, pq_shr6, pq_shr7, pq_shr8, lqm1, lq0, lq1] at *; (try simp (disch := omega) only [pq_bm] at *); all_goals omega))) dX0_stepOf_17 (fun x17 e17 l17 u17 => ?_)
  exact pq_iret F hr hlk hA (Nat.le_refl _) (Nat.le_refl _) ((by have hP : Pr x17 := (by rw [e17]; exact hA1.c sv hPs _ (by rw [pq_cl (by focus ((try clear hA1); (try clear hPs); simp only [vp_in_iff, Int32.lt_iff_toInt_lt, Int32.le_iff_toInt_le, ← Int32.toInt_inj, Int32.toInt_add, Int32.toInt_sub, Int32.toInt_mul, Int32.toInt_neg, pq_NuO, pq_NuI, pq_NuJ, pq_NuR, pq_shr6, pq_shr7, pq_shr8, lqm1, lq0, lq1] at *; (try simp (disch := omega) only [pq_bm] at *); all_goals omega))]; focus ((try clear hA1); (try clear hPs); simp only [vp_in_iff, Int32.lt_iff_toInt_lt, Int32.le_iff_toInt_le, ← Int32.toInt_inj, Int32.toInt_add, Int32.toInt_sub, Int32.toInt_mul, Int32.toInt_neg, pq_NuO, pq_NuI, pq_NuJ, pq_NuR, pq_shr6, pq_shr7, pq_shr8, lqm1, lq0, lq1] at *; (try simp (disch := omega) only [pq_bm] at *); all_goals omega)) (by rw [pq_cl (by focus ((try clear hA1); (try clear hPs); simp only [vp_in_iff, Int32.lt_iff_toInt_lt, Int32.le_iff_toInt_le, ← Int32.toInt_inj, Int32.toInt_add, Int32.toInt_sub, Int32.toInt_mul, Int32.toInt_neg, pq_NuO, pq_NuI, pq_NuJ, pq_NuR, pq_shr6, pq_shr7, pq_shr8, lqm1, lq0, lq1] at *; (try simp (disch := omega) only [pq_bm] at *); all_goals omega))]; focus ((try clear hA1); (try clear hPs); simp only [vp_in_iff, Int32.lt_iff_toInt_lt, Int32.le_iff_toInt_le, ← Int32.toInt_inj, Int32.toInt_add, Int32.toInt_sub, Int32.toInt_mul, Int32.toInt_neg, pq_NuO, pq_NuI, pq_NuJ, pq_NuR, pq_shr6, pq_shr7, pq_shr8, lqm1, lq0, lq1] at *; (try simp (disch := omega) only [pq_bm] at *); all_goals omega))); exact ⟨rfl, _, rfl, (by focus ((try clear hA1); (try clear hPs); simp only [vp_in_iff, Int32.lt_iff_toInt_lt, Int32.le_iff_toInt_le, ← Int32.toInt_inj, Int32.toInt_add, Int32.toInt_sub, Int32.toInt_mul, Int32.toInt_neg, pq_NuO, pq_NuI, pq_NuJ, pq_NuR, pq_shr6, pq_shr7, pq_shr8, lqm1, lq0, lq1] at *; (try simp (disch := omega) only [pq_bm] at *); all_goals omega)), (by focus ((try clear hA1); (try clear hPs); simp only [vp_in_iff, Int32.lt_iff_toInt_lt, Int32.le_iff_toInt_le, ← Int32.toInt_inj, Int32.toInt_add, Int32.toInt_sub, Int32.toInt_mul, Int32.toInt_neg, pq_NuO, pq_NuI, pq_NuJ, pq_NuR, pq_shr6, pq_shr7, pq_shr8, lqm1, lq0, lq1] at *; (try simp (disch := omega) only [pq_bm] at *); all_goals omega)), hP, (hA1.p hP).2⟩)) dX0_stepOf_18

set_option maxHeartbeats 4000000 in
set_option maxRecDepth 100000 in
theorem k_X0_hasTextB (l : Launch) (D : va_G) (cy : Nat → ClassId) (S : HS) (a : Nat) (ha : pq_R S a 33) (tp : Nat) (htp : pq_R S tp 12) (ko st : Nat) (n sn s0 : Int32) (Pr : Int32 → Prop) (hA1 : pq_Au S a 153 155 ko st n sn s0 Pr) : pq_C l D cy yX0_hasText cX0_hasText 5 (some .boolean) 2 0 0 S [.ref a, .ref tp] (fun v S2 => S2 = S ∧ ∃ x : Int32, v = some (.int x) ∧ 0 ≤ x.toInt ∧ x.toInt ≤ 1) := by
  refine pq_start (by decide) (Nat.le_of_ble_eq_true rfl) ?_
  intro p e s m args below meth c A F hr hlk hnm hA
  have lqm1 : (-1 : Int32).toInt = -1 := rfl
  have lq0 : (0 : Int32).toInt = 0 := rfl
  have lq1 : (1 : Int32).toInt = 1 := rfl
  have lq128 : (128 : Int32).toInt = 128 := rfl
  have hab := hA1.b
  have hal := hA1.l
  have L19 : ∀  (fu : Nat)  (sv : Int32) (k : Int32)  (hPv : Pr sv) (hk0 : 0 ≤ k.toInt) (hk1 : k.toInt ≤ 2048), (2048 - k.toInt).toNat < fu → pq_At p l e (pq_rm 2 0 0) s m args below meth c (pq_Z below args s D cy S 0 0 (fun v S2 => S2 = S ∧ ∃ x : Int32, v = some (.int x) ∧ 0 ≤ x.toInt ∧ x.toInt ≤ 1)) D cy A 5 0 0 19 S [some (.ref a), some (.ref tp), some (.int sv), some (.int k), none] [] := by
    intro  fu
    induction fu with
    | zero => intro sv k hPv hk0 hk1 hm; exact absurd hm (Nat.not_lt_zero _)
    | succ fu ih =>
      intro sv k hPv hk0 hk1 hm
      have hsv := hA1.p hPv
      refine pq_iload_n F dX0_hasText_19 rfl rfl ?_
      refine pq_aload_n F dX0_hasText_20 rfl rfl ?_
      refine pq_getI F htp (by decide) lk_X0_58 rfl dX0_hasText_21 (fun x21 e21 l21 u21 => ?_)
      refine pq_icmp_ge (tgt := 63) F dX0_hasText_24 (by decide) (fun c24 => ?_) (fun c24 => ?_)
      · skip
        refine pq_aload_n F dX0_hasText_63 rfl rfl ?_
        refine pq_getR F ha (by decide) lk_X0_20 rfl dX0_hasText_64 (fun r64 e64 h64 => ?_)
        refine pq_iload_n F dX0_hasText_67 rfl rfl ?_
        refine pq_zald F h64 (by decide) (by decide) rfl (fun n1_68 n2_68 => (by focus ((try clear hA1); (try clear hPs); (try clear p53); (try clear p29); (try clear hPv); simp only [vp_in_iff, Int32.lt_iff_toInt_lt, Int32.le_iff_toInt_le, ← Int32.toInt_inj, Int32.toInt_add, Int32.toInt_sub, Int32.toInt_mul, Int32.toInt_neg, pq_NuO, pq_NuI, pq_NuJ, pq_NuR, pq_shr6, pq_shr7, pq_shr8, lqm1, lq0, lq1, lq128] at *; (try simp (disch := omega) only [pq_bm] at *); all_goals omega))) dX0_hasText_68 (fun x68 e68 l68 u68 => ?_)
        exact pq_zret F hr hlk hA (pq_bz (by focus ((try clear hA1); (try clear hPs); (try clear p53); (try clear p29); (try clear hPv); simp only [vp_in_iff, Int32.lt_iff_toInt_lt, Int32.le_iff_toInt_le, ← Int32.toInt_inj, Int32.toInt_add, Int32.toInt_sub, Int32.toInt_mul, Int32.toInt_neg, pq_NuO, pq_NuI, pq_NuJ, pq_NuR, pq_shr6, pq_shr7, pq_shr8, lqm1, lq0, lq1, lq128] at *; (try simp (disch := omega) only [pq_bm] at *); all_goals omega)) (by focus ((try clear hA1); (try clear hPs); (try clear p53); (try clear p29); (try clear hPv); simp only [vp_in_iff, Int32.lt_iff_toInt_lt, Int32.le_iff_toInt_le, ← Int32.toInt_inj, Int32.toInt_add, Int32.toInt_sub, Int32.toInt_mul, Int32.toInt_neg, pq_NuO, pq_NuI, pq_NuJ, pq_NuR, pq_shr6, pq_shr7, pq_shr8, lqm1, lq0, lq1, lq128] at *; (try simp (disch := omega) only [pq_bm] at *); all_goals omega))).1 (Nat.le_refl _) (Nat.le_refl _) (⟨rfl, _, rfl, (by focus ((try clear hA1); (try clear hPs); (try clear p53); (try clear p29); (try clear hPv); simp only [vp_in_iff, Int32.lt_iff_toInt_lt, Int32.le_iff_toInt_le, ← Int32.toInt_inj, Int32.toInt_add, Int32.toInt_sub, Int32.toInt_mul, Int32.toInt_neg, pq_NuO, pq_NuI, pq_NuJ, pq_NuR, pq_shr6, pq_shr7, pq_shr8, lqm1, lq0, lq1, lq128] at *; (try simp (disch := omega) only [pq_bm] at *); all_goals omega)), (by focus ((try clear hA1); (try clear hPs); (try clear p53); (try clear p29); (try clear hPv); simp only [vp_in_iff, Int32.lt_iff_toInt_lt, Int32.le_iff_toInt_le, ← Int32.toInt_inj, Int32.toInt_add, Int32.toInt_sub, Int32.toInt_mul, Int32.toInt_neg, pq_NuO, pq_NuI, pq_NuJ, pq_NuR, pq_shr6, pq_shr7, pq_shr8, lqm1, lq0, lq1, lq128] at *; (try simp (disch := omega) only [pq_bm] at *); all_goals omega))⟩) dX0_hasText_69
      · skip
        refine pq_aload_n F dX0_hasText_27 rfl rfl ?_
        refine pq_iload_n F dX0_hasText_28 rfl rfl ?_
        refine pq_callV (As := [_]) F (k_X9_byteAt l D cy _ _ ?_ _) ml_X0_63 htp (by decide) rfl (Nat.le_of_ble_eq_true rfl) ⟨Nat.le_of_ble_eq_true rfl, Nat.le_of_ble_eq_true rfl⟩ ⟨by decide, by decide⟩ dX0_hasText_29 (fun v29 S29 w29 => ?_)
        · exact htp
        obtain ⟨u29, y29, rfl, yl29_0, yl29_1, p29⟩ := w29
        rw [u29]
        try rw [u29] at p29
        refine pq_istore F dX0_hasText_32 (by decide) ?_
        refine pq_iload F dX0_hasText_34 rfl ?_
        refine pq_if_lt (tgt := 47) F dX0_hasText_36 (by decide) (fun c36 => ?_) (fun c36 => ?_)
        · skip
          refine pq_iconst (v := 0) F dX0_hasText_47 (by decide) ?_
          exact pq_zret F hr hlk hA rfl (Nat.le_refl _) (Nat.le_refl _) (⟨rfl, _, rfl, (by focus ((try clear hA1); (try clear hPs); (try clear p53); (try clear p29); (try clear hPv); simp only [vp_in_iff, Int32.lt_iff_toInt_lt, Int32.le_iff_toInt_le, ← Int32.toInt_inj, Int32.toInt_add, Int32.toInt_sub, Int32.toInt_mul, Int32.toInt_neg, pq_NuO, pq_NuI, pq_NuJ, pq_NuR, pq_shr6, pq_shr7, pq_shr8, lqm1, lq0, lq1, lq128] at *; (try simp (disch := omega) only [pq_bm] at *); all_goals omega)), (by focus ((try clear hA1); (try clear hPs); (try clear p53); (try clear p29); (try clear hPv); simp only [vp_in_iff, Int32.lt_iff_toInt_lt, Int32.le_iff_toInt_le, ← Int32.toInt_inj, Int32.toInt_add, Int32.toInt_sub, Int32.toInt_mul, Int32.toInt_neg, pq_NuO, pq_NuI, pq_NuJ, pq_NuR, pq_shr6, pq_shr7, pq_shr8, lqm1, lq0, lq1, lq128] at *; (try simp (disch := omega) only [pq_bm] at *); all_goals omega))⟩) dX0_hasText_48
        · skip
          refine pq_iload F dX0_hasText_39 rfl ?_
          refine pq_sipush (v := 128) F dX0_hasText_41 (by decide) ?_
          refine pq_icmp_lt (tgt := 49) F dX0_hasText_44 (by decide) (fun c44 => ?_) (fun c44 => ?_)
          · skip
            refine pq_aload_n F dX0_hasText_49 rfl rfl ?_
            refine pq_iload_n F dX0_hasText_50 rfl rfl ?_
            refine pq_iload F dX0_hasText_51 rfl ?_
            refine pq_callV (As := [_, _]) F (k_X0_stepOfB l D cy _ _ ?_ _ _ ?_ ?_ ko st n sn s0 Pr hA1 hPv) ml_X0_67 ha (by decide) rfl (Nat.le_of_ble_eq_true rfl) ⟨Nat.le_of_ble_eq_true rfl, Nat.le_of_ble_eq_true rfl⟩ ⟨by decide, by decide⟩ dX0_hasText_53 (fun v53 S53 w53 => ?_)
            · exact ha
            · focus ((try clear hA1); (try clear hPs); (try clear p53); (try clear p29); (try clear hPv); simp only [vp_in_iff, Int32.lt_iff_toInt_lt, Int32.le_iff_toInt_le, ← Int32.toInt_inj, Int32.toInt_add, Int32.toInt_sub, Int32.toInt_mul, Int32.toInt_neg, pq_NuO, pq_NuI, pq_NuJ, pq_NuR, pq_shr6, pq_shr7, pq_shr8, lqm1, lq0, lq1, lq128] at *; (try simp (disch := omega) only [pq_bm] at *); all_goals omega)
            · focus ((try clear hA1); (try clear hPs); (try clear p53); (try clear p29); (try clear hPv); simp only [vp_in_iff, Int32.lt_iff_toInt_lt, Int32.le_iff_toInt_le, ← Int32.toInt_inj, Int32.toInt_add, Int32.toInt_sub, Int32.toInt_mul, Int32.toInt_neg, pq_NuO, pq_NuI, pq_NuJ, pq_NuR, pq_shr6, pq_shr7, pq_shr8, lqm1, lq0, lq1, lq128] at *; (try simp (disch := omega) only [pq_bm] at *); all_goals omega)
            obtain ⟨u53, y53, rfl, yl53_0, yl53_1, p53⟩ := w53
            rw [u53]
            try rw [u53] at p53
            refine pq_istore_n F dX0_hasText_56 rfl (by decide) ?_
            refine pq_iinc (v := 1) F dX0_hasText_57 rfl (by decide) (by decide) ?_
            refine pq_goto (tgt := 19) F dX0_hasText_60 (by decide) ?_
            exact pq_fgm [true, true, true, true, false] (ih _ _ p53.1 (by focus ((try clear hA1); (try clear hPs); (try clear p53); (try clear p29); (try clear hPv); simp only [vp_in_iff, Int32.lt_iff_toInt_lt, Int32.le_iff_toInt_le, ← Int32.toInt_inj, Int32.toInt_add, Int32.toInt_sub, Int32.toInt_mul, Int32.toInt_neg, pq_NuO, pq_NuI, pq_NuJ, pq_NuR, pq_shr6, pq_shr7, pq_shr8, lqm1, lq0, lq1, lq128] at *; (try simp (disch := omega) only [pq_bm] at *); all_goals omega)) (by focus ((try clear hA1); (try clear hPs); (try clear p53); (try clear p29); (try clear hPv); simp only [vp_in_iff, Int32.lt_iff_toInt_lt, Int32.le_iff_toInt_le, ← Int32.toInt_inj, Int32.toInt_add, Int32.toInt_sub, Int32.toInt_mul, Int32.toInt_neg, pq_NuO, pq_NuI, pq_NuJ, pq_NuR, pq_shr6, pq_shr7, pq_shr8, lqm1, lq0, lq1, lq128] at *; (try simp (disch := omega) only [pq_bm] at *); all_goals omega)) (by focus ((try clear hA1); (try clear hPs); (try clear p53); (try clear p29); (try clear hPv); simp only [vp_in_iff, Int32.lt_iff_toInt_lt, Int32.le_iff_toInt_le, ← Int32.toInt_inj, Int32.toInt_add, Int32.toInt_sub, Int32.toInt_mul, Int32.toInt_neg, pq_NuO, pq_NuI, pq_NuJ, pq_NuR, pq_shr6, pq_shr7, pq_shr8, lqm1, lq0, lq1, lq128] at *; (try simp (disch := omega) only [pq_bm] at *); all_goals omega)))
          · skip
            refine pq_iconst (v := 0) F dX0_hasText_47 (by decide) ?_
            exact pq_zret F hr hlk hA rfl (Nat.le_refl _) (Nat.le_refl _) (⟨rfl, _, rfl, (by focus ((try clear hA1); (try clear hPs); (try clear p53); (try clear p29); (try clear hPv); simp only [vp_in_iff, Int32.lt_iff_toInt_lt, Int32.le_iff_toInt_le, ← Int32.toInt_inj, Int32.toInt_add, Int32.toInt_sub, Int32.toInt_mul, Int32.toInt_neg, pq_NuO, pq_NuI, pq_NuJ, pq_NuR, pq_shr6, pq_shr7, pq_shr8, lqm1, lq0, lq1, lq128] at *; (try simp (disch := omega) only [pq_bm] at *); all_goals omega)), (by focus ((try clear hA1); (try clear hPs); (try clear p53); (try clear p29); (try clear hPv); simp only [vp_in_iff, Int32.lt_iff_toInt_lt, Int32.le_iff_toInt_le, ← Int32.toInt_inj, Int32.toInt_add, Int32.toInt_sub, Int32.toInt_mul, Int32.toInt_neg, pq_NuO, pq_NuI, pq_NuJ, pq_NuR, pq_shr6, pq_shr7, pq_shr8, lqm1, lq0, lq1, lq128] at *; (try simp (disch := omega) only [pq_bm] at *); all_goals omega))⟩) dX0_hasText_48
  refine pq_aload_n F dX0_hasText_0 rfl rfl ?_
  refine pq_getI F htp (by decide) lk_X0_58 rfl dX0_hasText_1 (fun x1 e1 l1 u1 => ?_)
  refine pq_if_ne (tgt := 12) F dX0_hasText_4 (by decide) (fun c4 => ?_) (fun c4 => ?_)
  · skip
    refine pq_aload_n F dX0_hasText_12 rfl rfl ?_
    refine pq_get F ha (by decide) lk_X0_34 hA1.e6 dX0_hasText_13 ?_
    refine pq_istore_n F dX0_hasText_16 rfl (by decide) ?_
    refine pq_iconst (v := 0) F dX0_hasText_17 (by decide) ?_
    refine pq_istore_n F dX0_hasText_18 rfl (by decide) ?_
    exact pq_fgm [true, true, true, true, false] (L19  100000 _ _  hA1.p0 (by focus ((try clear hA1); (try clear hPs); (try clear p53); (try clear p29); (try clear hPv); simp only [vp_in_iff, Int32.lt_iff_toInt_lt, Int32.le_iff_toInt_le, ← Int32.toInt_inj, Int32.toInt_add, Int32.toInt_sub, Int32.toInt_mul, Int32.toInt_neg, pq_NuO, pq_NuI, pq_NuJ, pq_NuR, pq_shr6, pq_shr7, pq_shr8, lqm1, lq0, lq1, lq128] at *; (try simp (disch := omega) only [pq_bm] at *); all_goals omega)) (by focus ((try clear hA1); (try clear hPs); (try clear p53); (try clear p29); (try clear hPv); simp only [vp_in_iff, Int32.lt_iff_toInt_lt, Int32.le_iff_toInt_le, ← Int32.toInt_inj, Int32.toInt_add, Int32.toInt_sub, Int32.toInt_mul, Int32.toInt_neg, pq_NuO, pq_NuI, pq_NuJ, pq_NuR, pq_shr6, pq_shr7, pq_shr8, lqm1, lq0, lq1, lq128] at *; (try simp (disch := omega) only [pq_bm] at *); all_goals omega)) (by focus ((try clear hA1); (try clear hPs); (try clear p53); (try clear p29); (try clear hPv); simp only [vp_in_iff, Int32.lt_iff_toInt_lt, Int32.le_iff_toInt_le, ← Int32.toInt_inj, Int32.toInt_add, Int32.toInt_sub, Int32.toInt_mul, Int32.toInt_neg, pq_NuO, pq_NuI, pq_NuJ, pq_NuR, pq_shr6, pq_shr7, pq_shr8, lqm1, lq0, lq1, lq128] at *; (try simp (disch := omega) only [pq_bm] at *); all_goals omega)))
  · skip
    refine pq_aload_n F dX0_hasText_7 rfl rfl ?_
    refine pq_getI F ha (by decide) lk_X0_37 rfl dX0_hasText_8 (fun x8 e8 l8 u8 => ?_)
    exact pq_zret F hr hlk hA (pq_bz (by focus ((try clear hA1); (try clear hPs); (try clear p53); (try clear p29); (try clear hPv); simp only [vp_in_iff, Int32.lt_iff_toInt_lt, Int32.le_iff_toInt_le, ← Int32.toInt_inj, Int32.toInt_add, Int32.toInt_sub, Int32.toInt_mul, Int32.toInt_neg, pq_NuO, pq_NuI, pq_NuJ, pq_NuR, pq_shr6, pq_shr7, pq_shr8, lqm1, lq0, lq1, lq128] at *; (try simp (disch := omega) only [pq_bm] at *); all_goals omega)) (by focus ((try clear hA1); (try clear hPs); (try clear p53); (try clear p29); (try clear hPv); simp only [vp_in_iff, Int32.lt_iff_toInt_lt, Int32.le_iff_toInt_le, ← Int32.toInt_inj, Int32.toInt_add, Int32.toInt_sub, Int32.toInt_mul, Int32.toInt_neg, pq_NuO, pq_NuI, pq_NuJ, pq_NuR, pq_shr6, pq_shr7, pq_shr8, lqm1, lq0, lq1, lq128] at *; (try simp (disch := omega) only [pq_bm] at *); all_goals omega))).1 (Nat.le_refl _) (Nat.le_refl _) (⟨rfl, _, rfl, (by focus ((try clear hA1); (try clear hPs); (try clear p53); (try clear p29); (try clear hPv); simp only [vp_in_iff, Int32.lt_iff_toInt_lt, Int32.le_iff_toInt_le, ← Int32.toInt_inj, Int32.toInt_add, Int32.toInt_sub, Int32.toInt_mul, Int32.toInt_neg, pq_NuO, pq_NuI, pq_NuJ, pq_NuR, pq_shr6, pq_shr7, pq_shr8, lqm1, lq0, lq1, lq128] at *; (try simp (disch := omega) only [pq_bm] at *); all_goals omega)), (by focus ((try clear hA1); (try clear hPs); (try clear p53); (try clear p29); (try clear hPv); simp only [vp_in_iff, Int32.lt_iff_toInt_lt, Int32.le_iff_toInt_le, ← Int32.toInt_inj, Int32.toInt_add, Int32.toInt_sub, Int32.toInt_mul, Int32.toInt_neg, pq_NuO, pq_NuI, pq_NuJ, pq_NuR, pq_shr6, pq_shr7, pq_shr8, lqm1, lq0, lq1, lq128] at *; (try simp (disch := omega) only [pq_bm] at *); all_goals omega))⟩) dX0_hasText_11

set_option maxHeartbeats 4000000 in
set_option maxRecDepth 100000 in
theorem k_X1_lengthenB (l : Launch) (D : va_G) (cy : Nat → ClassId) (S : HS) (a : Nat) (ha : pq_R S a 4) (tt : Nat) (htt : pq_R S tt 33) (ts sst : Nat) (n sn : Int32) (e3 : hO S tt 3 = .ref sst) (hsst : pq_R S sst 155) (e4 : hO S tt 4 = .int n) (hn0 : 1 ≤ n.toInt) (hn1 : n.toInt ≤ 128) (e5 : hO S tt 5 = .int sn) (hsn0 : 1 ≤ sn.toInt) (hsn1 : sn.toInt ≤ 201) (hll : sn.toInt * n.toInt ≤ (hN S sst : Int)) : pq_C l D cy yX1_lengthen cX1_lengthen 4 (none) 2 0 0 S [.ref a, .ref tt] (fun v S2 => v = none ∧ pq_Fr [(189, 0), (4, 0), (4, 1)] S S2) := by
  refine pq_start (by decide) (Nat.le_of_ble_eq_true rfl) ?_
  intro p e s m args below meth c A F hr hlk hnm hA
  have lqm1 : (-1 : Int32).toInt = -1 := rfl
  have lq0 : (0 : Int32).toInt = 0 := rfl
  have lq1 : (1 : Int32).toInt = 1 := rfl
  have L20 : ∀ (k : Int32) (hk0 : 0 ≤ k.toInt) (hk1 : k.toInt < sn.toInt) (K : ∀ (S2 : HS) (hF2 : pq_Fr [(189, 0), (4, 0), (4, 1)] S S2), pq_At p l e (pq_rm 2 0 0) s m args below meth c (pq_Z below args s D cy S 0 0 (fun v S2 => v = none ∧ pq_Fr [(189, 0), (4, 0), (4, 1)] S S2)) D cy A 4 0 0 80 S2 [some (.ref a), some (.ref tt), some (.int k), none] []) (fu : Nat) (S1 : HS) (q9 : Int32)  (hF : pq_Fr [(189, 0), (4, 0), (4, 1)] S S1) (hq0 : 0 ≤ q9.toInt) (hq1 : q9.toInt ≤ 128), (128 - q9.toInt).toNat < fu → pq_At p l e (pq_rm 2 0 0) s m args below meth c (pq_Z below args s D cy S 0 0 (fun v S2 => v = none ∧ pq_Fr [(189, 0), (4, 0), (4, 1)] S S2)) D cy A 4 0 0 20 S1 [some (.ref a), some (.ref tt), some (.int k), some (.int q9)] [] := by
    intro k hk0 hk1 K fu
    induction fu with
    | zero => intro S1 q9 hF hq0 hq1 hm; exact absurd hm (Nat.not_lt_zero _)
    | succ fu ih =>
      intro S1 q9 hF hq0 hq1 hm
      have haL := hF.R ha (by first | decide | omega)
      have httL := hF.R htt (by first | decide | omega)
      have e3L := hF.O htt (by decide) (by decide) e3
      have hsL := hF.R hsst (by decide)
      have e4L := hF.O htt (by decide) (by decide) e4
      have e5L := hF.O htt (by decide) (by decide) e5
      have hNL : sn.toInt * n.toInt ≤ (hN S1 sst : Int) := (by rw [(hF.1 sst 155 hsst (by decide)).2]; exact hll)
      obtain ⟨q1, q2, q3, q4⟩ := pq_mb (x := k.toInt) (y := n.toInt) (A := 200) (B := 128) (by focus ((try clear K); (try clear ih); simp only [vp_in_iff, Int32.lt_iff_toInt_lt, Int32.le_iff_toInt_le, ← Int32.toInt_inj, Int32.toInt_add, Int32.toInt_sub, Int32.toInt_mul, Int32.toInt_neg, pq_NuO, pq_NuI, pq_NuJ, pq_NuR, pq_shr6, pq_shr7, pq_shr8, lqm1, lq0, lq1] at *; (try simp (disch := omega) only [pq_bm] at *); all_goals omega)) (by focus ((try clear K); (try clear ih); simp only [vp_in_iff, Int32.lt_iff_toInt_lt, Int32.le_iff_toInt_le, ← Int32.toInt_inj, Int32.toInt_add, Int32.toInt_sub, Int32.toInt_mul, Int32.toInt_neg, pq_NuO, pq_NuI, pq_NuJ, pq_NuR, pq_shr6, pq_shr7, pq_shr8, lqm1, lq0, lq1] at *; (try simp (disch := omega) only [pq_bm] at *); all_goals omega)) (by focus ((try clear K); (try clear ih); simp only [vp_in_iff, Int32.lt_iff_toInt_lt, Int32.le_iff_toInt_le, ← Int32.toInt_inj, Int32.toInt_add, Int32.toInt_sub, Int32.toInt_mul, Int32.toInt_neg, pq_NuO, pq_NuI, pq_NuJ, pq_NuR, pq_shr6, pq_shr7, pq_shr8, lqm1, lq0, lq1] at *; (try simp (disch := omega) only [pq_bm] at *); all_goals omega)) (by focus ((try clear K); (try clear ih); simp only [vp_in_iff, Int32.lt_iff_toInt_lt, Int32.le_iff_toInt_le, ← Int32.toInt_inj, Int32.toInt_add, Int32.toInt_sub, Int32.toInt_mul, Int32.toInt_neg, pq_NuO, pq_NuI, pq_NuJ, pq_NuR, pq_shr6, pq_shr7, pq_shr8, lqm1, lq0, lq1] at *; (try simp (disch := omega) only [pq_bm] at *); all_goals omega))
      have q5 := pq_mn (x := k.toInt) (y := n.toInt) (A := sn.toInt) (by focus ((try clear K); (try clear ih); simp only [vp_in_iff, Int32.lt_iff_toInt_lt, Int32.le_iff_toInt_le, ← Int32.toInt_inj, Int32.toInt_add, Int32.toInt_sub, Int32.toInt_mul, Int32.toInt_neg, pq_NuO, pq_NuI, pq_NuJ, pq_NuR, pq_shr6, pq_shr7, pq_shr8, lqm1, lq0, lq1] at *; (try simp (disch := omega) only [pq_bm] at *); all_goals omega)) (by focus ((try clear K); (try clear ih); simp only [vp_in_iff, Int32.lt_iff_toInt_lt, Int32.le_iff_toInt_le, ← Int32.toInt_inj, Int32.toInt_add, Int32.toInt_sub, Int32.toInt_mul, Int32.toInt_neg, pq_NuO, pq_NuI, pq_NuJ, pq_NuR, pq_shr6, pq_shr7, pq_shr8, lqm1, lq0, lq1] at *; (try simp (disch := omega) only [pq_bm] at *); all_goals omega))
      refine pq_iload_n F dX1_lengthen_20 rfl rfl ?_
      refine pq_aload_n F dX1_lengthen_21 rfl rfl ?_
      refine pq_get F httL (by decide) lk_X1_45 e4L dX1_lengthen_22 ?_
      refine pq_icmp_ge (tgt := 80) F dX1_lengthen_25 (by decide) (fun c25 => ?_) (fun c25 => ?_)
      · skip
        exact pq_fgm [true, true, true, false] (K _ hF)
      · skip
        refine pq_aload_n F dX1_lengthen_28 rfl rfl ?_
        refine pq_getR F haL (by decide) lk_X1_9 rfl dX1_lengthen_29 (fun r29 e29 h29 => ?_)
        refine pq_iload_n F dX1_lengthen_32 rfl rfl ?_
        refine pq_lald F h29 (by decide) (by decide) rfl (fun n1_33 n2_33 => (by focus ((try clear K); (try clear ih); simp only [vp_in_iff, Int32.lt_iff_toInt_lt, Int32.le_iff_toInt_le, ← Int32.toInt_inj, Int32.toInt_add, Int32.toInt_sub, Int32.toInt_mul, Int32.toInt_neg, pq_NuO, pq_NuI, pq_NuJ, pq_NuR, pq_shr6, pq_shr7, pq_shr8, lqm1, lq0, lq1] at *; (try simp (disch := omega) only [pq_bm] at *); all_goals omega))) dX1_lengthen_33 (fun x33 e33 => ?_)
        refine pq_lconst (v := 0) F dX1_lengthen_34 (by decide) ?_
        refine pq_lcmp F dX1_lengthen_35 ?_
        refine pq_if_eq (tgt := 80) F dX1_lengthen_36 (by decide) (fun c36 => ?_) (fun c36 => ?_)
        · skip
          exact pq_fgm [true, true, true, false] (K _ hF)
        · skip
          refine pq_aload_n F dX1_lengthen_39 rfl rfl ?_
          refine pq_getR F haL (by decide) lk_X1_15 rfl dX1_lengthen_40 (fun r40 e40 h40 => ?_)
          refine pq_aload_n F dX1_lengthen_43 rfl rfl ?_
          refine pq_get F httL (by decide) lk_X1_48 e3L dX1_lengthen_44 ?_
          refine pq_iload_n F dX1_lengthen_47 rfl rfl ?_
          refine pq_aload_n F dX1_lengthen_48 rfl rfl ?_
          refine pq_get F httL (by decide) lk_X1_45 e4L dX1_lengthen_49 ?_
          refine pq_imul F dX1_lengthen_52 ?_
          refine pq_iload_n F dX1_lengthen_53 rfl rfl ?_
          refine pq_iadd F dX1_lengthen_54 ?_
          refine pq_iald F hsL (by decide) (by decide) rfl (fun n1_55 n2_55 => (by focus ((try clear K); (try clear ih); simp only [vp_in_iff, Int32.lt_iff_toInt_lt, Int32.le_iff_toInt_le, ← Int32.toInt_inj, Int32.toInt_add, Int32.toInt_sub, Int32.toInt_mul, Int32.toInt_neg, pq_NuO, pq_NuI, pq_NuJ, pq_NuR, pq_shr6, pq_shr7, pq_shr8, lqm1, lq0, lq1] at *; (try simp (disch := omega) only [pq_bm] at *); all_goals omega))) dX1_lengthen_55 (fun x55 e55 l55 u55 => ?_)
          refine pq_dup2 F dX1_lengthen_56 rfl rfl ?_
          refine pq_lald F h40 (by decide) (by decide) rfl (fun n1_57 n2_57 => (by focus ((try clear K); (try clear ih); simp only [vp_in_iff, Int32.lt_iff_toInt_lt, Int32.le_iff_toInt_le, ← Int32.toInt_inj, Int32.toInt_add, Int32.toInt_sub, Int32.toInt_mul, Int32.toInt_neg, pq_NuO, pq_NuI, pq_NuJ, pq_NuR, pq_shr6, pq_shr7, pq_shr8, lqm1, lq0, lq1] at *; (try simp (disch := omega) only [pq_bm] at *); all_goals omega))) dX1_lengthen_57 (fun x57 e57 => ?_)
          refine pq_aload_n F dX1_lengthen_58 rfl rfl ?_
          refine pq_get F haL (by decide) lk_X1_9 e29 dX1_lengthen_59 ?_
          refine pq_iload_n F dX1_lengthen_62 rfl rfl ?_
          refine pq_lald F h29 (by decide) (by decide) rfl (fun n1_63 n2_63 => (by focus ((try clear K); (try clear ih); simp only [vp_in_iff, Int32.lt_iff_toInt_lt, Int32.le_iff_toInt_le, ← Int32.toInt_inj, Int32.toInt_add, Int32.toInt_sub, Int32.toInt_mul, Int32.toInt_neg, pq_NuO, pq_NuI, pq_NuJ, pq_NuR, pq_shr6, pq_shr7, pq_shr8, lqm1, lq0, lq1] at *; (try simp (disch := omega) only [pq_bm] at *); all_goals omega))) dX1_lengthen_63 (fun x63 e63 => ?_)
          refine pq_aload_n F dX1_lengthen_64 rfl rfl ?_
          refine pq_getR F httL (by decide) lk_X1_52 rfl dX1_lengthen_65 (fun r65 e65 h65 => ?_)
          refine pq_iload_n F dX1_lengthen_68 rfl rfl ?_
          refine pq_iald F h65 (by decide) (by decide) rfl (fun n1_69 n2_69 => (by focus ((try clear K); (try clear ih); simp only [vp_in_iff, Int32.lt_iff_toInt_lt, Int32.le_iff_toInt_le, ← Int32.toInt_inj, Int32.toInt_add, Int32.toInt_sub, Int32.toInt_mul, Int32.toInt_neg, pq_NuO, pq_NuI, pq_NuJ, pq_NuR, pq_shr6, pq_shr7, pq_shr8, lqm1, lq0, lq1] at *; (try simp (disch := omega) only [pq_bm] at *); all_goals omega))) dX1_lengthen_69 (fun x69 e69 l69 u69 => ?_)
          refine pq_i2l F dX1_lengthen_70 ?_
          refine pq_lmul F dX1_lengthen_71 ?_
          refine pq_ladd F dX1_lengthen_72 ?_
          refine pq_last F h40 (by decide) (by decide) rfl (fun n1_73 n2_73 => (by focus ((try clear K); (try clear ih); simp only [vp_in_iff, Int32.lt_iff_toInt_lt, Int32.le_iff_toInt_le, ← Int32.toInt_inj, Int32.toInt_add, Int32.toInt_sub, Int32.toInt_mul, Int32.toInt_neg, pq_NuO, pq_NuI, pq_NuJ, pq_NuR, pq_shr6, pq_shr7, pq_shr8, lqm1, lq0, lq1] at *; (try simp (disch := omega) only [pq_bm] at *); all_goals omega))) dX1_lengthen_73 ?_
          refine pq_iinc (v := 1) F dX1_lengthen_74 rfl (by decide) (by decide) ?_
          refine pq_goto (tgt := 20) F dX1_lengthen_77 (by decide) ?_
          exact pq_fgm [true, true, true, true] (ih _ _ (hF.uJ h40 (by first | decide | exact List.mem_cons_self)) (by focus ((try clear K); (try clear ih); simp only [vp_in_iff, Int32.lt_iff_toInt_lt, Int32.le_iff_toInt_le, ← Int32.toInt_inj, Int32.toInt_add, Int32.toInt_sub, Int32.toInt_mul, Int32.toInt_neg, pq_NuO, pq_NuI, pq_NuJ, pq_NuR, pq_shr6, pq_shr7, pq_shr8, lqm1, lq0, lq1] at *; (try simp (disch := omega) only [pq_bm] at *); all_goals omega)) (by focus ((try clear K); (try clear ih); simp only [vp_in_iff, Int32.lt_iff_toInt_lt, Int32.le_iff_toInt_le, ← Int32.toInt_inj, Int32.toInt_add, Int32.toInt_sub, Int32.toInt_mul, Int32.toInt_neg, pq_NuO, pq_NuI, pq_NuJ, pq_NuR, pq_shr6, pq_shr7, pq_shr8, lqm1, lq0, lq1] at *; (try simp (disch := omega) only [pq_bm] at *); all_goals omega)) (by focus ((try clear K); (try clear ih); simp only [vp_in_iff, Int32.lt_iff_toInt_lt, Int32.le_iff_toInt_le, ← Int32.toInt_inj, Int32.toInt_add, Int32.toInt_sub, Int32.toInt_mul, Int32.toInt_neg, pq_NuO, pq_NuI, pq_NuJ, pq_NuR, pq_shr6, pq_shr7, pq_shr8, lqm1, lq0, lq1] at *; (try simp (disch := omega) only [pq_bm] at *); all_goals omega)))
  have L10 : ∀  (fu : Nat) (S1 : HS) (k : Int32)  (hF : pq_Fr [(189, 0), (4, 0), (4, 1)] S S1) (hk0 : 0 ≤ k.toInt) (hk1 : k.toInt ≤ 201), (201 - k.toInt).toNat < fu → pq_At p l e (pq_rm 2 0 0) s m args below meth c (pq_Z below args s D cy S 0 0 (fun v S2 => v = none ∧ pq_Fr [(189, 0), (4, 0), (4, 1)] S S2)) D cy A 4 0 0 10 S1 [some (.ref a), some (.ref tt), some (.int k), none] [] := by
    intro  fu
    induction fu with
    | zero => intro S1 k hF hk0 hk1 hm; exact absurd hm (Nat.not_lt_zero _)
    | succ fu ih =>
      intro S1 k hF hk0 hk1 hm
      have haL := hF.R ha (by first | decide | omega)
      have httL := hF.R htt (by first | decide | omega)
      have e3L := hF.O htt (by decide) (by decide) e3
      have hsL := hF.R hsst (by decide)
      have e4L := hF.O htt (by decide) (by decide) e4
      have e5L := hF.O htt (by decide) (by decide) e5
      have hNL : sn.toInt * n.toInt ≤ (hN S1 sst : Int) := (by rw [(hF.1 sst 155 hsst (by decide)).2]; exact hll)
      refine pq_iload_n F dX1_lengthen_10 rfl rfl ?_
      refine pq_aload_n F dX1_lengthen_11 rfl rfl ?_
      refine pq_get F httL (by decide) lk_X1_38 e5L dX1_lengthen_12 ?_
      refine pq_icmp_ge (tgt := 86) F dX1_lengthen_15 (by decide) (fun c15 => ?_) (fun c15 => ?_)
      · skip
        refine pq_aload_n F dX1_lengthen_86 rfl rfl ?_
        refine pq_getR F haL (by decide) lk_X1_9 rfl dX1_lengthen_87 (fun r87 e87 h87 => ?_)
        refine pq_astore_n F dX1_lengthen_90 rfl (by decide) ?_
        refine pq_aload_n F dX1_lengthen_91 rfl rfl ?_
        refine pq_aload_n F dX1_lengthen_92 rfl rfl ?_
        refine pq_getR F haL (by decide) lk_X1_15 rfl dX1_lengthen_93 (fun r93 e93 h93 => ?_)
        refine pq_put F haL (by decide) lp_X1_9 rfl rfl (⟨by decide, _, rfl, h93⟩) dX1_lengthen_96 ?_
        refine pq_aload_n F dX1_lengthen_99 rfl rfl ?_
        refine pq_aload_n F dX1_lengthen_100 rfl rfl ?_
        refine pq_put F haL (by decide) lp_X1_15 rfl rfl (⟨by decide, _, rfl, h87⟩) dX1_lengthen_101 ?_
        exact pq_vret F hr hlk hA (Nat.le_refl _) (Nat.le_refl _) (⟨rfl, ((hF.uO haL (by decide)).uO haL (by decide))⟩) dX1_lengthen_104
      · skip
        refine pq_iconst (v := 0) F dX1_lengthen_18 (by decide) ?_
        refine pq_istore_n F dX1_lengthen_19 rfl (by decide) ?_
        refine pq_fgm [true, true, true, true] (L20 k (by focus ((try clear K); (try clear ih); simp only [vp_in_iff, Int32.lt_iff_toInt_lt, Int32.le_iff_toInt_le, ← Int32.toInt_inj, Int32.toInt_add, Int32.toInt_sub, Int32.toInt_mul, Int32.toInt_neg, pq_NuO, pq_NuI, pq_NuJ, pq_NuR, pq_shr6, pq_shr7, pq_shr8, lqm1, lq0, lq1] at *; (try simp (disch := omega) only [pq_bm] at *); all_goals omega)) (by focus ((try clear K); (try clear ih); simp only [vp_in_iff, Int32.lt_iff_toInt_lt, Int32.le_iff_toInt_le, ← Int32.toInt_inj, Int32.toInt_add, Int32.toInt_sub, Int32.toInt_mul, Int32.toInt_neg, pq_NuO, pq_NuI, pq_NuJ, pq_NuR, pq_shr6, pq_shr7, pq_shr8, lqm1, lq0, lq1] at *; (try simp (disch := omega) only [pq_bm] at *); all_goals omega)) (fun S5 hF5 => ?_) 1000 _ _ hF (by focus ((try clear K); (try clear ih); simp only [vp_in_iff, Int32.lt_iff_toInt_lt, Int32.le_iff_toInt_le, ← Int32.toInt_inj, Int32.toInt_add, Int32.toInt_sub, Int32.toInt_mul, Int32.toInt_neg, pq_NuO, pq_NuI, pq_NuJ, pq_NuR, pq_shr6, pq_shr7, pq_shr8, lqm1, lq0, lq1] at *; (try simp (disch := omega) only [pq_bm] at *); all_goals omega)) (by focus ((try clear K); (try clear ih); simp only [vp_in_iff, Int32.lt_iff_toInt_lt, Int32.le_iff_toInt_le, ← Int32.toInt_inj, Int32.toInt_add, Int32.toInt_sub, Int32.toInt_mul, Int32.toInt_neg, pq_NuO, pq_NuI, pq_NuJ, pq_NuR, pq_shr6, pq_shr7, pq_shr8, lqm1, lq0, lq1] at *; (try simp (disch := omega) only [pq_bm] at *); all_goals omega)) (by focus ((try clear K); (try clear ih); simp only [vp_in_iff, Int32.lt_iff_toInt_lt, Int32.le_iff_toInt_le, ← Int32.toInt_inj, Int32.toInt_add, Int32.toInt_sub, Int32.toInt_mul, Int32.toInt_neg, pq_NuO, pq_NuI, pq_NuJ, pq_NuR, pq_shr6, pq_shr7, pq_shr8, lqm1, lq0, lq1] at *; (try simp (disch := omega) only [pq_bm] at *); all_goals omega)))
        have ha5 := hF5.R ha (by decide)
        have htt5 := hF5.R htt (by decide)
        refine pq_iinc (v := 1) F dX1_lengthen_80 rfl (by decide) (by decide) ?_
        refine pq_goto (tgt := 10) F dX1_lengthen_83 (by decide) ?_
        exact pq_fgm [true, true, true, false] (ih _ _ hF5 (by focus ((try clear K); (try clear ih); simp only [vp_in_iff, Int32.lt_iff_toInt_lt, Int32.le_iff_toInt_le, ← Int32.toInt_inj, Int32.toInt_add, Int32.toInt_sub, Int32.toInt_mul, Int32.toInt_neg, pq_NuO, pq_NuI, pq_NuJ, pq_NuR, pq_shr6, pq_shr7, pq_shr8, lqm1, lq0, lq1] at *; (try simp (disch := omega) only [pq_bm] at *); all_goals omega)) (by focus ((try clear K); (try clear ih); simp only [vp_in_iff, Int32.lt_iff_toInt_lt, Int32.le_iff_toInt_le, ← Int32.toInt_inj, Int32.toInt_add, Int32.toInt_sub, Int32.toInt_mul, Int32.toInt_neg, pq_NuO, pq_NuI, pq_NuJ, pq_NuR, pq_shr6, pq_shr7, pq_shr8, lqm1, lq0, lq1] at *; (try simp (disch := omega) only [pq_bm] at *); all_goals omega)) (by focus ((try clear K); (try clear ih); simp only [vp_in_iff, Int32.lt_iff_toInt_lt, Int32.le_iff_toInt_le, ← Int32.toInt_inj, Int32.toInt_add, Int32.toInt_sub, Int32.toInt_mul, Int32.toInt_neg, pq_NuO, pq_NuI, pq_NuJ, pq_NuR, pq_shr6, pq_shr7, pq_shr8, lqm1, lq0, lq1] at *; (try simp (disch := omega) only [pq_bm] at *); all_goals omega)))
  refine pq_aload_n F dX1_lengthen_0 rfl rfl ?_
  refine pq_getR F ha (by decide) lk_X1_15 rfl dX1_lengthen_1 (fun r1 e1 h1 => ?_)
  refine pq_lconst (v := 0) F dX1_lengthen_4 (by decide) ?_
  refine pq_lenF h1 (by decide) rfl (fun lna5_0 lnb5_0 => ?_)
  refine pq_callS (As := [_, _]) F (k_J7_fill_d0a16 l D cy _ _ 189 ?_ ?_ ?_ _ ?_) ml_X1_24 (Nat.le_of_ble_eq_true rfl) ⟨Nat.le_of_ble_eq_true rfl, Nat.le_of_ble_eq_true rfl⟩ ⟨by decide, by decide⟩ dX1_lengthen_5 (fun v5 S5 w5 => ?_)
  · exact h1
  · first | decide | omega
  · first | decide | omega
  · focus ((try clear K); (try clear ih); simp only [vp_in_iff, Int32.lt_iff_toInt_lt, Int32.le_iff_toInt_le, ← Int32.toInt_inj, Int32.toInt_add, Int32.toInt_sub, Int32.toInt_mul, Int32.toInt_neg, pq_NuO, pq_NuI, pq_NuJ, pq_NuR, pq_shr6, pq_shr7, pq_shr8, lqm1, lq0, lq1] at *; (try simp (disch := omega) only [pq_bm] at *); all_goals omega)
  obtain ⟨rfl, f5, rfl, g5⟩ := w5
  refine pq_iconst (v := 0) F dX1_lengthen_8 (by decide) ?_
  refine pq_istore_n F dX1_lengthen_9 rfl (by decide) ?_
  exact pq_fgm [true, true, true, false] (L10  100000 _ _  (pq_Fr.rf.uJ h1 (by first | decide | exact List.mem_cons_self)) (by focus ((try clear K); (try clear ih); simp only [vp_in_iff, Int32.lt_iff_toInt_lt, Int32.le_iff_toInt_le, ← Int32.toInt_inj, Int32.toInt_add, Int32.toInt_sub, Int32.toInt_mul, Int32.toInt_neg, pq_NuO, pq_NuI, pq_NuJ, pq_NuR, pq_shr6, pq_shr7, pq_shr8, lqm1, lq0, lq1] at *; (try simp (disch := omega) only [pq_bm] at *); all_goals omega)) (by focus ((try clear K); (try clear ih); simp only [vp_in_iff, Int32.lt_iff_toInt_lt, Int32.le_iff_toInt_le, ← Int32.toInt_inj, Int32.toInt_add, Int32.toInt_sub, Int32.toInt_mul, Int32.toInt_neg, pq_NuO, pq_NuI, pq_NuJ, pq_NuR, pq_shr6, pq_shr7, pq_shr8, lqm1, lq0, lq1] at *; (try simp (disch := omega) only [pq_bm] at *); all_goals omega)) (by focus ((try clear K); (try clear ih); simp only [vp_in_iff, Int32.lt_iff_toInt_lt, Int32.le_iff_toInt_le, ← Int32.toInt_inj, Int32.toInt_add, Int32.toInt_sub, Int32.toInt_mul, Int32.toInt_neg, pq_NuO, pq_NuI, pq_NuJ, pq_NuR, pq_shr6, pq_shr7, pq_shr8, lqm1, lq0, lq1] at *; (try simp (disch := omega) only [pq_bm] at *); all_goals omega)))

set_option maxHeartbeats 4000000 in
set_option maxRecDepth 100000 in
theorem k_X1_textsOfB (l : Launch) (D : va_G) (cy : Nat → ClassId) (S : HS) (a : Nat) (ha : pq_R S a 4) (tt : Nat) (htt : pq_R S tt 33) (ln : Int32) (hln0 : 0 ≤ ln.toInt) (hln1 : ln.toInt ≤ 12) (ts sst : Nat) (n sn : Int32) (e3 : hO S tt 3 = .ref sst) (hsst : pq_R S sst 155) (e4 : hO S tt 4 = .int n) (hn0 : 1 ≤ n.toInt) (hn1 : n.toInt ≤ 128) (e5 : hO S tt 5 = .int sn) (hsn0 : 1 ≤ sn.toInt) (hsn1 : sn.toInt ≤ 201) (hll : sn.toInt * n.toInt ≤ (hN S sst : Int)) : pq_C l D cy yX1_textsOf cX1_textsOf 6 (some .long) 3 0 0 S [.ref a, .ref tt, .int ln] (fun v S2 => pq_Fr [(189, 0), (4, 0), (4, 1)] S S2 ∧ ∃ x : Int64, v = some (.long x)) := by
  refine pq_start (by decide) (Nat.le_of_ble_eq_true rfl) ?_
  intro p e s m args below meth c A F hr hlk hnm hA
  have lqm1 : (-1 : Int32).toInt = -1 := rfl
  have lq0 : (0 : Int32).toInt = 0 := rfl
  have lq1 : (1 : Int32).toInt = 1 := rfl
  have L58 : ∀  (fu : Nat) (S1 : HS) (j_tx : Int64) (k : Int32)  (hF : pq_Fr [(189, 0), (4, 0), (4, 1)] S S1) (hk0 : 0 ≤ k.toInt) (hk1 : k.toInt ≤ 201), (201 - k.toInt).toNat < fu → pq_At p l e (pq_rm 3 0 0) s m args below meth c (pq_Z below args s D cy S 0 0 (fun v S2 => pq_Fr [(189, 0), (4, 0), (4, 1)] S S2 ∧ ∃ x : Int64, v = some (.long x))) D cy A 6 0 0 58 S1 [some (.ref a), some (.ref tt), some (.int ln), some (.long j_tx), none, some (.int k)] [] := by
    intro  fu
    induction fu with
    | zero => intro S1 j_tx k hF hk0 hk1 hm; exact absurd hm (Nat.not_lt_zero _)
    | succ fu ih =>
      intro S1 j_tx k hF hk0 hk1 hm
      have haL := hF.R ha (by first | decide | omega)
      have httL := hF.R htt (by first | decide | omega)
      have e3L := hF.O htt (by decide) (by decide) e3
      have hsL := hF.R hsst (by decide)
      have e4L := hF.O htt (by decide) (by decide) e4
      have e5L := hF.O htt (by decide) (by decide) e5
      have hNL : sn.toInt * n.toInt ≤ (hN S1 sst : Int) := (by rw [(hF.1 sst 155 hsst (by decide)).2]; exact hll)
      refine pq_iload F dX1_textsOf_58 rfl ?_
      refine pq_aload_n F dX1_textsOf_60 rfl rfl ?_
      refine pq_get F httL (by decide) lk_X1_38 e5L dX1_textsOf_61 ?_
      refine pq_icmp_ge (tgt := 97) F dX1_textsOf_64 (by decide) (fun c64 => ?_) (fun c64 => ?_)
      · skip
        refine pq_lload_n F dX1_textsOf_97 rfl rfl ?_
        exact pq_lret F hr hlk hA (Nat.le_refl _) (Nat.le_refl _) (⟨hF, _, rfl⟩) dX1_textsOf_98
      · skip
        refine pq_lload_n F dX1_textsOf_67 rfl rfl ?_
        refine pq_aload_n F dX1_textsOf_68 rfl rfl ?_
        refine pq_getR F httL (by decide) lk_X1_41 rfl dX1_textsOf_69 (fun r69 e69 h69 => ?_)
        refine pq_iload F dX1_textsOf_72 rfl ?_
        refine pq_zald F h69 (by decide) (by decide) rfl (fun n1_74 n2_74 => (by focus (simp only [vp_in_iff, Int32.lt_iff_toInt_lt, Int32.le_iff_toInt_le, ← Int32.toInt_inj, Int32.toInt_add, Int32.toInt_sub, Int32.toInt_mul, Int32.toInt_neg, pq_NuO, pq_NuI, pq_NuJ, pq_NuR, pq_shr6, pq_shr7, pq_shr8, lqm1, lq0, lq1] at *; (try simp (disch := omega) only [pq_bm] at *); all_goals omega))) dX1_textsOf_74 (fun x74 e74 l74 u74 => ?_)
        refine pq_if_eq (tgt := 88) F dX1_textsOf_75 (by decide) (fun c75 => ?_) (fun c75 => ?_)
        · skip
          refine pq_lconst (v := 0) F dX1_textsOf_88 (by decide) ?_
          refine pq_ladd F dX1_textsOf_89 ?_
          refine pq_lstore_n F dX1_textsOf_90 rfl (by decide) ?_
          refine pq_iinc (v := 1) F dX1_textsOf_91 rfl (by decide) (by decide) ?_
          refine pq_goto (tgt := 58) F dX1_textsOf_94 (by decide) ?_
          exact pq_fgm [true, true, true, true, false, true] (ih _ _ _ hF (by focus (simp only [vp_in_iff, Int32.lt_iff_toInt_lt, Int32.le_iff_toInt_le, ← Int32.toInt_inj, Int32.toInt_add, Int32.toInt_sub, Int32.toInt_mul, Int32.toInt_neg, pq_NuO, pq_NuI, pq_NuJ, pq_NuR, pq_shr6, pq_shr7, pq_shr8, lqm1, lq0, lq1] at *; (try simp (disch := omega) only [pq_bm] at *); all_goals omega)) (by focus (simp only [vp_in_iff, Int32.lt_iff_toInt_lt, Int32.le_iff_toInt_le, ← Int32.toInt_inj, Int32.toInt_add, Int32.toInt_sub, Int32.toInt_mul, Int32.toInt_neg, pq_NuO, pq_NuI, pq_NuJ, pq_NuR, pq_shr6, pq_shr7, pq_shr8, lqm1, lq0, lq1] at *; (try simp (disch := omega) only [pq_bm] at *); all_goals omega)) (by focus (simp only [vp_in_iff, Int32.lt_iff_toInt_lt, Int32.le_iff_toInt_le, ← Int32.toInt_inj, Int32.toInt_add, Int32.toInt_sub, Int32.toInt_mul, Int32.toInt_neg, pq_NuO, pq_NuI, pq_NuJ, pq_NuR, pq_shr6, pq_shr7, pq_shr8, lqm1, lq0, lq1] at *; (try simp (disch := omega) only [pq_bm] at *); all_goals omega)))
        · skip
          refine pq_aload_n F dX1_textsOf_78 rfl rfl ?_
          refine pq_getR F haL (by decide) lk_X1_9 rfl dX1_textsOf_79 (fun r79 e79 h79 => ?_)
          refine pq_iload F dX1_textsOf_82 rfl ?_
          refine pq_lald F h79 (by decide) (by decide) rfl (fun n1_84 n2_84 => (by focus (simp only [vp_in_iff, Int32.lt_iff_toInt_lt, Int32.le_iff_toInt_le, ← Int32.toInt_inj, Int32.toInt_add, Int32.toInt_sub, Int32.toInt_mul, Int32.toInt_neg, pq_NuO, pq_NuI, pq_NuJ, pq_NuR, pq_shr6, pq_shr7, pq_shr8, lqm1, lq0, lq1] at *; (try simp (disch := omega) only [pq_bm] at *); all_goals omega))) dX1_textsOf_84 (fun x84 e84 => ?_)
          refine pq_goto (tgt := 89) F dX1_textsOf_85 (by decide) ?_
          refine pq_ladd F dX1_textsOf_89 ?_
          refine pq_lstore_n F dX1_textsOf_90 rfl (by decide) ?_
          refine pq_iinc (v := 1) F dX1_textsOf_91 rfl (by decide) (by decide) ?_
          refine pq_goto (tgt := 58) F dX1_textsOf_94 (by decide) ?_
          exact pq_fgm [true, true, true, true, false, true] (ih _ _ _ hF (by focus (simp only [vp_in_iff, Int32.lt_iff_toInt_lt, Int32.le_iff_toInt_le, ← Int32.toInt_inj, Int32.toInt_add, Int32.toInt_sub, Int32.toInt_mul, Int32.toInt_neg, pq_NuO, pq_NuI, pq_NuJ, pq_NuR, pq_shr6, pq_shr7, pq_shr8, lqm1, lq0, lq1] at *; (try simp (disch := omega) only [pq_bm] at *); all_goals omega)) (by focus (simp only [vp_in_iff, Int32.lt_iff_toInt_lt, Int32.le_iff_toInt_le, ← Int32.toInt_inj, Int32.toInt_add, Int32.toInt_sub, Int32.toInt_mul, Int32.toInt_neg, pq_NuO, pq_NuI, pq_NuJ, pq_NuR, pq_shr6, pq_shr7, pq_shr8, lqm1, lq0, lq1] at *; (try simp (disch := omega) only [pq_bm] at *); all_goals omega)) (by focus (simp only [vp_in_iff, Int32.lt_iff_toInt_lt, Int32.le_iff_toInt_le, ← Int32.toInt_inj, Int32.toInt_add, Int32.toInt_sub, Int32.toInt_mul, Int32.toInt_neg, pq_NuO, pq_NuI, pq_NuJ, pq_NuR, pq_shr6, pq_shr7, pq_shr8, lqm1, lq0, lq1] at *; (try simp (disch := omega) only [pq_bm] at *); all_goals omega)))
  have L37 : ∀  (fu : Nat) (S1 : HS) (k : Int32)  (hF : pq_Fr [(189, 0), (4, 0), (4, 1)] S S1) (hk0 : 0 ≤ k.toInt) (hk1 : k.toInt ≤ 12), (12 - k.toInt).toNat < fu → pq_At p l e (pq_rm 3 0 0) s m args below meth c (pq_Z below args s D cy S 0 0 (fun v S2 => pq_Fr [(189, 0), (4, 0), (4, 1)] S S2 ∧ ∃ x : Int64, v = some (.long x))) D cy A 6 0 0 37 S1 [some (.ref a), some (.ref tt), some (.int ln), some (.int k), none, none] [] := by
    intro  fu
    induction fu with
    | zero => intro S1 k hF hk0 hk1 hm; exact absurd hm (Nat.not_lt_zero _)
    | succ fu ih =>
      intro S1 k hF hk0 hk1 hm
      have haL := hF.R ha (by first | decide | omega)
      have httL := hF.R htt (by first | decide | omega)
      have e3L := hF.O htt (by decide) (by decide) e3
      have hsL := hF.R hsst (by decide)
      have e4L := hF.O htt (by decide) (by decide) e4
      have e5L := hF.O htt (by decide) (by decide) e5
      have hNL : sn.toInt * n.toInt ≤ (hN S1 sst : Int) := (by rw [(hF.1 sst 155 hsst (by decide)).2]; exact hll)
      refine pq_iload_n F dX1_textsOf_37 rfl rfl ?_
      refine pq_iload_n F dX1_textsOf_38 rfl rfl ?_
      refine pq_icmp_ge (tgt := 53) F dX1_textsOf_39 (by decide) (fun c39 => ?_) (fun c39 => ?_)
      · skip
        refine pq_lconst (v := 0) F dX1_textsOf_53 (by decide) ?_
        refine pq_lstore_n F dX1_textsOf_54 rfl (by decide) ?_
        refine pq_iconst (v := 0) F dX1_textsOf_55 (by decide) ?_
        refine pq_istore F dX1_textsOf_56 (by decide) ?_
        exact pq_fgm [true, true, true, true, false, true] (L58  100000 _ _ _  hF (by focus (simp only [vp_in_iff, Int32.lt_iff_toInt_lt, Int32.le_iff_toInt_le, ← Int32.toInt_inj, Int32.toInt_add, Int32.toInt_sub, Int32.toInt_mul, Int32.toInt_neg, pq_NuO, pq_NuI, pq_NuJ, pq_NuR, pq_shr6, pq_shr7, pq_shr8, lqm1, lq0, lq1] at *; (try simp (disch := omega) only [pq_bm] at *); all_goals omega)) (by focus (simp only [vp_in_iff, Int32.lt_iff_toInt_lt, Int32.le_iff_toInt_le, ← Int32.toInt_inj, Int32.toInt_add, Int32.toInt_sub, Int32.toInt_mul, Int32.toInt_neg, pq_NuO, pq_NuI, pq_NuJ, pq_NuR, pq_shr6, pq_shr7, pq_shr8, lqm1, lq0, lq1] at *; (try simp (disch := omega) only [pq_bm] at *); all_goals omega)) (by focus (simp only [vp_in_iff, Int32.lt_iff_toInt_lt, Int32.le_iff_toInt_le, ← Int32.toInt_inj, Int32.toInt_add, Int32.toInt_sub, Int32.toInt_mul, Int32.toInt_neg, pq_NuO, pq_NuI, pq_NuJ, pq_NuR, pq_shr6, pq_shr7, pq_shr8, lqm1, lq0, lq1] at *; (try simp (disch := omega) only [pq_bm] at *); all_goals omega)))
      · skip
        refine pq_aload_n F dX1_textsOf_42 rfl rfl ?_
        refine pq_aload_n F dX1_textsOf_43 rfl rfl ?_
        refine pq_callV (As := [_]) F (k_X1_lengthenB l D cy _ _ ?_ _ ?_ ts sst n sn e3L hsL e4L ?_ ?_ e5L ?_ ?_ hNL) ml_X1_34 haL (by decide) rfl (Nat.le_of_ble_eq_true rfl) ⟨Nat.le_of_ble_eq_true rfl, Nat.le_of_ble_eq_true rfl⟩ ⟨by decide, by decide⟩ dX1_textsOf_44 (fun v44 S44 w44 => ?_)
        · exact haL
        · exact httL
        · focus (simp only [vp_in_iff, Int32.lt_iff_toInt_lt, Int32.le_iff_toInt_le, ← Int32.toInt_inj, Int32.toInt_add, Int32.toInt_sub, Int32.toInt_mul, Int32.toInt_neg, pq_NuO, pq_NuI, pq_NuJ, pq_NuR, pq_shr6, pq_shr7, pq_shr8, lqm1, lq0, lq1] at *; (try simp (disch := omega) only [pq_bm] at *); all_goals omega)
        · focus (simp only [vp_in_iff, Int32.lt_iff_toInt_lt, Int32.le_iff_toInt_le, ← Int32.toInt_inj, Int32.toInt_add, Int32.toInt_sub, Int32.toInt_mul, Int32.toInt_neg, pq_NuO, pq_NuI, pq_NuJ, pq_NuR, pq_shr6, pq_shr7, pq_shr8, lqm1, lq0, lq1] at *; (try simp (disch := omega) only [pq_bm] at *); all_goals omega)
        · focus (simp only [vp_in_iff, Int32.lt_iff_toInt_lt, Int32.le_iff_toInt_le, ← Int32.toInt_inj, Int32.toInt_add, Int32.toInt_sub, Int32.toInt_mul, Int32.toInt_neg, pq_NuO, pq_NuI, pq_NuJ, pq_NuR, pq_shr6, pq_shr7, pq_shr8, lqm1, lq0, lq1] at *; (try simp (disch := omega) only [pq_bm] at *); all_goals omega)
        · focus (simp only [vp_in_iff, Int32.lt_iff_toInt_lt, Int32.le_iff_toInt_le, ← Int32.toInt_inj, Int32.toInt_add, Int32.toInt_sub, Int32.toInt_mul, Int32.toInt_neg, pq_NuO, pq_NuI, pq_NuJ, pq_NuR, pq_shr6, pq_shr7, pq_shr8, lqm1, lq0, lq1] at *; (try simp (disch := omega) only [pq_bm] at *); all_goals omega)
        obtain ⟨rfl, hF44⟩ := w44
        have haL_44 := (hF44.1 _ _ haL (by decide)).1
        have httL_44 := (hF44.1 _ _ httL (by decide)).1
        have hsL_44 := (hF44.1 _ _ hsL (by decide)).1
        have ec44_3_httL_44 := hF44.O httL (by decide) (by decide) e3L
        have ec44_4_httL_44 := hF44.O httL (by decide) (by decide) e4L
        have ec44_5_httL_44 := hF44.O httL (by decide) (by decide) e5L
        refine pq_iinc (v := 1) F dX1_textsOf_47 rfl (by decide) (by decide) ?_
        refine pq_goto (tgt := 37) F dX1_textsOf_50 (by decide) ?_
        exact pq_fgm [true, true, true, true, false, false] (ih _ _ (hF.cm hF44 (by decide)) (by focus (simp only [vp_in_iff, Int32.lt_iff_toInt_lt, Int32.le_iff_toInt_le, ← Int32.toInt_inj, Int32.toInt_add, Int32.toInt_sub, Int32.toInt_mul, Int32.toInt_neg, pq_NuO, pq_NuI, pq_NuJ, pq_NuR, pq_shr6, pq_shr7, pq_shr8, lqm1, lq0, lq1] at *; (try simp (disch := omega) only [pq_bm] at *); all_goals omega)) (by focus (simp only [vp_in_iff, Int32.lt_iff_toInt_lt, Int32.le_iff_toInt_le, ← Int32.toInt_inj, Int32.toInt_add, Int32.toInt_sub, Int32.toInt_mul, Int32.toInt_neg, pq_NuO, pq_NuI, pq_NuJ, pq_NuR, pq_shr6, pq_shr7, pq_shr8, lqm1, lq0, lq1] at *; (try simp (disch := omega) only [pq_bm] at *); all_goals omega)) (by focus (simp only [vp_in_iff, Int32.lt_iff_toInt_lt, Int32.le_iff_toInt_le, ← Int32.toInt_inj, Int32.toInt_add, Int32.toInt_sub, Int32.toInt_mul, Int32.toInt_neg, pq_NuO, pq_NuI, pq_NuJ, pq_NuR, pq_shr6, pq_shr7, pq_shr8, lqm1, lq0, lq1] at *; (try simp (disch := omega) only [pq_bm] at *); all_goals omega)))
  refine pq_iload_n F dX1_textsOf_0 rfl rfl ?_
  refine pq_if_ne (tgt := 17) F dX1_textsOf_1 (by decide) (fun c1 => ?_) (fun c1 => ?_)
  · skip
    refine pq_aload_n F dX1_textsOf_17 rfl rfl ?_
    refine pq_getR F ha (by decide) lk_X1_9 rfl dX1_textsOf_18 (fun r18 e18 h18 => ?_)
    refine pq_lconst (v := 0) F dX1_textsOf_21 (by decide) ?_
    refine pq_lenF h18 (by decide) rfl (fun lna22_0 lnb22_0 => ?_)
    refine pq_callS (As := [_, _]) F (k_J7_fill_d0a16 l D cy _ _ 189 ?_ ?_ ?_ _ ?_) ml_X1_24 (Nat.le_of_ble_eq_true rfl) ⟨Nat.le_of_ble_eq_true rfl, Nat.le_of_ble_eq_true rfl⟩ ⟨by decide, by decide⟩ dX1_textsOf_22 (fun v22 S22 w22 => ?_)
    · exact h18
    · first | decide | omega
    · first | decide | omega
    · focus (simp only [vp_in_iff, Int32.lt_iff_toInt_lt, Int32.le_iff_toInt_le, ← Int32.toInt_inj, Int32.toInt_add, Int32.toInt_sub, Int32.toInt_mul, Int32.toInt_neg, pq_NuO, pq_NuI, pq_NuJ, pq_NuR, pq_shr6, pq_shr7, pq_shr8, lqm1, lq0, lq1] at *; (try simp (disch := omega) only [pq_bm] at *); all_goals omega)
    obtain ⟨rfl, f22, rfl, g22⟩ := w22
    refine pq_aload_n F dX1_textsOf_25 rfl rfl ?_
    refine pq_get F ha (by decide) lk_X1_9 e18 dX1_textsOf_26 ?_
    refine pq_aload_n F dX1_textsOf_29 rfl rfl ?_
    refine pq_getI F htt (by decide) lk_X1_30 rfl dX1_textsOf_30 (fun x30 e30 l30 u30 => ?_)
    refine pq_lconst (v := 1) F dX1_textsOf_33 (by decide) ?_
    refine pq_last F h18 (by decide) (by decide) rfl (fun n1_34 n2_34 => (by focus (simp only [vp_in_iff, Int32.lt_iff_toInt_lt, Int32.le_iff_toInt_le, ← Int32.toInt_inj, Int32.toInt_add, Int32.toInt_sub, Int32.toInt_mul, Int32.toInt_neg, pq_NuO, pq_NuI, pq_NuJ, pq_NuR, pq_shr6, pq_shr7, pq_shr8, lqm1, lq0, lq1] at *; (try simp (disch := omega) only [pq_bm] at *); all_goals omega))) dX1_textsOf_34 ?_
    refine pq_iconst (v := 0) F dX1_textsOf_35 (by decide) ?_
    refine pq_istore_n F dX1_textsOf_36 rfl (by decide) ?_
    exact pq_fgm [true, true, true, true, false, false] (L37  100000 _ _  ((pq_Fr.rf.uJ h18 (by first | decide | exact List.mem_cons_self)).uJ h18 (by first | decide | exact List.mem_cons_self)) (by focus (simp only [vp_in_iff, Int32.lt_iff_toInt_lt, Int32.le_iff_toInt_le, ← Int32.toInt_inj, Int32.toInt_add, Int32.toInt_sub, Int32.toInt_mul, Int32.toInt_neg, pq_NuO, pq_NuI, pq_NuJ, pq_NuR, pq_shr6, pq_shr7, pq_shr8, lqm1, lq0, lq1] at *; (try simp (disch := omega) only [pq_bm] at *); all_goals omega)) (by focus (simp only [vp_in_iff, Int32.lt_iff_toInt_lt, Int32.le_iff_toInt_le, ← Int32.toInt_inj, Int32.toInt_add, Int32.toInt_sub, Int32.toInt_mul, Int32.toInt_neg, pq_NuO, pq_NuI, pq_NuJ, pq_NuR, pq_shr6, pq_shr7, pq_shr8, lqm1, lq0, lq1] at *; (try simp (disch := omega) only [pq_bm] at *); all_goals omega)) (by focus (simp only [vp_in_iff, Int32.lt_iff_toInt_lt, Int32.le_iff_toInt_le, ← Int32.toInt_inj, Int32.toInt_add, Int32.toInt_sub, Int32.toInt_mul, Int32.toInt_neg, pq_NuO, pq_NuI, pq_NuJ, pq_NuR, pq_shr6, pq_shr7, pq_shr8, lqm1, lq0, lq1] at *; (try simp (disch := omega) only [pq_bm] at *); all_goals omega)))
  · skip
    refine pq_aload_n F dX1_textsOf_4 rfl rfl ?_
    refine pq_getI F htt (by decide) lk_X1_18 rfl dX1_textsOf_5 (fun x5 e5 l5 u5 => ?_)
    refine pq_if_eq (tgt := 15) F dX1_textsOf_8 (by decide) (fun c8 => ?_) (fun c8 => ?_)
    · skip
      refine pq_lconst (v := 0) F dX1_textsOf_15 (by decide) ?_
      exact pq_lret F hr hlk hA (Nat.le_refl _) (Nat.le_refl _) (⟨pq_Fr.rf, _, rfl⟩) dX1_textsOf_16
    · skip
      refine pq_lconst (v := 1) F dX1_textsOf_11 (by decide) ?_
      refine pq_goto (tgt := 16) F dX1_textsOf_12 (by decide) ?_
      exact pq_lret F hr hlk hA (Nat.le_refl _) (Nat.le_refl _) (⟨pq_Fr.rf, _, rfl⟩) dX1_textsOf_16

