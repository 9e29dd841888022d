/-! ===== an automaton's fields, bundled; P the states that are reached ===== -/
theorem pq_lt.two {f : Nat → Int32} {x y : Int32} {b : Int} (hx : x.toInt < b) (hy : y.toInt < b) : pq_lt (upd (upd f (0 : Int32).toNatClampNeg x) (1 : Int32).toNatClampNeg y) (2 : Int32).toInt b := fun i hi => by
  rw [show (2 : Int32).toInt = 2 from rfl] at hi
  rw [show (0 : Int32).toNatClampNeg = 0 from rfl, show (1 : Int32).toNatClampNeg = 1 from rfl]
  by_cases e : i = 1
  · rw [e, pk_us]; exact hy
  · rw [pk_un e, show i = 0 by omega, pk_us]; exact hx
theorem pq_lt.cpy {f g : Nat → Int32} {b : Int} (h : pq_lt f 128 b) : pq_lt (va_cpy f g (0 : Int32).toNatClampNeg (0 : Int32).toNatClampNeg (128 : Int32).toNatClampNeg) 128 b := fun i hi => by
  rw [show (0 : Int32).toNatClampNeg = 0 from rfl, show (128 : Int32).toNatClampNeg = 128 from rfl]
  unfold va_cpy
  rw [if_pos ⟨Nat.zero_le _, by omega⟩]
  have := h i hi
  rwa [show 0 + (i - 0) = i by omega]
/-- every row of n elements that begins at x * n, x in Q, has its elements in P -/
def pq_Cl (f : Nat → Int32) (Q P : Int32 → Prop) (n : Int) : Prop := ∀ x, Q x → ∀ i : Nat, x.toInt * n ≤ (i : Int) → (i : Int) < x.toInt * n + n → P (f i)
theorem pq_Cl.put {f : Nat → Int32} {Q P : Int32 → Prop} {n : Int} {k : Nat} {v : Int32} (h : pq_Cl f Q P n) (hv : P v) : pq_Cl (upd f k v) Q P n := fun x hx i h1 h2 => by
  by_cases e : i = k
  · rw [e, pk_us]; exact hv
  · rw [pk_un e]; exact h x hx i h1 h2
def pq_Au (S : HS) (t rk rs ko st : Nat) (n sn s0 : Int32) (P : Int32 → Prop) : Prop := (hO S t 0 = .ref ko ∧ pq_R S ko rk ∧ hO S t 3 = .ref st ∧ pq_R S st rs) ∧ (hO S t 4 = .int n ∧ hO S t 5 = .int sn ∧ hO S t 6 = .int s0) ∧ (1 ≤ n.toInt ∧ n.toInt ≤ 128 ∧ 1 ≤ sn.toInt ∧ sn.toInt ≤ 201) ∧ sn.toInt * n.toInt ≤ (hN S st : Int) ∧ pq_lt (hI S ko) 128 n.toInt ∧ (∀ x, P x → 0 ≤ x.toInt ∧ x.toInt < sn.toInt) ∧ P s0 ∧ pq_Cl (hI S st) P P n.toInt
section AU
variable {S S1 : HS} {t rk rs ko st : Nat} {n sn s0 : Int32} {P : Int32 → Prop}
theorem pq_Au.e0 (h : pq_Au S t rk rs ko st n sn s0 P) : hO S t 0 = .ref ko := h.1.1
theorem pq_Au.hk (h : pq_Au S t rk rs ko st n sn s0 P) : pq_R S ko rk := h.1.2.1
theorem pq_Au.e3 (h : pq_Au S t rk rs ko st n sn s0 P) : hO S t 3 = .ref st := h.1.2.2.1
theorem pq_Au.hs (h : pq_Au S t rk rs ko st n sn s0 P) : pq_R S st rs := h.1.2.2.2
theorem pq_Au.e4 (h : pq_Au S t rk rs ko st n sn s0 P) : hO S t 4 = .int n := h.2.1.1
theorem pq_Au.e5 (h : pq_Au S t rk rs ko st n sn s0 P) : hO S t 5 = .int sn := h.2.1.2.1
theorem pq_Au.e6 (h : pq_Au S t rk rs ko st n sn s0 P) : hO S t 6 = .int s0 := h.2.1.2.2
theorem pq_Au.b (h : pq_Au S t rk rs ko st n sn s0 P) : 1 ≤ n.toInt ∧ n.toInt ≤ 128 ∧ 1 ≤ sn.toInt ∧ sn.toInt ≤ 201 := h.2.2.1
theorem pq_Au.l (h : pq_Au S t rk rs ko st n sn s0 P) : sn.toInt * n.toInt ≤ (hN S st : Int) := h.2.2.2.1
theorem pq_Au.k (h : pq_Au S t rk rs ko st n sn s0 P) : pq_lt (hI S ko) 128 n.toInt := h.2.2.2.2.1
theorem pq_Au.p (h : pq_Au S t rk rs ko st n sn s0 P) {x : Int32} (hx : P x) : 0 ≤ x.toInt ∧ x.toInt < sn.toInt := h.2.2.2.2.2.1 x hx
theorem pq_Au.p0 (h : pq_Au S t rk rs ko st n sn s0 P) : P s0 := h.2.2.2.2.2.2.1
theorem pq_Au.c (h : pq_Au S t rk rs ko st n sn s0 P) : pq_Cl (hI S st) P P n.toInt := h.2.2.2.2.2.2.2
theorem pq_Au.fr {r : Nat} (h : pq_Au S t rk rs ko st n sn s0 P) (ht : pq_R S t r) (hr : r < 60) (h1 : 100 ≤ rk) (h2 : 100 ≤ rs) {M : List (Nat × Nat)} (hF : pq_Fr M S S1) (hM : ∀ q ∈ M, q ∉ [(r, 0), (r, 3), (r, 4), (r, 5), (r, 6), (rk, 0), (rs, 0)]) : pq_Au S1 t rk rs ko st n sn s0 P := by
  have nm : ∀ q, q ∈ [(r, 0), (r, 3), (r, 4), (r, 5), (r, 6), (rk, 0), (rs, 0)] → q ∉ M := fun q hq hm => hM q hm hq
  refine ⟨⟨hF.O ht hr (nm _ (by simp)) h.e0, hF.R h.hk (Or.inr h1), hF.O ht hr (nm _ (by simp)) h.e3, hF.R h.hs (Or.inr h2)⟩, ⟨hF.O ht hr (nm _ (by simp)) h.e4, hF.O ht hr (nm _ (by simp)) h.e5, hF.O ht hr (nm _ (by simp)) h.e6⟩, h.b, ?_, ?_, h.2.2.2.2.2.1, h.p0, ?_⟩
  · rw [(hF.1 st rs h.hs (Or.inr h2)).2]; exact h.l
  · rw [hF.I h.hk h1 (nm _ (by simp))]; exact h.k
  · rw [hF.I h.hs h2 (nm _ (by simp))]; exact h.c
end AU

set_option maxHeartbeats 4000000 in
set_option maxRecDepth 100000 in
theorem k_X0_stepOfA (l : Launch) (D : va_G) (cy : Nat → ClassId) (S : HS) (a : Nat) (ha : pq_R S a 3) (sv : Int32) (bv : Int32) (hbv0 : 0 ≤ bv.toInt) (hbv1 : bv.toInt ≤ 127) (ko st : Nat) (n sn s0 : Int32) (Pr : Int32 → Prop) (hA1 : pq_Au S a 150 152 ko st n sn s0 Pr) (hPs : Pr sv) : pq_C l D cy yX0_stepOf cX0_stepOf 3 (some .int) 1 0 0 S [.ref a, .int sv, .int bv] (fun v S2 => S2 = S ∧ ∃ x : Int32, v = some (.int x) ∧ 0 ≤ x.toInt ∧ x.toInt ≤ 200 ∧ (Pr x ∧ x.toInt < sn.toInt)) := by
  refine pq_start (by decide) (Nat.le_of_ble_eq_true rfl) ?_
  intro p e s m args below meth c A F hr hlk hnm hA
  have lqm1 : (-1 : Int32).toInt = -1 := rfl
  have lq0 : (0 : Int32).toInt = 0 := rfl
  have lq1 : (1 : Int32).toInt = 1 := rfl
  have hab := hA1.b
  have hal := hA1.l
  have hsp := hA1.p hPs
  obtain ⟨q1, q2, q3, q4⟩ := pq_mb (x := sv.toInt) (y := n.toInt) (A := 200) (B := 128) (by focus ((try clear hA1); (try clear hPs); simp only [vp_in_iff, Int32.lt_iff_toInt_lt, Int32.le_iff_toInt_le, ← Int32.toInt_inj, Int32.toInt_add, Int32.toInt_sub, Int32.toInt_mul, Int32.toInt_neg, pq_NuO, pq_NuI, pq_NuJ, pq_NuR, pq_shr6, pq_shr7, pq_shr8, lqm1, lq0, lq1] at *; (try simp (disch := omega) only [pq_bm] at *); all_goals omega)) (by focus ((try clear hA1); (try clear hPs); simp only [vp_in_iff, Int32.lt_iff_toInt_lt, Int32.le_iff_toInt_le, ← Int32.toInt_inj, Int32.toInt_add, Int32.toInt_sub, Int32.toInt_mul, Int32.toInt_neg, pq_NuO, pq_NuI, pq_NuJ, pq_NuR, pq_shr6, pq_shr7, pq_shr8, lqm1, lq0, lq1] at *; (try simp (disch := omega) only [pq_bm] at *); all_goals omega)) (by focus ((try clear hA1); (try clear hPs); simp only [vp_in_iff, Int32.lt_iff_toInt_lt, Int32.le_iff_toInt_le, ← Int32.toInt_inj, Int32.toInt_add, Int32.toInt_sub, Int32.toInt_mul, Int32.toInt_neg, pq_NuO, pq_NuI, pq_NuJ, pq_NuR, pq_shr6, pq_shr7, pq_shr8, lqm1, lq0, lq1] at *; (try simp (disch := omega) only [pq_bm] at *); all_goals omega)) (by focus ((try clear hA1); (try clear hPs); simp only [vp_in_iff, Int32.lt_iff_toInt_lt, Int32.le_iff_toInt_le, ← Int32.toInt_inj, Int32.toInt_add, Int32.toInt_sub, Int32.toInt_mul, Int32.toInt_neg, pq_NuO, pq_NuI, pq_NuJ, pq_NuR, pq_shr6, pq_shr7, pq_shr8, lqm1, lq0, lq1] at *; (try simp (disch := omega) only [pq_bm] at *); all_goals omega))
  have q5 := pq_mn (x := sv.toInt) (y := n.toInt) (A := sn.toInt) (by focus ((try clear hA1); (try clear hPs); simp only [vp_in_iff, Int32.lt_iff_toInt_lt, Int32.le_iff_toInt_le, ← Int32.toInt_inj, Int32.toInt_add, Int32.toInt_sub, Int32.toInt_mul, Int32.toInt_neg, pq_NuO, pq_NuI, pq_NuJ, pq_NuR, pq_shr6, pq_shr7, pq_shr8, lqm1, lq0, lq1] at *; (try simp (disch := omega) only [pq_bm] at *); all_goals omega)) (by focus ((try clear hA1); (try clear hPs); simp only [vp_in_iff, Int32.lt_iff_toInt_lt, Int32.le_iff_toInt_le, ← Int32.toInt_inj, Int32.toInt_add, Int32.toInt_sub, Int32.toInt_mul, Int32.toInt_neg, pq_NuO, pq_NuI, pq_NuJ, pq_NuR, pq_shr6, pq_shr7, pq_shr8, lqm1, lq0, lq1] at *; (try simp (disch := omega) only [pq_bm] at *); all_goals omega))
  refine pq_aload_n F dX0_stepOf_0 rfl rfl ?_
  refine pq_get F ha (by decide) lk_X0_24 hA1.e3 dX0_stepOf_1 ?_
  refine pq_iload_n F dX0_stepOf_4 rfl rfl ?_
  refine pq_aload_n F dX0_stepOf_5 rfl rfl ?_
  refine pq_get F ha (by decide) lk_X0_27 hA1.e4 dX0_stepOf_6 ?_
  refine pq_imul F dX0_stepOf_9 ?_
  refine pq_aload_n F dX0_stepOf_10 rfl rfl ?_
  refine pq_get F ha (by decide) lk_X0_9 hA1.e0 dX0_stepOf_11 ?_
  refine pq_iload_n F dX0_stepOf_14 rfl rfl ?_
  refine pq_iald F hA1.hk (by decide) (by decide) rfl (fun n1_15 n2_15 => (by focus ((try clear hA1); (try clear hPs); simp only [vp_in_iff, Int32.lt_iff_toInt_lt, Int32.le_iff_toInt_le, ← Int32.toInt_inj, Int32.toInt_add, Int32.toInt_sub, Int32.toInt_mul, Int32.toInt_neg, pq_NuO, pq_NuI, pq_NuJ, pq_NuR, pq_shr6, pq_shr7, pq_shr8, lqm1, lq0, lq1] at *; (try simp (disch := omega) only [pq_bm] at *); all_goals omega))) dX0_stepOf_15 (fun x15 e15 l15 u15 => ?_)
  have hkb : x15.toInt < n.toInt := (by rw [e15]; exact hA1.k _ (by have := pq_cl (x := bv) (by focus ((try clear hA1); (try clear hPs); simp only [vp_in_iff, Int32.lt_iff_toInt_lt, Int32.le_iff_toInt_le, ← Int32.toInt_inj, Int32.toInt_add, Int32.toInt_sub, Int32.toInt_mul, Int32.toInt_neg, pq_NuO, pq_NuI, pq_NuJ, pq_NuR, pq_shr6, pq_shr7, pq_shr8, lqm1, lq0, lq1] at *; (try simp (disch := omega) only [pq_bm] at *); all_goals omega)); focus ((try clear hA1); (try clear hPs); simp only [vp_in_iff, Int32.lt_iff_toInt_lt, Int32.le_iff_toInt_le, ← Int32.toInt_inj, Int32.toInt_add, Int32.toInt_sub, Int32.toInt_mul, Int32.toInt_neg, pq_NuO, pq_NuI, pq_NuJ, pq_NuR, pq_shr6, pq_shr7, pq_shr8, lqm1, lq0, lq1] at *; (try simp (disch := omega) only [pq_bm] at *); all_goals omega)))
  refine pq_iadd F dX0_stepOf_16 ?_
  refine pq_iald F hA1.hs (by decide) (by decide) rfl (fun n1_17 n2_17 => (by focus ((try clear hA1); (try clear hPs); simp only [vp_in_iff, Int32.lt_iff_toInt_lt, Int32.le_iff_toInt_le, ← Int32.toInt_inj, Int32.toInt_add, Int32.toInt_sub, Int32.toInt_mul, Int32.toInt_neg, pq_NuO, pq_NuI, pq_NuJ, pq_NuR, pq_shr6, pq_shr7, pq_shr8, lqm1, lq0, lq1] at *; (try simp (disch := omega) only [pq_bm] at *); all_goals omega))) dX0_stepOf_17 (fun x17 e17 l17 u17 => ?_)
  exact pq_iret F hr hlk hA (Nat.le_refl _) (Nat.le_refl _) ((by have hP : Pr x17 := (by rw [e17]; exact hA1.c sv hPs _ (by rw [pq_cl (by focus ((try clear hA1); (try clear hPs); simp only [vp_in_iff, Int32.lt_iff_toInt_lt, Int32.le_iff_toInt_le, ← Int32.toInt_inj, Int32.toInt_add, Int32.toInt_sub, Int32.toInt_mul, Int32.toInt_neg, pq_NuO, pq_NuI, pq_NuJ, pq_NuR, pq_shr6, pq_shr7, pq_shr8, lqm1, lq0, lq1] at *; (try simp (disch := omega) only [pq_bm] at *); all_goals omega))]; focus ((try clear hA1); (try clear hPs); simp only [vp_in_iff, Int32.lt_iff_toInt_lt, Int32.le_iff_toInt_le, ← Int32.toInt_inj, Int32.toInt_add, Int32.toInt_sub, Int32.toInt_mul, Int32.toInt_neg, pq_NuO, pq_NuI, pq_NuJ, pq_NuR, pq_shr6, pq_shr7, pq_shr8, lqm1, lq0, lq1] at *; (try simp (disch := omega) only [pq_bm] at *); all_goals omega)) (by rw [pq_cl (by focus ((try clear hA1); (try clear hPs); simp only [vp_in_iff, Int32.lt_iff_toInt_lt, Int32.le_iff_toInt_le, ← Int32.toInt_inj, Int32.toInt_add, Int32.toInt_sub, Int32.toInt_mul, Int32.toInt_neg, pq_NuO, pq_NuI, pq_NuJ, pq_NuR, pq_shr6, pq_shr7, pq_shr8, lqm1, lq0, lq1] at *; (try simp (disch := omega) only [pq_bm] at *); all_goals omega))]; focus ((try clear hA1); (try clear hPs); simp only [vp_in_iff, Int32.lt_iff_toInt_lt, Int32.le_iff_toInt_le, ← Int32.toInt_inj, Int32.toInt_add, Int32.toInt_sub, Int32.toInt_mul, Int32.toInt_neg, pq_NuO, pq_NuI, pq_NuJ, pq_NuR, pq_shr6, pq_shr7, pq_shr8, lqm1, lq0, lq1] at *; (try simp (disch := omega) only [pq_bm] at *); all_goals omega))); exact ⟨rfl, _, rfl, (by focus ((try clear hA1); (try clear hPs); simp only [vp_in_iff, Int32.lt_iff_toInt_lt, Int32.le_iff_toInt_le, ← Int32.toInt_inj, Int32.toInt_add, Int32.toInt_sub, Int32.toInt_mul, Int32.toInt_neg, pq_NuO, pq_NuI, pq_NuJ, pq_NuR, pq_shr6, pq_shr7, pq_shr8, lqm1, lq0, lq1] at *; (try simp (disch := omega) only [pq_bm] at *); all_goals omega)), (by focus ((try clear hA1); (try clear hPs); simp only [vp_in_iff, Int32.lt_iff_toInt_lt, Int32.le_iff_toInt_le, ← Int32.toInt_inj, Int32.toInt_add, Int32.toInt_sub, Int32.toInt_mul, Int32.toInt_neg, pq_NuO, pq_NuI, pq_NuJ, pq_NuR, pq_shr6, pq_shr7, pq_shr8, lqm1, lq0, lq1] at *; (try simp (disch := omega) only [pq_bm] at *); all_goals omega)), hP, (hA1.p hP).2⟩)) dX0_stepOf_18

set_option maxHeartbeats 4000000 in
set_option maxRecDepth 100000 in
theorem k_X0_hasTextA (l : Launch) (D : va_G) (cy : Nat → ClassId) (S : HS) (a : Nat) (ha : pq_R S a 3) (tp : Nat) (htp : pq_R S tp 12) (ko st : Nat) (n sn s0 : Int32) (Pr : Int32 → Prop) (hA1 : pq_Au S a 150 152 ko st n sn s0 Pr) : pq_C l D cy yX0_hasText cX0_hasText 5 (some .boolean) 2 0 0 S [.ref a, .ref tp] (fun v S2 => S2 = S ∧ ∃ x : Int32, v = some (.int x) ∧ 0 ≤ x.toInt ∧ x.toInt ≤ 1) := by
  refine pq_start (by decide) (Nat.le_of_ble_eq_true rfl) ?_
  intro p e s m args below meth c A F hr hlk hnm hA
  have lqm1 : (-1 : Int32).toInt = -1 := rfl
  have lq0 : (0 : Int32).toInt = 0 := rfl
  have lq1 : (1 : Int32).toInt = 1 := rfl
  have lq128 : (128 : Int32).toInt = 128 := rfl
  have hab := hA1.b
  have hal := hA1.l
  have L19 : ∀  (fu : Nat)  (sv : Int32) (k : Int32)  (hPv : Pr sv) (hk0 : 0 ≤ k.toInt) (hk1 : k.toInt ≤ 2048), (2048 - k.toInt).toNat < fu → pq_At p l e (pq_rm 2 0 0) s m args below meth c (pq_Z below args s D cy S 0 0 (fun v S2 => S2 = S ∧ ∃ x : Int32, v = some (.int x) ∧ 0 ≤ x.toInt ∧ x.toInt ≤ 1)) D cy A 5 0 0 19 S [some (.ref a), some (.ref tp), some (.int sv), some (.int k), none] [] := by
    intro  fu
    induction fu with
    | zero => intro sv k hPv hk0 hk1 hm; exact absurd hm (Nat.not_lt_zero _)
    | succ fu ih =>
      intro sv k hPv hk0 hk1 hm
      have hsv := hA1.p hPv
      refine pq_iload_n F dX0_hasText_19 rfl rfl ?_
      refine pq_aload_n F dX0_hasText_20 rfl rfl ?_
      refine pq_getI F htp (by decide) lk_X0_58 rfl dX0_hasText_21 (fun x21 e21 l21 u21 => ?_)
      refine pq_icmp_ge (tgt := 63) F dX0_hasText_24 (by decide) (fun c24 => ?_) (fun c24 => ?_)
      · skip
        refine pq_aload_n F dX0_hasText_63 rfl rfl ?_
        refine pq_getR F ha (by decide) lk_X0_20 rfl dX0_hasText_64 (fun r64 e64 h64 => ?_)
        refine pq_iload_n F dX0_hasText_67 rfl rfl ?_
        refine pq_zald F h64 (by decide) (by decide) rfl (fun n1_68 n2_68 => (by focus ((try clear hA1); (try clear hPs); (try clear p53); (try clear p29); (try clear hPv); simp only [vp_in_iff, Int32.lt_iff_toInt_lt, Int32.le_iff_toInt_le, ← Int32.toInt_inj, Int32.toInt_add, Int32.toInt_sub, Int32.toInt_mul, Int32.toInt_neg, pq_NuO, pq_NuI, pq_NuJ, pq_NuR, pq_shr6, pq_shr7, pq_shr8, lqm1, lq0, lq1, lq128] at *; (try simp (disch := omega) only [pq_bm] at *); all_goals omega))) dX0_hasText_68 (fun x68 e68 l68 u68 => ?_)
        exact pq_zret F hr hlk hA (pq_bz (by focus ((try clear hA1); (try clear hPs); (try clear p53); (try clear p29); (try clear hPv); simp only [vp_in_iff, Int32.lt_iff_toInt_lt, Int32.le_iff_toInt_le, ← Int32.toInt_inj, Int32.toInt_add, Int32.toInt_sub, Int32.toInt_mul, Int32.toInt_neg, pq_NuO, pq_NuI, pq_NuJ, pq_NuR, pq_shr6, pq_shr7, pq_shr8, lqm1, lq0, lq1, lq128] at *; (try simp (disch := omega) only [pq_bm] at *); all_goals omega)) (by focus ((try clear hA1); (try clear hPs); (try clear p53); (try clear p29); (try clear hPv); simp only [vp_in_iff, Int32.lt_iff_toInt_lt, Int32.le_iff_toInt_le, ← Int32.toInt_inj, Int32.toInt_add, Int32.toInt_sub, Int32.toInt_mul, Int32.toInt_neg, pq_NuO, pq_NuI, pq_NuJ, pq_NuR, pq_shr6, pq_shr7, pq_shr8, lqm1, lq0, lq1, lq128] at *; (try simp (disch := omega) only [pq_bm] at *); all_goals omega))).1 (Nat.le_refl _) (Nat.le_refl _) (⟨rfl, _, rfl, (by focus ((try clear hA1); (try clear hPs); (try clear p53); (try clear p29); (try clear hPv); simp only [vp_in_iff, Int32.lt_iff_toInt_lt, Int32.le_iff_toInt_le, ← Int32.toInt_inj, Int32.toInt_add, Int32.toInt_sub, Int32.toInt_mul, Int32.toInt_neg, pq_NuO, pq_NuI, pq_NuJ, pq_NuR, pq_shr6, pq_shr7, pq_shr8, lqm1, lq0, lq1, lq128] at *; (try simp (disch := omega) only [pq_bm] at *); all_goals omega)), (by focus ((try clear hA1); (try clear hPs); (try clear p53); (try clear p29); (try clear hPv); simp only [vp_in_iff, Int32.lt_iff_toInt_lt, Int32.le_iff_toInt_le, ← Int32.toInt_inj, Int32.toInt_add, Int32.toInt_sub, Int32.toInt_mul, Int32.toInt_neg, pq_NuO, pq_NuI, pq_NuJ, pq_NuR, pq_shr6, pq_shr7, pq_shr8, lqm1, lq0, lq1, lq128] at *; (try simp (disch := omega) only [pq_bm] at *); all_goals omega))⟩) dX0_hasText_69
      · skip
        refine pq_aload_n F dX0_hasText_27 rfl rfl ?_
        refine pq_iload_n F dX0_hasText_28 rfl rfl ?_
        refine pq_callV (As := [_]) F (k_X9_byteAt l D cy _ _ ?_ _) ml_X0_63 htp (by decide) rfl (Nat.le_of_ble_eq_true rfl) ⟨Nat.le_of_ble_eq_true rfl, Nat.le_of_ble_eq_true rfl⟩ ⟨by decide, by decide⟩ dX0_hasText_29 (fun v29 S29 w29 => ?_)
        · exact htp
        obtain ⟨u29, y29, rfl, yl29_0, yl29_1, p29⟩ := w29
        rw [u29]
        try rw [u29] at p29
        refine pq_istore F dX0_hasText_32 (by decide) ?_
        refine pq_iload F dX0_hasText_34 rfl ?_
        refine pq_if_lt (tgt := 47) F dX0_hasText_36 (by decide) (fun c36 => ?_) (fun c36 => ?_)
        · skip
          refine pq_iconst (v := 0) F dX0_hasText_47 (by decide) ?_
          exact pq_zret F hr hlk hA rfl (Nat.le_refl _) (Nat.le_refl _) (⟨rfl, _, rfl, (by focus ((try clear hA1); (try clear hPs); (try clear p53); (try clear p29); (try clear hPv); simp only [vp_in_iff, Int32.lt_iff_toInt_lt, Int32.le_iff_toInt_le, ← Int32.toInt_inj, Int32.toInt_add, Int32.toInt_sub, Int32.toInt_mul, Int32.toInt_neg, pq_NuO, pq_NuI, pq_NuJ, pq_NuR, pq_shr6, pq_shr7, pq_shr8, lqm1, lq0, lq1, lq128] at *; (try simp (disch := omega) only [pq_bm] at *); all_goals omega)), (by focus ((try clear hA1); (try clear hPs); (try clear p53); (try clear p29); (try clear hPv); simp only [vp_in_iff, Int32.lt_iff_toInt_lt, Int32.le_iff_toInt_le, ← Int32.toInt_inj, Int32.toInt_add, Int32.toInt_sub, Int32.toInt_mul, Int32.toInt_neg, pq_NuO, pq_NuI, pq_NuJ, pq_NuR, pq_shr6, pq_shr7, pq_shr8, lqm1, lq0, lq1, lq128] at *; (try simp (disch := omega) only [pq_bm] at *); all_goals omega))⟩) dX0_hasText_48
        · skip
          refine pq_iload F dX0_hasText_39 rfl ?_
          refine pq_sipush (v := 128) F dX0_hasText_41 (by decide) ?_
          refine pq_icmp_lt (tgt := 49) F dX0_hasText_44 (by decide) (fun c44 => ?_) (fun c44 => ?_)
          · skip
            refine pq_aload_n F dX0_hasText_49 rfl rfl ?_
            refine pq_iload_n F dX0_hasText_50 rfl rfl ?_
            refine pq_iload F dX0_hasText_51 rfl ?_
            refine pq_callV (As := [_, _]) F (k_X0_stepOfA l D cy _ _ ?_ _ _ ?_ ?_ ko st n sn s0 Pr hA1 hPv) ml_X0_67 ha (by decide) rfl (Nat.le_of_ble_eq_true rfl) ⟨Nat.le_of_ble_eq_true rfl, Nat.le_of_ble_eq_true rfl⟩ ⟨by decide, by decide⟩ dX0_hasText_53 (fun v53 S53 w53 => ?_)
            · exact ha
            · focus ((try clear hA1); (try clear hPs); (try clear p53); (try clear p29); (try clear hPv); simp only [vp_in_iff, Int32.lt_iff_toInt_lt, Int32.le_iff_toInt_le, ← Int32.toInt_inj, Int32.toInt_add, Int32.toInt_sub, Int32.toInt_mul, Int32.toInt_neg, pq_NuO, pq_NuI, pq_NuJ, pq_NuR, pq_shr6, pq_shr7, pq_shr8, lqm1, lq0, lq1, lq128] at *; (try simp (disch := omega) only [pq_bm] at *); all_goals omega)
            · focus ((try clear hA1); (try clear hPs); (try clear p53); (try clear p29); (try clear hPv); simp only [vp_in_iff, Int32.lt_iff_toInt_lt, Int32.le_iff_toInt_le, ← Int32.toInt_inj, Int32.toInt_add, Int32.toInt_sub, Int32.toInt_mul, Int32.toInt_neg, pq_NuO, pq_NuI, pq_NuJ, pq_NuR, pq_shr6, pq_shr7, pq_shr8, lqm1, lq0, lq1, lq128] at *; (try simp (disch := omega) only [pq_bm] at *); all_goals omega)
            obtain ⟨u53, y53, rfl, yl53_0, yl53_1, p53⟩ := w53
            rw [u53]
            try rw [u53] at p53
            refine pq_istore_n F dX0_hasText_56 rfl (by decide) ?_
            refine pq_iinc (v := 1) F dX0_hasText_57 rfl (by decide) (by decide) ?_
            refine pq_goto (tgt := 19) F dX0_hasText_60 (by decide) ?_
            exact pq_fgm [true, true, true, true, false] (ih _ _ p53.1 (by focus ((try clear hA1); (try clear hPs); (try clear p53); (try clear p29); (try clear hPv); simp only [vp_in_iff, Int32.lt_iff_toInt_lt, Int32.le_iff_toInt_le, ← Int32.toInt_inj, Int32.toInt_add, Int32.toInt_sub, Int32.toInt_mul, Int32.toInt_neg, pq_NuO, pq_NuI, pq_NuJ, pq_NuR, pq_shr6, pq_shr7, pq_shr8, lqm1, lq0, lq1, lq128] at *; (try simp (disch := omega) only [pq_bm] at *); all_goals omega)) (by focus ((try clear hA1); (try clear hPs); (try clear p53); (try clear p29); (try clear hPv); simp only [vp_in_iff, Int32.lt_iff_toInt_lt, Int32.le_iff_toInt_le, ← Int32.toInt_inj, Int32.toInt_add, Int32.toInt_sub, Int32.toInt_mul, Int32.toInt_neg, pq_NuO, pq_NuI, pq_NuJ, pq_NuR, pq_shr6, pq_shr7, pq_shr8, lqm1, lq0, lq1, lq128] at *; (try simp (disch := omega) only [pq_bm] at *); all_goals omega)) (by focus ((try clear hA1); (try clear hPs); (try clear p53); (try clear p29); (try clear hPv); simp only [vp_in_iff, Int32.lt_iff_toInt_lt, Int32.le_iff_toInt_le, ← Int32.toInt_inj, Int32.toInt_add, Int32.toInt_sub, Int32.toInt_mul, Int32.toInt_neg, pq_NuO, pq_NuI, pq_NuJ, pq_NuR, pq_shr6, pq_shr7, pq_shr8, lqm1, lq0, lq1, lq128] at *; (try simp (disch := omega) only [pq_bm] at *); all_goals omega)))
          · skip
            refine pq_iconst (v := 0) F dX0_hasText_47 (by decide) ?_
            exact pq_zret F hr hlk hA rfl (Nat.le_refl _) (Nat.le_refl _) (⟨rfl, _, rfl, (by focus ((try clear hA1); (try clear hPs); (try clear p53); (try clear p29); (try clear hPv); simp only [vp_in_iff, Int32.lt_iff_toInt_lt, Int32.le_iff_toInt_le, ← Int32.toInt_inj, Int32.toInt_add, Int32.toInt_sub, Int32.toInt_mul, Int32.toInt_neg, pq_NuO, pq_NuI, pq_NuJ, pq_NuR, pq_shr6, pq_shr7, pq_shr8, lqm1, lq0, lq1, lq128] at *; (try simp (disch := omega) only [pq_bm] at *); all_goals omega)), (by focus ((try clear hA1); (try clear hPs); (try clear p53); (try clear p29); (try clear hPv); simp only [vp_in_iff, Int32.lt_iff_toInt_lt, Int32.le_iff_toInt_le, ← Int32.toInt_inj, Int32.toInt_add, Int32.toInt_sub, Int32.toInt_mul, Int32.toInt_neg, pq_NuO, pq_NuI, pq_NuJ, pq_NuR, pq_shr6, pq_shr7, pq_shr8, lqm1, lq0, lq1, lq128] at *; (try simp (disch := omega) only [pq_bm] at *); all_goals omega))⟩) dX0_hasText_48
  refine pq_aload_n F dX0_hasText_0 rfl rfl ?_
  refine pq_getI F htp (by decide) lk_X0_58 rfl dX0_hasText_1 (fun x1 e1 l1 u1 => ?_)
  refine pq_if_ne (tgt := 12) F dX0_hasText_4 (by decide) (fun c4 => ?_) (fun c4 => ?_)
  · skip
    refine pq_aload_n F dX0_hasText_12 rfl rfl ?_
    refine pq_get F ha (by decide) lk_X0_34 hA1.e6 dX0_hasText_13 ?_
    refine pq_istore_n F dX0_hasText_16 rfl (by decide) ?_
    refine pq_iconst (v := 0) F dX0_hasText_17 (by decide) ?_
    refine pq_istore_n F dX0_hasText_18 rfl (by decide) ?_
    exact pq_fgm [true, true, true, true, false] (L19  100000 _ _  hA1.p0 (by focus ((try clear hA1); (try clear hPs); (try clear p53); (try clear p29); (try clear hPv); simp only [vp_in_iff, Int32.lt_iff_toInt_lt, Int32.le_iff_toInt_le, ← Int32.toInt_inj, Int32.toInt_add, Int32.toInt_sub, Int32.toInt_mul, Int32.toInt_neg, pq_NuO, pq_NuI, pq_NuJ, pq_NuR, pq_shr6, pq_shr7, pq_shr8, lqm1, lq0, lq1, lq128] at *; (try simp (disch := omega) only [pq_bm] at *); all_goals omega)) (by focus ((try clear hA1); (try clear hPs); (try clear p53); (try clear p29); (try clear hPv); simp only [vp_in_iff, Int32.lt_iff_toInt_lt, Int32.le_iff_toInt_le, ← Int32.toInt_inj, Int32.toInt_add, Int32.toInt_sub, Int32.toInt_mul, Int32.toInt_neg, pq_NuO, pq_NuI, pq_NuJ, pq_NuR, pq_shr6, pq_shr7, pq_shr8, lqm1, lq0, lq1, lq128] at *; (try simp (disch := omega) only [pq_bm] at *); all_goals omega)) (by focus ((try clear hA1); (try clear hPs); (try clear p53); (try clear p29); (try clear hPv); simp only [vp_in_iff, Int32.lt_iff_toInt_lt, Int32.le_iff_toInt_le, ← Int32.toInt_inj, Int32.toInt_add, Int32.toInt_sub, Int32.toInt_mul, Int32.toInt_neg, pq_NuO, pq_NuI, pq_NuJ, pq_NuR, pq_shr6, pq_shr7, pq_shr8, lqm1, lq0, lq1, lq128] at *; (try simp (disch := omega) only [pq_bm] at *); all_goals omega)))
  · skip
    refine pq_aload_n F dX0_hasText_7 rfl rfl ?_
    refine pq_getI F ha (by decide) lk_X0_37 rfl dX0_hasText_8 (fun x8 e8 l8 u8 => ?_)
    exact pq_zret F hr hlk hA (pq_bz (by focus ((try clear hA1); (try clear hPs); (try clear p53); (try clear p29); (try clear hPv); simp only [vp_in_iff, Int32.lt_iff_toInt_lt, Int32.le_iff_toInt_le, ← Int32.toInt_inj, Int32.toInt_add, Int32.toInt_sub, Int32.toInt_mul, Int32.toInt_neg, pq_NuO, pq_NuI, pq_NuJ, pq_NuR, pq_shr6, pq_shr7, pq_shr8, lqm1, lq0, lq1, lq128] at *; (try simp (disch := omega) only [pq_bm] at *); all_goals omega)) (by focus ((try clear hA1); (try clear hPs); (try clear p53); (try clear p29); (try clear hPv); simp only [vp_in_iff, Int32.lt_iff_toInt_lt, Int32.le_iff_toInt_le, ← Int32.toInt_inj, Int32.toInt_add, Int32.toInt_sub, Int32.toInt_mul, Int32.toInt_neg, pq_NuO, pq_NuI, pq_NuJ, pq_NuR, pq_shr6, pq_shr7, pq_shr8, lqm1, lq0, lq1, lq128] at *; (try simp (disch := omega) only [pq_bm] at *); all_goals omega))).1 (Nat.le_refl _) (Nat.le_refl _) (⟨rfl, _, rfl, (by focus ((try clear hA1); (try clear hPs); (try clear p53); (try clear p29); (try clear hPv); simp only [vp_in_iff, Int32.lt_iff_toInt_lt, Int32.le_iff_toInt_le, ← Int32.toInt_inj, Int32.toInt_add, Int32.toInt_sub, Int32.toInt_mul, Int32.toInt_neg, pq_NuO, pq_NuI, pq_NuJ, pq_NuR, pq_shr6, pq_shr7, pq_shr8, lqm1, lq0, lq1, lq128] at *; (try simp (disch := omega) only [pq_bm] at *); all_goals omega)), (by focus ((try clear hA1); (try clear hPs); (try clear p53); (try clear p29); (try clear hPv); simp only [vp_in_iff, Int32.lt_iff_toInt_lt, Int32.le_iff_toInt_le, ← Int32.toInt_inj, Int32.toInt_add, Int32.toInt_sub, Int32.toInt_mul, Int32.toInt_neg, pq_NuO, pq_NuI, pq_NuJ, pq_NuR, pq_shr6, pq_shr7, pq_shr8, lqm1, lq0, lq1, lq128] at *; (try simp (disch := omega) only [pq_bm] at *); all_goals omega))⟩) dX0_hasText_11

set_option maxHeartbeats 4000000 in
set_option maxRecDepth 100000 in
theorem k_X0_stepOfB (l : Launch) (D : va_G) (cy : Nat → ClassId) (S : HS) (a : Nat) (ha : pq_R S a 33) (sv : Int32) (bv : Int32) (hbv0 : 0 ≤ bv.toInt) (hbv1 : bv.toInt ≤ 127) (ko st : Nat) (n sn s0 : Int32) (Pr : Int32 → Prop) (hA1 : pq_Au S a 153 155 ko st n sn s0 Pr) (hPs : Pr sv) : pq_C l D cy yX0_stepOf cX0_stepOf 3 (some .int) 1 0 0 S [.ref a, .int sv, .int bv] (fun v S2 => S2 = S ∧ ∃ x : Int32, v = some (.int x) ∧ 0 ≤ x.toInt ∧ x.toInt ≤ 200 ∧ (Pr x ∧ x.toInt < sn.toInt)) := by
  refine pq_start (by decide) (Nat.le_of_ble_eq_true rfl) ?_
  intro p e s m args below meth c A F hr hlk hnm hA
  have lqm1 : (-1 : Int32).toInt = -1 := rfl
  have lq0 : (0 : Int32).toInt = 0 := rfl
  have lq1 : (1 : Int32).toInt = 1 := rfl
  have hab := hA1.b
  have hal := hA1.l
  have hsp := hA1.p hPs
  obtain ⟨q1, q2, q3, q4⟩ := pq_mb (x := sv.toInt) (y := n.toInt) (A := 200) (B := 128) (by focus ((try clear hA1); (try clear hPs); simp only [vp_in_iff, Int32.lt_iff_toInt_lt, Int32.le_iff_toInt_le, ← Int32.toInt_inj, Int32.toInt_add, Int32.toInt_sub, Int32.toInt_mul, Int32.toInt_neg, pq_NuO, pq_NuI, pq_NuJ, pq_NuR, pq_shr6, pq_shr7, pq_shr8, lqm1, lq0, lq1] at *; (try simp (disch := omega) only [pq_bm] at *); all_goals omega)) (by focus ((try clear hA1); (try clear hPs); simp only [vp_in_iff, Int32.lt_iff_toInt_lt, Int32.le_iff_toInt_le, ← Int32.toInt_inj, Int32.toInt_add, Int32.toInt_sub, Int32.toInt_mul, Int32.toInt_neg, pq_NuO, pq_NuI, pq_NuJ, pq_NuR, pq_shr6, pq_shr7, pq_shr8, lqm1, lq0, lq1] at *; (try simp (disch := omega) only [pq_bm] at *); all_goals omega)) (by focus ((try clear hA1); (try clear hPs); simp only [vp_in_iff, Int32.lt_iff_toInt_lt, Int32.le_iff_toInt_le, ← Int32.toInt_inj, Int32.toInt_add, Int32.toInt_sub, Int32.toInt_mul, Int32.toInt_neg, pq_NuO, pq_NuI, pq_NuJ, pq_NuR, pq_shr6, pq_shr7, pq_shr8, lqm1, lq0, lq1] at *; (try simp (disch := omega) only [pq_bm] at *); all_goals omega)) (by focus ((try clear hA1); (try clear hPs); simp only [vp_in_iff, Int32.lt_iff_toInt_lt, Int32.le_iff_toInt_le, ← Int32.toInt_inj, Int32.toInt_add, Int32.toInt_sub, Int32.toInt_mul, Int32.toInt_neg, pq_NuO, pq_NuI, pq_NuJ, pq_NuR, pq_shr6, pq_shr7, pq_shr8, lqm1, lq0, lq1] at *; (try simp (disch := omega) only [pq_bm] at *); all_goals omega))
  have q5 := pq_mn (x := sv.toInt) (y := n.toInt) (A := sn.toInt) (by focus ((try clear hA1); (try clear hPs); simp only [vp_in_iff, Int32.lt_iff_toInt_lt, Int32.le_iff_toInt_le, ← Int32.toInt_inj, Int32.toInt_add, Int32.toInt_sub, Int32.toInt_mul, Int32.toInt_neg, pq_NuO, pq_NuI, pq_NuJ, pq_NuR, pq_shr6, pq_shr7, pq_shr8, lqm1, lq0, lq1] at *; (try simp (disch := omega) only [pq_bm] at *); all_goals omega)) (by focus ((try clear hA1); (try clear hPs); simp only [vp_in_iff, Int32.lt_iff_toInt_lt, Int32.le_iff_toInt_le, ← Int32.toInt_inj, Int32.toInt_add, Int32.toInt_sub, Int32.toInt_mul, Int32.toInt_neg, pq_NuO, pq_NuI, pq_NuJ, pq_NuR, pq_shr6, pq_shr7, pq_shr8, lqm1, lq0, lq1] at *; (try simp (disch := omega) only [pq_bm] at *); all_goals omega))
  refine pq_aload_n F dX0_stepOf_0 rfl rfl ?_
  refine pq_get F ha (by decide) lk_X0_24 hA1.e3 dX0_stepOf_1 ?_
  refine pq_iload_n F dX0_stepOf_4 rfl rfl ?_
  refine pq_aload_n F dX0_stepOf_5 rfl rfl ?_
  refine pq_get F ha (by decide) lk_X0_27 hA1.e4 dX0_stepOf_6 ?_
  refine pq_imul F dX0_stepOf_9 ?_
  refine pq_aload_n F dX0_stepOf_10 rfl rfl ?_
  refine pq_get F ha (by decide) lk_X0_9 hA1.e0 dX0_stepOf_11 ?_
  refine pq_iload_n F dX0_stepOf_14 rfl rfl ?_
  refine pq_iald F hA1.hk (by decide) (by decide) rfl (fun n1_15 n2_15 => (by focus ((try clear hA1); (try clear hPs); simp only [vp_in_iff, Int32.lt_iff_toInt_lt, Int32.le_iff_toInt_le, ← Int32.toInt_inj, Int32.toInt_add, Int32.toInt_sub, Int32.toInt_mul, Int32.toInt_neg, pq_NuO, pq_NuI, pq_NuJ, pq_NuR, pq_shr6, pq_shr7, pq_shr8, lqm1, lq0, lq1] at *; (try simp (disch := omega) only [pq_bm] at *); all_goals omega))) dX0_stepOf_15 (fun x15 e15 l15 u15 => ?_)
  have hkb : x15.toInt < n.toInt := (by rw [e15]; exact hA1.k _ (by have := pq_cl (x := bv) (by focus ((try clear hA1); (try clear hPs); simp only [vp_in_iff, Int32.lt_iff_toInt_lt, Int32.le_iff_toInt_le, ← Int32.toInt_inj, Int32.toInt_add, Int32.toInt_sub, Int32.toInt_mul, Int32.toInt_neg, pq_NuO, pq_NuI, pq_NuJ, pq_NuR, pq_shr6, pq_shr7, pq_shr8, lqm1, lq0, lq1] at *; (try simp (disch := omega) only [pq_bm] at *); all_goals omega)); focus ((try clear hA1); (try clear hPs); simp only [vp_in_iff, Int32.lt_iff_toInt_lt, Int32.le_iff_toInt_le, ← Int32.toInt_inj, Int32.toInt_add, Int32.toInt_sub, Int32.toInt_mul, Int32.toInt_neg, pq_NuO, pq_NuI, pq_NuJ, pq_NuR, pq_shr6, pq_shr7, pq_shr8, lqm1, lq0, lq1] at *; (try simp (disch := omega) only [pq_bm] at *); all_goals omega)))
  refine pq_iadd F dX0_stepOf_16 ?_
  refine pq_iald F hA1.hs (by decide) (by decide) rfl (fun n1_17 n2_17 => (by focus ((try clear hA1); (try clear hPs); simp only [vp_in_iff, Int32.lt_iff_toInt_lt, Int32.le_iff_toInt_le, ← Int32.toInt_inj, Int32.toInt_add, Int32.toInt_sub, Int32.toInt_mul, Int32.toInt_neg, pq_NuO, pq_NuI, pq_NuJ, pq_NuR, pq_shr6, pq_shr7, pq_shr8, lqm1, lq0, lq1] at *; (try simp (disch := omega) only [pq_bm] at *); all_goals omega))) dX0_stepOf_17 (fun x17 e17 l17 u17 => ?_)
  exact pq_iret F hr hlk hA (Nat.le_refl _) (Nat.le_refl _) ((by have hP : Pr x17 := (by rw [e17]; exact hA1.c sv hPs _ (by rw [pq_cl (by focus ((try clear hA1); (try clear hPs); simp only [vp_in_iff, Int32.lt_iff_toInt_lt, Int32.le_iff_toInt_le, ← Int32.toInt_inj, Int32.toInt_add, Int32.toInt_sub, Int32.toInt_mul, Int32.toInt_neg, pq_NuO, pq_NuI, pq_NuJ, pq_NuR, pq_shr6, pq_shr7, pq_shr8, lqm1, lq0, lq1] at *; (try simp (disch := omega) only [pq_bm] at *); all_goals omega))]; focus ((try clear hA1); (try clear hPs); simp only [vp_in_iff, Int32.lt_iff_toInt_lt, Int32.le_iff_toInt_le, ← Int32.toInt_inj, Int32.toInt_add, Int32.toInt_sub, Int32.toInt_mul, Int32.toInt_neg, pq_NuO, pq_NuI, pq_NuJ, pq_NuR, pq_shr6, pq_shr7, pq_shr8, lqm1, lq0, lq1] at *; (try simp (disch := omega) only [pq_bm] at *); all_goals omega)) (by rw [pq_cl (by focus ((try clear hA1); (try clear hPs); simp only [vp_in_iff, Int32.lt_iff_toInt_lt, Int32.le_iff_toInt_le, ← Int32.toInt_inj, Int32.toInt_add, Int32.toInt_sub, Int32.toInt_mul, Int32.toInt_neg, pq_NuO, pq_NuI, pq_NuJ, pq_NuR, pq_shr6, pq_shr7, pq_shr8, lqm1, lq0, lq1] at *; (try simp (disch := omega) only [pq_bm] at *); all_goals omega))]; focus ((try clear hA1); (try clear hPs); simp only [vp_in_iff, Int32.lt_iff_toInt_lt, Int32.le_iff_toInt_le, ← Int32.toInt_inj, Int32.toInt_add, Int32.toInt_sub, Int32.toInt_mul, Int32.toInt_neg, pq_NuO, pq_NuI, pq_NuJ, pq_NuR, pq_shr6, pq_shr7, pq_shr8, lqm1, lq0, lq1] at *; (try simp (disch := omega) only [pq_bm] at *); all_goals omega))); exact ⟨rfl, _, rfl, (by focus ((try clear hA1); (try clear hPs); simp only [vp_in_iff, Int32.lt_iff_toInt_lt, Int32.le_iff_toInt_le, ← Int32.toInt_inj, Int32.toInt_add, Int32.toInt_sub, Int32.toInt_mul, Int32.toInt_neg, pq_NuO, pq_NuI, pq_NuJ, pq_NuR, pq_shr6, pq_shr7, pq_shr8, lqm1, lq0, lq1] at *; (try simp (disch := omega) only [pq_bm] at *); all_goals omega)), (by focus ((try clear hA1); (try clear hPs); simp only [vp_in_iff, Int32.lt_iff_toInt_lt, Int32.le_iff_toInt_le, ← Int32.toInt_inj, Int32.toInt_add, Int32.toInt_sub, Int32.toInt_mul, Int32.toInt_neg, pq_NuO, pq_NuI, pq_NuJ, pq_NuR, pq_shr6, pq_shr7, pq_shr8, lqm1, lq0, lq1] at *; (try simp (disch := omega) only [pq_bm] at *); all_goals omega)), hP, (hA1.p hP).2⟩)) dX0_stepOf_18

set_option maxHeartbeats 4000000 in
set_option maxRecDepth 100000 in
theorem k_X0_hasTextB (l : Launch) (D : va_G) (cy : Nat → ClassId) (S : HS) (a : Nat) (ha : pq_R S a 33) (tp : Nat) (htp : pq_R S tp 12) (ko st : Nat) (n sn s0 : Int32) (Pr : Int32 → Prop) (hA1 : pq_Au S a 153 155 ko st n sn s0 Pr) : pq_C l D cy yX0_hasText cX0_hasText 5 (some .boolean) 2 0 0 S [.ref a, .ref tp] (fun v S2 => S2 = S ∧ ∃ x : Int32, v = some (.int x) ∧ 0 ≤ x.toInt ∧ x.toInt ≤ 1) := by
  refine pq_start (by decide) (Nat.le_of_ble_eq_true rfl) ?_
  intro p e s m args below meth c A F hr hlk hnm hA
  have lqm1 : (-1 : Int32).toInt = -1 := rfl
  have lq0 : (0 : Int32).toInt = 0 := rfl
  have lq1 : (1 : Int32).toInt = 1 := rfl
  have lq128 : (128 : Int32).toInt = 128 := rfl
  have hab := hA1.b
  have hal := hA1.l
  have L19 : ∀  (fu : Nat)  (sv : Int32) (k : Int32)  (hPv : Pr sv) (hk0 : 0 ≤ k.toInt) (hk1 : k.toInt ≤ 2048), (2048 - k.toInt).toNat < fu → pq_At p l e (pq_rm 2 0 0) s m args below meth c (pq_Z below args s D cy S 0 0 (fun v S2 => S2 = S ∧ ∃ x : Int32, v = some (.int x) ∧ 0 ≤ x.toInt ∧ x.toInt ≤ 1)) D cy A 5 0 0 19 S [some (.ref a), some (.ref tp), some (.int sv), some (.int k), none] [] := by
    intro  fu
    induction fu with
    | zero => intro sv k hPv hk0 hk1 hm; exact absurd hm (Nat.not_lt_zero _)
    | succ fu ih =>
      intro sv k hPv hk0 hk1 hm
      have hsv := hA1.p hPv
      refine pq_iload_n F dX0_hasText_19 rfl rfl ?_
      refine pq_aload_n F dX0_hasText_20 rfl rfl ?_
      refine pq_getI F htp (by decide) lk_X0_58 rfl dX0_hasText_21 (fun x21 e21 l21 u21 => ?_)
      refine pq_icmp_ge (tgt := 63) F dX0_hasText_24 (by decide) (fun c24 => ?_) (fun c24 => ?_)
      · skip
        refine pq_aload_n F dX0_hasText_63 rfl rfl ?_
        refine pq_getR F ha (by decide) lk_X0_20 rfl dX0_hasText_64 (fun r64 e64 h64 => ?_)
        refine pq_iload_n F dX0_hasText_67 rfl rfl ?_
        refine pq_zald F h64 (by decide) (by decide) rfl (fun n1_68 n2_68 => (by focus ((try clear hA1); (try clear hPs); (try clear p53); (try clear p29); (try clear hPv); simp only [vp_in_iff, Int32.lt_iff_toInt_lt, Int32.le_iff_toInt_le, ← Int32.toInt_inj, Int32.toInt_add, Int32.toInt_sub, Int32.toInt_mul, Int32.toInt_neg, pq_NuO, pq_NuI, pq_NuJ, pq_NuR, pq_shr6, pq_shr7, pq_shr8, lqm1, lq0, lq1, lq128] at *; (try simp (disch := omega) only [pq_bm] at *); all_goals omega))) dX0_hasText_68 (fun x68 e68 l68 u68 => ?_)
        exact pq_zret F hr hlk hA (pq_bz (by focus ((try clear hA1); (try clear hPs); (try clear p53); (try clear p29); (try clear hPv); simp only [vp_in_iff, Int32.lt_iff_toInt_lt, Int32.le_iff_toInt_le, ← Int32.toInt_inj, Int32.toInt_add, Int32.toInt_sub, Int32.toInt_mul, Int32.toInt_neg, pq_NuO, pq_NuI, pq_NuJ, pq_NuR, pq_shr6, pq_shr7, pq_shr8, lqm1, lq0, lq1, lq128] at *; (try simp (disch := omega) only [pq_bm] at *); all_goals omega)) (by focus ((try clear hA1); (try clear hPs); (try clear p53); (try clear p29); (try clear hPv); simp only [vp_in_iff, Int32.lt_iff_toInt_lt, Int32.le_iff_toInt_le, ← Int32.toInt_inj, Int32.toInt_add, Int32.toInt_sub, Int32.toInt_mul, Int32.toInt_neg, pq_NuO, pq_NuI, pq_NuJ, pq_NuR, pq_shr6, pq_shr7, pq_shr8, lqm1, lq0, lq1, lq128] at *; (try simp (disch := omega) only [pq_bm] at *); all_goals omega))).1 (Nat.le_refl _) (Nat.le_refl _) (⟨rfl, _, rfl, (by focus ((try clear hA1); (try clear hPs); (try clear p53); (try clear p29); (try clear hPv); simp only [vp_in_iff, Int32.lt_iff_toInt_lt, Int32.le_iff_toInt_le, ← Int32.toInt_inj, Int32.toInt_add, Int32.toInt_sub, Int32.toInt_mul, Int32.toInt_neg, pq_NuO, pq_NuI, pq_NuJ, pq_NuR, pq_shr6, pq_shr7, pq_shr8, lqm1, lq0, lq1, lq128] at *; (try simp (disch := omega) only [pq_bm] at *); all_goals omega)), (by focus ((try clear hA1); (try clear hPs); (try clear p53); (try clear p29); (try clear hPv); simp only [vp_in_iff, Int32.lt_iff_toInt_lt, Int32.le_iff_toInt_le, ← Int32.toInt_inj, Int32.toInt_add, Int32.toInt_sub, Int32.toInt_mul, Int32.toInt_neg, pq_NuO, pq_NuI, pq_NuJ, pq_NuR, pq_shr6, pq_shr7, pq_shr8, lqm1, lq0, lq1, lq128] at *; (try simp (disch := omega) only [pq_bm] at *); all_goals omega))⟩) dX0_hasText_69
      · skip
        refine pq_aload_n F dX0_hasText_27 rfl rfl ?_
        refine pq_iload_n F dX0_hasText_28 rfl rfl ?_
        refine pq_callV (As := [_]) F (k_X9_byteAt l D cy _ _ ?_ _) ml_X0_63 htp (by decide) rfl (Nat.le_of_ble_eq_true rfl) ⟨Nat.le_of_ble_eq_true rfl, Nat.le_of_ble_eq_true rfl⟩ ⟨by decide, by decide⟩ dX0_hasText_29 (fun v29 S29 w29 => ?_)
        · exact htp
        obtain ⟨u29, y29, rfl, yl29_0, yl29_1, p29⟩ := w29
        rw [u29]
        try rw [u29] at p29
        refine pq_istore F dX0_hasText_32 (by decide) ?_
        refine pq_iload F dX0_hasText_34 rfl ?_
        refine pq_if_lt (tgt := 47) F dX0_hasText_36 (by decide) (fun c36 => ?_) (fun c36 => ?_)
        · skip
          refine pq_iconst (v := 0) F dX0_hasText_47 (by decide) ?_
          exact pq_zret F hr hlk hA rfl (Nat.le_refl _) (Nat.le_refl _) (⟨rfl, _, rfl, (by focus ((try clear hA1); (try clear hPs); (try clear p53); (try clear p29); (try clear hPv); simp only [vp_in_iff, Int32.lt_iff_toInt_lt, Int32.le_iff_toInt_le, ← Int32.toInt_inj, Int32.toInt_add, Int32.toInt_sub, Int32.toInt_mul, Int32.toInt_neg, pq_NuO, pq_NuI, pq_NuJ, pq_NuR, pq_shr6, pq_shr7, pq_shr8, lqm1, lq0, lq1, lq128] at *; (try simp (disch := omega) only [pq_bm] at *); all_goals omega)), (by focus ((try clear hA1); (try clear hPs); (try clear p53); (try clear p29); (try clear hPv); simp only [vp_in_iff, Int32.lt_iff_toInt_lt, Int32.le_iff_toInt_le, ← Int32.toInt_inj, Int32.toInt_add, Int32.toInt_sub, Int32.toInt_mul, Int32.toInt_neg, pq_NuO, pq_NuI, pq_NuJ, pq_NuR, pq_shr6, pq_shr7, pq_shr8, lqm1, lq0, lq1, lq128] at *; (try simp (disch := omega) only [pq_bm] at *); all_goals omega))⟩) dX0_hasText_48
        · skip
          refine pq_iload F dX0_hasText_39 rfl ?_
          refine pq_sipush (v := 128) F dX0_hasText_41 (by decide) ?_
          refine pq_icmp_lt (tgt := 49) F dX0_hasText_44 (by decide) (fun c44 => ?_) (fun c44 => ?_)
          · skip
            refine pq_aload_n F dX0_hasText_49 rfl rfl ?_
            refine pq_iload_n F dX0_hasText_50 rfl rfl ?_
            refine pq_iload F dX0_hasText_51 rfl ?_
            refine pq_callV (As := [_, _]) F (k_X0_stepOfB l D cy _ _ ?_ _ _ ?_ ?_ ko st n sn s0 Pr hA1 hPv) ml_X0_67 ha (by decide) rfl (Nat.le_of_ble_eq_true rfl) ⟨Nat.le_of_ble_eq_true rfl, Nat.le_of_ble_eq_true rfl⟩ ⟨by decide, by decide⟩ dX0_hasText_53 (fun v53 S53 w53 => ?_)
            · exact ha
            · focus ((try clear hA1); (try clear hPs); (try clear p53); (try clear p29); (try clear hPv); simp only [vp_in_iff, Int32.lt_iff_toInt_lt, Int32.le_iff_toInt_le, ← Int32.toInt_inj, Int32.toInt_add, Int32.toInt_sub, Int32.toInt_mul, Int32.toInt_neg, pq_NuO, pq_NuI, pq_NuJ, pq_NuR, pq_shr6, pq_shr7, pq_shr8, lqm1, lq0, lq1, lq128] at *; (try simp (disch := omega) only [pq_bm] at *); all_goals omega)
            · focus ((try clear hA1); (try clear hPs); (try clear p53); (try clear p29); (try clear hPv); simp only [vp_in_iff, Int32.lt_iff_toInt_lt, Int32.le_iff_toInt_le, ← Int32.toInt_inj, Int32.toInt_add, Int32.toInt_sub, Int32.toInt_mul, Int32.toInt_neg, pq_NuO, pq_NuI, pq_NuJ, pq_NuR, pq_shr6, pq_shr7, pq_shr8, lqm1, lq0, lq1, lq128] at *; (try simp (disch := omega) only [pq_bm] at *); all_goals omega)
            obtain ⟨u53, y53, rfl, yl53_0, yl53_1, p53⟩ := w53
            rw [u53]
            try rw [u53] at p53
            refine pq_istore_n F dX0_hasText_56 rfl (by decide) ?_
            refine pq_iinc (v := 1) F dX0_hasText_57 rfl (by decide) (by decide) ?_
            refine pq_goto (tgt := 19) F dX0_hasText_60 (by decide) ?_
            exact pq_fgm [true, true, true, true, false] (ih _ _ p53.1 (by focus ((try clear hA1); (try clear hPs); (try clear p53); (try clear p29); (try clear hPv); simp only [vp_in_iff, Int32.lt_iff_toInt_lt, Int32.le_iff_toInt_le, ← Int32.toInt_inj, Int32.toInt_add, Int32.toInt_sub, Int32.toInt_mul, Int32.toInt_neg, pq_NuO, pq_NuI, pq_NuJ, pq_NuR, pq_shr6, pq_shr7, pq_shr8, lqm1, lq0, lq1, lq128] at *; (try simp (disch := omega) only [pq_bm] at *); all_goals omega)) (by focus ((try clear hA1); (try clear hPs); (try clear p53); (try clear p29); (try clear hPv); simp only [vp_in_iff, Int32.lt_iff_toInt_lt, Int32.le_iff_toInt_le, ← Int32.toInt_inj, Int32.toInt_add, Int32.toInt_sub, Int32.toInt_mul, Int32.toInt_neg, pq_NuO, pq_NuI, pq_NuJ, pq_NuR, pq_shr6, pq_shr7, pq_shr8, lqm1, lq0, lq1, lq128] at *; (try simp (disch := omega) only [pq_bm] at *); all_goals omega)) (by focus ((try clear hA1); (try clear hPs); (try clear p53); (try clear p29); (try clear hPv); simp only [vp_in_iff, Int32.lt_iff_toInt_lt, Int32.le_iff_toInt_le, ← Int32.toInt_inj, Int32.toInt_add, Int32.toInt_sub, Int32.toInt_mul, Int32.toInt_neg, pq_NuO, pq_NuI, pq_NuJ, pq_NuR, pq_shr6, pq_shr7, pq_shr8, lqm1, lq0, lq1, lq128] at *; (try simp (disch := omega) only [pq_bm] at *); all_goals omega)))
          · skip
            refine pq_iconst (v := 0) F dX0_hasText_47 (by decide) ?_
            exact pq_zret F hr hlk hA rfl (Nat.le_refl _) (Nat.le_refl _) (⟨rfl, _, rfl, (by focus ((try clear hA1); (try clear hPs); (try clear p53); (try clear p29); (try clear hPv); simp only [vp_in_iff, Int32.lt_iff_toInt_lt, Int32.le_iff_toInt_le, ← Int32.toInt_inj, Int32.toInt_add, Int32.toInt_sub, Int32.toInt_mul, Int32.toInt_neg, pq_NuO, pq_NuI, pq_NuJ, pq_NuR, pq_shr6, pq_shr7, pq_shr8, lqm1, lq0, lq1, lq128] at *; (try simp (disch := omega) only [pq_bm] at *); all_goals omega)), (by focus ((try clear hA1); (try clear hPs); (try clear p53); (try clear p29); (try clear hPv); simp only [vp_in_iff, Int32.lt_iff_toInt_lt, Int32.le_iff_toInt_le, ← Int32.toInt_inj, Int32.toInt_add, Int32.toInt_sub, Int32.toInt_mul, Int32.toInt_neg, pq_NuO, pq_NuI, pq_NuJ, pq_NuR, pq_shr6, pq_shr7, pq_shr8, lqm1, lq0, lq1, lq128] at *; (try simp (disch := omega) only [pq_bm] at *); all_goals omega))⟩) dX0_hasText_48
  refine pq_aload_n F dX0_hasText_0 rfl rfl ?_
  refine pq_getI F htp (by decide) lk_X0_58 rfl dX0_hasText_1 (fun x1 e1 l1 u1 => ?_)
  refine pq_if_ne (tgt := 12) F dX0_hasText_4 (by decide) (fun c4 => ?_) (fun c4 => ?_)
  · skip
    refine pq_aload_n F dX0_hasText_12 rfl rfl ?_
    refine pq_get F ha (by decide) lk_X0_34 hA1.e6 dX0_hasText_13 ?_
    refine pq_istore_n F dX0_hasText_16 rfl (by decide) ?_
    refine pq_iconst (v := 0) F dX0_hasText_17 (by decide) ?_
    refine pq_istore_n F dX0_hasText_18 rfl (by decide) ?_
    exact pq_fgm [true, true, true, true, false] (L19  100000 _ _  hA1.p0 (by focus ((try clear hA1); (try clear hPs); (try clear p53); (try clear p29); (try clear hPv); simp only [vp_in_iff, Int32.lt_iff_toInt_lt, Int32.le_iff_toInt_le, ← Int32.toInt_inj, Int32.toInt_add, Int32.toInt_sub, Int32.toInt_mul, Int32.toInt_neg, pq_NuO, pq_NuI, pq_NuJ, pq_NuR, pq_shr6, pq_shr7, pq_shr8, lqm1, lq0, lq1, lq128] at *; (try simp (disch := omega) only [pq_bm] at *); all_goals omega)) (by focus ((try clear hA1); (try clear hPs); (try clear p53); (try clear p29); (try clear hPv); simp only [vp_in_iff, Int32.lt_iff_toInt_lt, Int32.le_iff_toInt_le, ← Int32.toInt_inj, Int32.toInt_add, Int32.toInt_sub, Int32.toInt_mul, Int32.toInt_neg, pq_NuO, pq_NuI, pq_NuJ, pq_NuR, pq_shr6, pq_shr7, pq_shr8, lqm1, lq0, lq1, lq128] at *; (try simp (disch := omega) only [pq_bm] at *); all_goals omega)) (by focus ((try clear hA1); (try clear hPs); (try clear p53); (try clear p29); (try clear hPv); simp only [vp_in_iff, Int32.lt_iff_toInt_lt, Int32.le_iff_toInt_le, ← Int32.toInt_inj, Int32.toInt_add, Int32.toInt_sub, Int32.toInt_mul, Int32.toInt_neg, pq_NuO, pq_NuI, pq_NuJ, pq_NuR, pq_shr6, pq_shr7, pq_shr8, lqm1, lq0, lq1, lq128] at *; (try simp (disch := omega) only [pq_bm] at *); all_goals omega)))
  · skip
    refine pq_aload_n F dX0_hasText_7 rfl rfl ?_
    refine pq_getI F ha (by decide) lk_X0_37 rfl dX0_hasText_8 (fun x8 e8 l8 u8 => ?_)
    exact pq_zret F hr hlk hA (pq_bz (by focus ((try clear hA1); (try clear hPs); (try clear p53); (try clear p29); (try clear hPv); simp only [vp_in_iff, Int32.lt_iff_toInt_lt, Int32.le_iff_toInt_le, ← Int32.toInt_inj, Int32.toInt_add, Int32.toInt_sub, Int32.toInt_mul, Int32.toInt_neg, pq_NuO, pq_NuI, pq_NuJ, pq_NuR, pq_shr6, pq_shr7, pq_shr8, lqm1, lq0, lq1, lq128] at *; (try simp (disch := omega) only [pq_bm] at *); all_goals omega)) (by focus ((try clear hA1); (try clear hPs); (try clear p53); (try clear p29); (try clear hPv); simp only [vp_in_iff, Int32.lt_iff_toInt_lt, Int32.le_iff_toInt_le, ← Int32.toInt_inj, Int32.toInt_add, Int32.toInt_sub, Int32.toInt_mul, Int32.toInt_neg, pq_NuO, pq_NuI, pq_NuJ, pq_NuR, pq_shr6, pq_shr7, pq_shr8, lqm1, lq0, lq1, lq128] at *; (try simp (disch := omega) only [pq_bm] at *); all_goals omega))).1 (Nat.le_refl _) (Nat.le_refl _) (⟨rfl, _, rfl, (by focus ((try clear hA1); (try clear hPs); (try clear p53); (try clear p29); (try clear hPv); simp only [vp_in_iff, Int32.lt_iff_toInt_lt, Int32.le_iff_toInt_le, ← Int32.toInt_inj, Int32.toInt_add, Int32.toInt_sub, Int32.toInt_mul, Int32.toInt_neg, pq_NuO, pq_NuI, pq_NuJ, pq_NuR, pq_shr6, pq_shr7, pq_shr8, lqm1, lq0, lq1, lq128] at *; (try simp (disch := omega) only [pq_bm] at *); all_goals omega)), (by focus ((try clear hA1); (try clear hPs); (try clear p53); (try clear p29); (try clear hPv); simp only [vp_in_iff, Int32.lt_iff_toInt_lt, Int32.le_iff_toInt_le, ← Int32.toInt_inj, Int32.toInt_add, Int32.toInt_sub, Int32.toInt_mul, Int32.toInt_neg, pq_NuO, pq_NuI, pq_NuJ, pq_NuR, pq_shr6, pq_shr7, pq_shr8, lqm1, lq0, lq1, lq128] at *; (try simp (disch := omega) only [pq_bm] at *); all_goals omega))⟩) dX0_hasText_11

