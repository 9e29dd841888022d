/-- from p it is m steps along f to 0 -/
def pq_rt (f : Nat → Int32) : Nat → Int32 → Prop
  | 0, p => p = 0
  | m + 1, p => ¬ p = 0 ∧ 0 ≤ p.toInt ∧ p.toInt < 161604 ∧ pq_rt f m (f p.toNatClampNeg)
theorem pq_rt_m1 {f : Nat → Int32} : ∀ m, ¬ pq_rt f m (-1)
  | 0, h => absurd (show (-1 : Int32) = 0 from h) (by decide)
  | m + 1, h => absurd (show 0 ≤ (-1 : Int32).toInt from h.2.1) (by decide)
theorem pq_rt_upd {f : Nat → Int32} {t : Nat} {v : Int32} (ht : f t = -1) : ∀ (m : Nat) (p : Int32), pq_rt f m p → pq_rt (upd f t v) m p
  | 0, p, h => h
  | m + 1, p, ⟨h1, h2, h3, h4⟩ => by
    have hne : p.toNatClampNeg ≠ t := fun e => by rw [e, ht] at h4; exact pq_rt_m1 m h4
    refine ⟨h1, h2, h3, ?_⟩
    rw [pk_un hne]
    exact pq_rt_upd ht m _ h4
theorem pq_un_lt {f : Nat → Int32} {x : Int32} {i : Nat} (h : f i = x) : ∀ n, i < n → pq_un f x n < n
  | 0, hi => absurd hi (Nat.not_lt_zero _)
  | n + 1, hi => by
    by_cases e : n = i
    · subst e
      have := pq_un_le f x n
      simp only [pq_un, h, if_true]; omega
    · have := pq_un_lt (f := f) (x := x) h n (by omega)
      simp only [pq_un]; split <;> omega
theorem pq_un_add {f : Nat → Int32} {x v : Int32} {i : Nat} (h : f i = x) (hv : ¬ v = x) : ∀ n, i < n → pq_un (upd f i v) x n = pq_un f x n + 1
  | 0, hi => absurd hi (Nat.not_lt_zero _)
  | n + 1, hi => by
    by_cases e : n = i
    · subst e
      have h0 : ∀ k, k ≤ n → pq_un (upd f n v) x k = pq_un f x k := by
        intro k
        induction k with
        | zero => intro _; rfl
        | succ k ih => intro hk; simp only [pq_un, pk_un (show k ≠ n by omega), ih (by omega)]
      simp only [pq_un, pk_us, hv, h, if_true, if_false, h0 n (Nat.le_refl _)]
    · simp only [pq_un, pk_un e, pq_un_add h hv n (by omega)]; omega
/-- the queue q of n pairs, each found from one ahead of it -/
def pq_bf (q f : Nat → Int32) (n : Nat) : Prop := n ≤ pq_un f (-1) 161604 ∧ f 0 = 0 ∧ ∀ k, k < n → (0 ≤ (q k).toInt ∧ (q k).toInt < 161604) ∧ ∃ m, m ≤ k ∧ pq_rt f m (q k)
theorem pq_bf.add {q f : Nat → Int32} {n m : Nat} {pr t : Int32} (H : pq_bf q f n) (ht0 : 0 ≤ t.toInt) (ht1 : t.toInt < 161604) (hf : f t.toNatClampNeg = -1) (hm : m + 1 ≤ n) (hr : pq_rt f m pr) (hp : 0 ≤ pr.toInt) : n < 161604 ∧ pq_bf (upd q n t) (upd f t.toNatClampNeg pr) (n + 1) := by
  have ct := pq_cl ht0
  have hi : t.toNatClampNeg < 161604 := by omega
  have hne : ¬ pr = -1 := fun e => by rw [e] at hp; exact absurd hp (by decide)
  have h1 := pq_un_lt hf 161604 hi
  have h2 := pq_un_add hf hne 161604 hi
  have ht : ¬ t = 0 := fun e => by
    have h3 := H.2.1
    rw [e] at hf
    rw [show (0 : Int32).toNatClampNeg = 0 from rfl, h3] at hf
    exact absurd hf (by decide)
  refine ⟨by have := H.1; omega, by have := H.1; omega, ?_, fun k hk => ?_⟩
  · rw [pk_un]
    · exact H.2.1
    · intro e
      apply ht
      apply Int32.toInt_inj.mp
      show t.toInt = 0
      omega
  · by_cases e : k = n
    · subst e
      rw [pk_us]
      refine ⟨⟨ht0, ht1⟩, m + 1, hm, ht, ht0, ht1, ?_⟩
      rw [pk_us]
      exact pq_rt_upd hf m pr hr
    · rw [pk_un e]
      obtain ⟨g1, m1, g2, g3⟩ := H.2.2 k (by omega)
      exact ⟨g1, m1, g2, pq_rt_upd hf m1 _ g3⟩
theorem pq_un_all {f : Nat → Int32} {x : Int32} : ∀ n, (∀ j, j < n → f j = x) → pq_un f x n = 0
  | 0, _ => rfl
  | n + 1, h => by simp only [pq_un, h n (by omega), if_true, pq_un_all n (fun j hj => h j (by omega))]
theorem pq_bf.start {q f : Nat → Int32} (h : ∀ j, j < 161604 → f j = -1) : pq_bf (upd q 0 0) (upd f 0 0) 1 := by
  have h1 := pq_un_add (f := f) (x := -1) (v := 0) (i := 0) (h 0 (by omega)) (by decide) 161604 (by omega)
  refine ⟨by omega, pk_us, fun k hk => ?_⟩
  have e : k = 0 := by omega
  subst e
  rw [pk_us]
  exact ⟨⟨by decide, by decide⟩, 0, Nat.le_refl _, rfl⟩

