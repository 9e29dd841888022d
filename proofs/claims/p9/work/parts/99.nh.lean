/-! ===== how many texts of a length: as the machine counts, modulo 2^64 ===== -/
def tk_su (f : Nat → Int64) : Nat → Int64
  | 0 => 0
  | n + 1 => tk_su f n + f n
noncomputable def tk_b1 (p : Prop) : Int64 := @ite _ p (Classical.propDecidable p) 1 0
theorem tk_b1t {p : Prop} (h : p) : tk_b1 p = 1 := by unfold tk_b1; rw [if_pos h]
theorem tk_b1f {p : Prop} (h : ¬ p) : tk_b1 p = 0 := by unfold tk_b1; rw [if_neg h]
noncomputable def tk_ct : Nat → (List Nat → Prop) → Int64
  | 0, L => tk_b1 (L [])
  | n + 1, L => tk_su (fun b => tk_ct n (fun w => L (b :: w))) 128
section SM
variable {f g : Nat → Int64} {n : Nat}
theorem tk_su0 : tk_su f 0 = 0 := rfl
theorem tk_suS : tk_su f (n + 1) = tk_su f n + f n := rfl
theorem tk_ct0 {L : List Nat → Prop} : tk_ct 0 L = tk_b1 (L []) := rfl
theorem tk_ctS {L : List Nat → Prop} : tk_ct (n + 1) L = tk_su (fun b => tk_ct n (fun w => L (b :: w))) 128 := rfl
theorem tk_su.cg : ∀ n, (∀ i, i < n → f i = g i) → tk_su f n = tk_su g n
  | 0, _ => rfl
  | n + 1, h => by rw [tk_suS, tk_suS, tk_su.cg n (fun i hi => h i (by omega)), h n (by omega)]
theorem tk_a4 {a b c d : Int64} : a + b + (c + d) = a + c + (b + d) := by
  rw [Int64.add_assoc, Int64.add_assoc, ← Int64.add_assoc b c d, Int64.add_comm b c, Int64.add_assoc c b d]
theorem tk_su.add : ∀ n, tk_su (fun i => f i + g i) n = tk_su f n + tk_su g n
  | 0 => rfl
  | n + 1 => by rw [tk_suS, tk_suS, tk_suS, tk_su.add n, tk_a4]
theorem tk_su.mul {c : Int64} : ∀ n, tk_su (fun i => c * f i) n = c * tk_su f n
  | 0 => by rw [tk_su0, tk_su0, Int64.mul_zero]
  | n + 1 => by rw [tk_suS, tk_suS, tk_su.mul n, Int64.mul_add]
theorem tk_su.z : ∀ n, (∀ i, i < n → f i = 0) → tk_su f n = 0
  | 0, _ => rfl
  | n + 1, h => by rw [tk_suS, tk_su.z n (fun i hi => h i (by omega)), h n (by omega), Int64.add_zero]
/-- one element alone -/
theorem tk_su.one {j : Nat} (hj : j < n) (h : ∀ i, i < n → i ≠ j → f i = 0) : tk_su f n = f j := by
  induction n with
  | zero => exact absurd hj (Nat.not_lt_zero _)
  | succ n ih =>
    rw [tk_suS]
    by_cases e : j = n
    · subst e
      rw [tk_su.z j (fun i hi => h i (by omega) (by omega)), Int64.zero_add]
    · rw [ih (by omega) (fun i hi hne => h i (by omega) hne), h n (by omega) (fun w => e w.symm), Int64.add_zero]
/-- an element grows -/
theorem tk_su.up {c : Nat → Int64} {j : Nat} {v y : Int64} (hj : j < n) (hy : y = f j + v) : tk_su (fun t => vp_updL f j y t * c t) n = tk_su (fun t => f t * c t) n + v * c j := by
  induction n with
  | zero => exact absurd hj (Nat.not_lt_zero _)
  | succ n ih =>
    rw [tk_suS, tk_suS]
    by_cases e : j = n
    · subst e
      rw [pk_uLs, hy, Int64.add_mul, tk_su.cg (g := fun t => f t * c t) j (fun i hi => by rw [pk_uLn (show i ≠ j by omega)]), Int64.add_assoc]
    · rw [ih (by omega), pk_uLn (show n ≠ j by omega), Int64.add_assoc, Int64.add_comm (v * c j), ← Int64.add_assoc]
end SM
theorem tk_ct.cg : ∀ (n : Nat) (L M : List Nat → Prop), (∀ w, tp_t w → (L w ↔ M w)) → tk_ct n L = tk_ct n M
  | 0, L, M, h => by
    have e : L [] = M [] := propext (h [] (fun b hb => absurd hb List.not_mem_nil))
    rw [tk_ct0, tk_ct0, e]
  | n + 1, L, M, h => by
    rw [tk_ctS, tk_ctS]
    refine tk_su.cg 128 (fun b hb => tk_ct.cg n _ _ (fun w hw => h (b :: w) (List.forall_mem_cons.mpr ⟨hb, hw⟩)))
/-- the bytes, kind by kind -/
theorem tk_su.kinds {ko sz : Nat → Int32} {K : Nat} {g : Nat → Int64} (hk : ∀ b, b < 128 → ∃ k : Nat, k < K ∧ (ko b).toInt = (k : Int)) (hz : tk_Sz sz ko K 128) : tk_su (fun b => g (ko b).toInt.toNat) 128 = tk_su (fun k => (sz k).toInt64 * g k) K := by
  have key : ∀ B, B ≤ 128 → tk_su (fun b => g (ko b).toInt.toNat) B = tk_su (fun k => Int64.ofInt (tk_nk ko k B : Int) * g k) K := fun B => by
    induction B with
    | zero =>
      intro _
      rw [tk_su0]
      refine (tk_su.z K (fun i _ => ?_)).symm
      show Int64.ofInt ((0 : Nat) : Int) * g i = 0
      rw [show Int64.ofInt ((0 : Nat) : Int) = 0 from rfl, Int64.zero_mul]
    | succ B ih =>
      intro hB
      obtain ⟨k0, h0, e0⟩ := hk B (by omega)
      have es : ∀ k, k < K → Int64.ofInt (tk_nk ko k (B + 1) : Int) * g k = Int64.ofInt (tk_nk ko k B : Int) * g k + (if k0 = k then g k else 0) := fun k _ => by
        rw [tk_nkS]
        by_cases e : k0 = k
        · rw [if_pos e, if_pos (by rw [e0, e]), Int.natCast_add, Int64.ofInt_add, Int64.add_mul]
          congr 1
          rw [show Int64.ofInt ((1 : Nat) : Int) = 1 from rfl, Int64.one_mul]
        · rw [if_neg e, if_neg (by rw [e0]; omega), Nat.add_zero, Int64.add_zero]
      rw [tk_suS, ih (by omega), tk_su.cg K es, tk_su.add, tk_su.one (j := k0) h0 (fun i _ hne => if_neg (fun w => hne w.symm)), if_pos rfl, e0, Int.toNat_natCast]
  rw [key 128 (Nat.le_refl _)]
  refine tk_su.cg K (fun k hk2 => ?_)
  rw [← hz k hk2, Int64.ofInt_int32ToInt]
section CT
variable {ko st ac sz : Nat → Int32} {n sn s0 : Nat} {he : Int32} {L : List Nat → Prop}
/-- from a state of the class's -/
def tk_af (ko st ac : Nat → Int32) (n s : Nat) : List Nat → Prop := fun w => ac (tk_cr ko st n w s) = 1
theorem tk_Sa.ctS (h : tk_Sa ko st ac n sn s0 he L) (hz : tk_Sz sz ko n 128) {m s : Nat} : tk_ct (m + 1) (tk_af ko st ac n s) = tk_su (fun k => (sz k).toInt64 * tk_ct m (tk_af ko st ac n (st (n * s + k)).toInt.toNat)) n := by
  rw [tk_ctS]
  exact tk_su.kinds (g := fun k => tk_ct m (tk_af ko st ac n (st (n * s + k)).toInt.toNat)) h.1 hz
theorem tk_Sa.ct (h : tk_Sa ko st ac n sn s0 he L) {m : Nat} : tk_ct (m + 1) L = tk_ct (m + 1) (tk_af ko st ac n s0) := by
  rw [tk_ctS, tk_ctS]
  exact tk_su.cg 128 (fun b hb => tk_ct.cg m _ _ (fun w hw => h.2.2.2.2.2.2 b w (List.forall_mem_cons.mpr ⟨hb, hw⟩)))
/-- from a state of the reference's -/
def tk_rf (en ld : Nat → Int32) (f s : Nat) : List Nat → Prop := fun w => en (f + tk_rr ld f w s) = 1
theorem tk_rf.S {en ld : Nat → Int32} {f m s : Nat} : tk_ct (m + 1) (tk_rf en ld f s) = tk_su (fun b => tk_ct m (tk_rf en ld f (ld (128 * (f + s) + b)).toInt.toNat)) 128 := rfl
end CT
