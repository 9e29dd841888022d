/-! ===== masks of locals, little laws ===== -/
def pq_msk : List Bool → List (Option Value) → List (Option Value)
  | true :: m, x :: t => x :: pq_msk m t
  | false :: m, _ :: t => none :: pq_msk m t
  | _, _ => []
theorem pq_msk_get : ∀ (k : List Bool) (lc : List (Option Value)) (i : Nat) (v : Value), (pq_msk k lc)[i]? = some (some v) → lc[i]? = some (some v)
  | true :: m, x :: t, 0, v, h => by simpa [pq_msk] using h
  | true :: m, x :: t, i + 1, v, h => by
    simp only [pq_msk, List.getElem?_cons_succ] at h ⊢
    exact pq_msk_get m t i v h
  | false :: m, x :: t, 0, v, h => by simp [pq_msk] at h
  | false :: m, x :: t, i + 1, v, h => by
    simp only [pq_msk, List.getElem?_cons_succ] at h ⊢
    exact pq_msk_get m t i v h
  | [], _, i, v, h => by simp [pq_msk] at h
  | true :: _, [], i, v, h => by simp [pq_msk] at h
  | false :: _, [], i, v, h => by simp [pq_msk] at h
theorem pq_fgm {p : Program} {l : Launch} {e : Env} {R : Room} {s : State} {m : MethodId} {args : Array Value} {below : List Frame} {meth : Method} {c : Code} {Q : State → Prop} {D : va_G} {cy : Nat → ClassId} {A : Nat → Prop} {nL cells slots pc : Nat} {S : HS} {lc : List (Option Value)} {st : List Value} (mk : List Bool) (k : pq_At p l e R s m args below meth c Q D cy A nL cells slots pc S (pq_msk mk lc) st) : pq_At p l e R s m args below meth c Q D cy A nL cells slots pc S lc st := fun H locs ls hT hP hD hS hl => k H locs ls hT hP hD hS ⟨hl.1, hl.2.1, fun i v h => hl.2.2 i v (pq_msk_get mk lc i v h)⟩
theorem pq_NuR {S : HS} {a : Nat} {f : Nat → Option Nat} : hN (pq_uR S a f) = hN S := rfl
theorem pq_vin {x : Int32} {n : Nat} (h0 : 0 ≤ x.toInt) (h1 : x.toInt < (n : Int)) : vp_in x n := by
  rw [vp_in_iff]
  omega
/-- x >> 6 of a number that isn't below 0 -/
theorem pq_and63 (x : Int32) : (0 : Int) ≤ (x &&& 63).toInt ∧ (x &&& 63).toInt ≤ 63 := by
  have h : (x &&& 63).toInt = (x.toBitVec &&& 63#32).toInt := rfl
  have h2 : (x.toBitVec &&& 63#32).toNat ≤ 63 := by
    rw [BitVec.toNat_and]
    exact Nat.and_le_right
  rw [h, BitVec.toInt_eq_toNat_cond]
  split <;> omega
theorem pq_upup {α : Type} {g : Nat → α} {a : Nat} {x y : α} : va_up (va_up g a x) a y = va_up g a y := by
  funext b
  by_cases e : b = a
  · subst e; rw [va_up_self, va_up_self]
  · rw [va_up_ne _ _ e, va_up_ne _ _ e, va_up_ne _ _ e]
theorem pq_upid {α : Type} {g : Nat → α} {a : Nat} : va_up g a (g a) = g := by
  funext b
  by_cases e : b = a
  · subst e; rw [va_up_self]
  · rw [va_up_ne _ _ e]
theorem pq_uJJ {S : HS} {a : Nat} {f g : Nat → Int64} : pq_uJ (pq_uJ S a f) a g = pq_uJ S a g := by
  show (S.1, S.2.1, S.2.2.1, S.2.2.2.1, va_up (va_up S.2.2.2.2.1 a f) a g, S.2.2.2.2.2) = _
  rw [pq_upup]; rfl
theorem pq_uJs {S : HS} {a : Nat} : S = pq_uJ S a (hJ S a) := by
  show _ = (S.1, S.2.1, S.2.2.1, S.2.2.2.1, va_up S.2.2.2.2.1 a (S.2.2.2.2.1 a), S.2.2.2.2.2)
  rw [pq_upid]
theorem pq_uII {S : HS} {a : Nat} {f g : Nat → Int32} : pq_uI (pq_uI S a f) a g = pq_uI S a g := by
  show (S.1, S.2.1, S.2.2.1, va_up (va_up S.2.2.2.1 a f) a g, S.2.2.2.2) = _
  rw [pq_upup]; rfl
theorem pq_uIs {S : HS} {a : Nat} : S = pq_uI S a (hI S a) := by
  show _ = (S.1, S.2.1, S.2.2.1, va_up S.2.2.2.1 a (S.2.2.2.1 a), S.2.2.2.2)
  rw [pq_upid]
theorem pq_Ja {S : HS} {a : Nat} {f : Nat → Int64} : hJ (pq_uJ S a f) a = f := va_up_self _ _ _
theorem pq_shr6 (x : Int32) : (x >>> ((6 : Int32) &&& 31)).toInt = x.toInt / 64 := by
  show (x.toBitVec.sshiftRight 6).toInt = _
  rw [BitVec.toInt_sshiftRight, Int.shiftRight_eq_div_pow]; rfl
theorem pq_shr7 (x : Int32) : (x >>> ((7 : Int32) &&& 31)).toInt = x.toInt / 128 := by
  show (x.toBitVec.sshiftRight 7).toInt = _
  rw [BitVec.toInt_sshiftRight, Int.shiftRight_eq_div_pow]; rfl
theorem pq_shr8 (x : Int32) : (x >>> ((8 : Int32) &&& 31)).toInt = x.toInt / 256 := by
  show (x.toBitVec.sshiftRight 8).toInt = _
  rw [BitVec.toInt_sshiftRight, Int.shiftRight_eq_div_pow]; rfl
theorem pq_and255 (x : Int32) : (0 : Int) ≤ (x &&& 255).toInt ∧ (x &&& 255).toInt ≤ 255 := by
  obtain ⟨j, hj, hx⟩ := pk_andE x (m := 255) 8 (by decide)
  rw [hx, nI_toInt (by omega)]
  omega
theorem pq_and127 (x : Int32) : (0 : Int) ≤ (x &&& 127).toInt ∧ (x &&& 127).toInt ≤ 127 := by
  obtain ⟨j, hj, hx⟩ := pk_andE x (m := 127) 7 (by decide)
  rw [hx, nI_toInt (by omega)]
  omega
theorem pq_cmp0 (x : Int64) : lg_cmp x x = 0 := by
  unfold lg_cmp
  simp
