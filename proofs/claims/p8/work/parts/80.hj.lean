theorem tk_zl (f : Nat → Int32) : ∀ n, ∃ L : List Nat, L.Nodup ∧ L.length = pq_z f n ∧ ∀ i, i ∈ L ↔ i < n ∧ f i = 0
  | 0 => ⟨[], List.nodup_nil, rfl, fun i => ⟨fun h => absurd h List.not_mem_nil, fun h => absurd h.1 (Nat.not_lt_zero _)⟩⟩
  | n + 1 => by
    obtain ⟨L, a, b, c⟩ := tk_zl f n
    by_cases e : f n = 0
    · refine ⟨n :: L, List.nodup_cons.mpr ⟨fun h => absurd ((c n).mp h).1 (Nat.lt_irrefl _), a⟩, by simp only [List.length_cons, pq_z, b, if_pos e], fun i => ?_⟩
      rw [List.mem_cons, c i]
      constructor
      · rintro (z | z)
        · rw [z]; exact ⟨Nat.lt_succ_self _, e⟩
        · exact ⟨by omega, z.2⟩
      · rintro ⟨z, y⟩
        by_cases x : i = n
        · exact Or.inl x
        · exact Or.inr ⟨by omega, y⟩
    · refine ⟨L, a, by simp only [pq_z, b, if_neg e, Nat.add_zero], fun i => ?_⟩
      rw [c i]
      exact ⟨fun z => ⟨by omega, z.2⟩, fun z => ⟨by have : i ≠ n := fun x => e (x ▸ z.2); omega, z.2⟩⟩
theorem tk_u {f g : Nat → Int32} {n mk mm : Nat} (h : pq_Pf f g n mk) (hm : n = mm + 1) (h012 : ∀ i, i < mm → f i = 0 ∨ f i = 1 ∨ f i = 2) : tq_u (tk_P f g) 0 mm := by
  intro k k' p _ k2 _ k4 k5 k6
  refine Classical.byContradiction (fun ne => ?_)
  obtain ⟨L, a, b, c⟩ := tk_zl f n
  have z0 : ∀ i, i < mm → tk_P f g i = (0, ((p : Nat) : Int)) → i ∈ L ∧ (g i).toInt = (p : Int) := fun i hi e => by
    have e1 : (f i).toInt.toNat = 0 := congrArg Prod.fst e
    have e2 : (g i).toInt = (p : Int) := congrArg Prod.snd e
    refine ⟨(c i).mpr ⟨by omega, ?_⟩, e2⟩
    rcases h012 i hi with w | w | w
    · exact w
    · rw [w] at e1; exact absurd e1 (by decide)
    · rw [w] at e1; exact absurd e1 (by decide)
  obtain ⟨x1, x2⟩ := z0 k k2 k5
  obtain ⟨y1, y2⟩ := z0 k' k4 k6
  have hl := tp_le (List.range mk) ((L.erase k').map (fun i => (g i).toInt.toNat)) List.nodup_range (fun q hq => by
    obtain ⟨i, i1, i2, i3⟩ := (h.2.2 q (List.mem_range.mp hq)).1
    by_cases w : i = k'
    · refine List.mem_map.mpr ⟨k, (List.mem_erase_of_ne ne).mpr x1, ?_⟩
      rw [w] at i3
      show (g k).toInt.toNat = q
      omega
    · refine List.mem_map.mpr ⟨i, (List.mem_erase_of_ne w).mpr ((c i).mpr ⟨by omega, i2⟩), ?_⟩
      show (g i).toInt.toNat = q
      omega)
  rw [List.length_map, List.length_erase_of_mem y1, List.length_range, b] at hl
  have := h.2.1
  have hp : 0 < L.length := List.length_pos_of_mem y1
  omega

