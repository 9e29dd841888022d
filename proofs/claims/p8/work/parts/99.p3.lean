set_option maxRecDepth 100000 in
theorem in_J0 : ∀ w ∈ u_ws RJ0 TJ0 4, w ∈ gtb := by
  intro w hw
  obtain ⟨k, hk, rfl⟩ := List.mem_map.mp hw
  have hk' := List.mem_range.mp hk
  match k, hk' with
  | 0, _ => exact pq_gt4 (i := 180) rfl rfl
  | 1, _ => exact pq_gt4 (i := 182) rfl rfl
  | 2, _ => exact pq_gt4 (i := 184) rfl rfl
  | 3, _ => exact pq_gt4 (i := 186) rfl rfl
  | k + 4, h => exact absurd h (by omega)
set_option maxRecDepth 100000 in
theorem in_J4 : ∀ w ∈ u_ws RJ4 TJ4 4, w ∈ gtb := by
  intro w hw
  obtain ⟨k, hk, rfl⟩ := List.mem_map.mp hw
  have hk' := List.mem_range.mp hk
  match k, hk' with
  | 0, _ => exact pq_gt4 (i := 7) rfl rfl
  | 1, _ => exact pq_gt4 (i := 9) rfl rfl
  | 2, _ => exact pq_gt4 (i := 11) rfl rfl
  | 3, _ => exact pq_gt4 (i := 13) rfl rfl
  | k + 4, h => exact absurd h (by omega)
set_option maxRecDepth 100000 in
theorem in_Jx00060 : ∀ w ∈ u_ws RJx00060 TJx00060 6, w ∈ gtb := by
  intro w hw
  obtain ⟨k, hk, rfl⟩ := List.mem_map.mp hw
  have hk' := List.mem_range.mp hk
  match k, hk' with
  | 0, _ => exact pq_gt4 (i := 195) rfl rfl
  | 1, _ => exact pq_gt4 (i := 196) rfl rfl
  | 2, _ => exact pq_gt4 (i := 197) rfl rfl
  | 3, _ => exact pq_gt4 (i := 198) rfl rfl
  | 4, _ => exact pq_gt4 (i := 199) rfl rfl
  | 5, _ => exact pq_gt4 (i := 210) rfl rfl
  | k + 6, h => exact absurd h (by omega)
set_option maxRecDepth 100000 in
theorem pq_cls {A : Array Value} {s : State} (hts : ∀ w ∈ gtb, w.before A s = true) : ∃ D : va_G, ∀ (c : Nat) (q : vw_C), vwCl[c]? = some q → u_Kn s q.1 q.2.1 q.2.2 (D.1 c) (D.2 c) := by
  have h : ∀ c : Nat, ∃ (a : ClassId) (b : Nat → Nat), ∀ q : vw_C, vwCl[c]? = some q → u_Kn s q.1 q.2.1 q.2.2 a b := by
    intro c
    match c with
    | 0 => obtain ⟨a, b, h⟩ := u_known hts in_J0 (hts (.instantiable RJ0 4) (pq_gt4 (i := 135) rfl rfl)); exact ⟨a, b, fun q hq => by cases hq; exact h⟩
    | 1 => obtain ⟨a, b, h⟩ := u_known hts in_J4 (hts (.instantiable RJ4 4) (pq_gt3 (i := 227) rfl rfl)); exact ⟨a, b, fun q hq => by cases hq; exact h⟩
    | 2 => obtain ⟨a, b, h⟩ := u_known hts in_Jx00060 (hts (.instantiable RJx00060 6) (pq_gt4 (i := 190) rfl rfl)); exact ⟨a, b, fun q hq => by cases hq; exact h⟩
    | 3 => obtain ⟨a, b, h⟩ := u_known hts in_X0 (hts (.instantiable RX0 8) (pq_gt2 (i := 4) rfl rfl)); exact ⟨a, b, fun q hq => by cases hq; exact h⟩
    | 4 => obtain ⟨a, b, h⟩ := u_known hts in_X1 (hts (.instantiable RX1 2) (pq_gt2 (i := 53) rfl rfl)); exact ⟨a, b, fun q hq => by cases hq; exact h⟩
    | 5 => obtain ⟨a, b, h⟩ := u_known hts in_X2 (hts (.instantiable RX2 3) (pq_gt1 (i := 65) rfl rfl)); exact ⟨a, b, fun q hq => by cases hq; exact h⟩
    | 6 => obtain ⟨a, b, h⟩ := u_known hts in_X3 (hts (.instantiable RX3 4) (pq_gt1 (i := 153) rfl rfl)); exact ⟨a, b, fun q hq => by cases hq; exact h⟩
    | 7 => obtain ⟨a, b, h⟩ := u_known hts in_X4 (hts (.instantiable RX4 8) (pq_gt1 (i := 212) rfl rfl)); exact ⟨a, b, fun q hq => by cases hq; exact h⟩
    | 8 => obtain ⟨a, b, h⟩ := u_known hts in_X5 (hts (.instantiable RX5 4) (pq_gt1 (i := 59) rfl rfl)); exact ⟨a, b, fun q hq => by cases hq; exact h⟩
    | 9 => obtain ⟨a, b, h⟩ := u_known hts in_X6 (hts (.instantiable RX6 10) (pq_gt1 (i := 107) rfl rfl)); exact ⟨a, b, fun q hq => by cases hq; exact h⟩
    | 10 => obtain ⟨a, b, h⟩ := u_known hts in_X7 (hts (.instantiable RX7 8) (pq_gt2 (i := 66) rfl rfl)); exact ⟨a, b, fun q hq => by cases hq; exact h⟩
    | 11 => obtain ⟨a, b, h⟩ := u_known hts in_X8 (hts (.instantiable RX8 10) (pq_gt1 (i := 147) rfl rfl)); exact ⟨a, b, fun q hq => by cases hq; exact h⟩
    | 12 => obtain ⟨a, b, h⟩ := u_known hts in_X9 (hts (.instantiable RX9 2) (pq_gt1 (i := 42) rfl rfl)); exact ⟨a, b, fun q hq => by cases hq; exact h⟩
    | 13 => obtain ⟨a, b, h⟩ := u_known hts in_X10 (hts (.instantiable RX10 9) (pq_gt1 (i := 34) rfl rfl)); exact ⟨a, b, fun q hq => by cases hq; exact h⟩
    | 14 => obtain ⟨a, b, h⟩ := u_known hts in_X11 (hts (.instantiable RX11 47) (pq_gt5 (i := 210) rfl rfl)); exact ⟨a, b, fun q hq => by cases hq; exact h⟩
    | k + 15 => exact ⟨0, fun _ => 0, fun q hq => by simp [vwCl] at hq⟩
  exact ⟨(fun c => (h c).choose, fun c => (h c).choose_spec.choose), fun c q hq => (h c).choose_spec.choose_spec q hq⟩
