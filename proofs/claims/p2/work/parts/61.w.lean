/-! ===== the law's entry: what the tables and the start give ===== -/
theorem pq_wT {A : Array Value} {s : State} (hts : ∀ w ∈ lw_tbl, w.before A s = true) : ∀ w ∈ gtb, w.before A s = true := fun w hw => hts w (List.mem_filter.mp hw).1
theorem pq_wNN {A : Array Value} {s : State} (hts : ∀ w ∈ lw_tbl, w.before A s = true) : pq_N s := fun w hw => va_Nw.of (pq_onT (List.mem_filter.mp hw).2) (hts w (List.mem_filter.mp hw).1)
theorem pq_in2 {w : Cond} {i : Nat} (h : tables_1_2[i]? = some w) : w ∈ lw_tbl := List.mem_append_right _ (List.mem_append_right _ (List.mem_append_left _ (List.mem_of_getElem? h)))
theorem pq_wD {A : Array Value} {s : State} (hts : ∀ w ∈ lw_tbl, w.before A s = true) : pq_Dn s := ⟨va_Nw.of rfl (hts _ (pq_in2 (i := 142) rfl)), va_Nw.of rfl (hts _ (pq_in2 (i := 144) rfl)), va_Nw.of rfl (hts _ (pq_in2 (i := 146) rfl))⟩
/-- nothing that was there is written, once what is written lies in one cell that is as it was, or is new -/
theorem pq_same0 {s t : State} {L : List Loc} {b mc ms : Nat} (h : s.sameButNew t L mc ms) (hL : ∀ z ∈ L, z.base = b ∨ s.heap.size ≤ z.base) (hb : t.heap[b]? = s.heap[b]?) : s.sameButNew t [] mc ms := by
  obtain ⟨h1, h2, h3, h4, h5, h6⟩ := h
  refine ⟨h1, h2, h3, h4, h5, fun a c hc => ?_⟩
  obtain ⟨c', k1, k2, k3, k4⟩ := h6 a c hc
  refine ⟨c', k1, k2, k3, fun i _ => ?_⟩
  by_cases e : a = b
  · subst e
    rw [hb, hc] at k1
    cases k1
    rfl
  · refine k4 i (fun hm => ?_)
    rcases hL _ hm with z | z
    · exact e z
    · exact absurd (Array.getElem?_eq_some_iff.mp hc).1 (Nat.not_lt.mpr z)
/-- the pool at the law's entry: the script alone -/
def pq_S0 (b L : Nat) (xs : Nat → Int32) : HS := ([b], (fun _ => 168), (fun _ _ => .null), (fun _ => xs), (fun _ _ => 0), (fun _ => L), (fun _ _ => none))
theorem pq_S0R {b L : Nat} {xs : Nat → Int32} : pq_R (pq_S0 b L xs) b 168 := ⟨List.mem_cons_self, rfl⟩
theorem pq_S0r {b L a r : Nat} {xs : Nat → Int32} (h : pq_R (pq_S0 b L xs) a r) : a = b ∧ r = 168 := ⟨List.mem_singleton.mp h.1, h.2.symm⟩

