theorem pz_al {a b : Cond} {A : Array Value} {s : State} (h : (Cond.and a b).before A s = true) : a.before A s = true := by
  rw [Cond.before_and, Bool.and_eq_true] at h; exact h.1
theorem pz_ar {a b : Cond} {A : Array Value} {s : State} (h : (Cond.and a b).before A s = true) : b.before A s = true := by
  rw [Cond.before_and, Bool.and_eq_true] at h; exact h.2
theorem pz_eqI {t : Term} {x : Int32} {A : Array Value} {s : State} (h : (Cond.eq t (.int x)).before A s = true) : t.eval A s none [] s = some (.int x) := by
  have e1 : (Term.int x).eval A s none [] s = some (.int x) := rfl
  cases hv : t.eval A s none [] s with
  | none => simp [Cond.before, Cond.holds, Cond.value, hv, e1] at h
  | some v =>
    cases v <;> simp [Cond.before, Cond.holds, Cond.value, hv, e1] at h
    rw [h]
theorem pz_exI {t : Term} {n : String} {A : Array Value} {s : State} (h : (Cond.exactly t n).before A s = true) : ∃ a : Nat, t.eval A s none [] s = some (.ref a) := by
  obtain ⟨a, _, _, _, q1, -⟩ := Cond.exactly_spec (args := A) (first := s) (o := none) (s := s) (idx := []) (t := t) (cls := n) h
  exact ⟨a, q1⟩
theorem pz_OFof {t : Term} {o n d : String} {v : Value} {a : Nat} {A : Array Value} {s : State} {Fr : Nat → Prop} (ht : t.eval A s none [] s = some (.ref a)) (h : (Term.field t o n d).eval A s none [] s = some v) (hA : ∀ a : Nat, a < s.heap.size → ¬ Fr a) : va_OF o n d v a Fr s s.heap := by
  cases hf : s.fieldFound? o n d with
  | none => simp [Term.eval, ht, State.fieldOf?, State.fieldNamed?, hf] at h
  | some q =>
    obtain ⟨c, k, i, f⟩ := q
    obtain ⟨h1, cell, h2, h3, -, -, h4⟩ := Term.field_spec hf ht h
    exact ⟨c, k, i, f, cell, hf, h1, h2, h3, h4, hA a (Array.getElem?_eq_some_iff.mp h2).1⟩
theorem pz_Sgof {own tx : String} {k n : Nat} {f : Nat → Int32} {A : Array Value} {s : State} {Fr : Nat → Prop} (hn : n < 2 ^ 31) (h1 : (Cond.stringRef own k tx).before A s = true) (h2 : (Cond.exactly (.string own k) "java/lang/String").before A s = true) (h3 : (Cond.eq (.field (.string own k) "java/lang/String" "coder" "B") (.int 0)).before A s = true) (h4 : (Cond.arrayOf (.field (.string own k) "java/lang/String" "value" "[B") .byte).before A s = true)
    (h5 : (Cond.eq (.length (.field (.string own k) "java/lang/String" "value" "[B")) (.int (Int32.ofNat n))).before A s = true) (h6 : ∀ j : Nat, j < n → (Cond.eq (.elem (.field (.string own k) "java/lang/String" "value" "[B") (.int (Int32.ofNat j))) (.int (f j))).before A s = true) (hA : ∀ a : Nat, a < s.heap.size → ¬ Fr a) : ∃ q bv : Nat, vk_R own k tx q s ∧ pq_Sg q bv n f Fr s s.heap := by
  obtain ⟨q, hq⟩ := pz_exI h2
  obtain ⟨bv, hb, hT⟩ := va_Tof (f := fun j => .int (f j)) hn h4 (pz_eqI h5) (fun j hj => pz_eqI (h6 j hj)) hA
  exact ⟨q, bv, vk_R.of h1 hq, va_Oof h2 hq hA, pz_OFof hq (pz_eqI h3) hA, pz_OFof hq hb hA, hT⟩
set_option maxRecDepth 100000 in
theorem pz_s0 {A : Array Value} {s : State} {Fr : Nat → Prop} (hts : ∀ w ∈ lw_tbl, w.before A s = true) (hn : narrow_1.before A s = true) (hA : ∀ a : Nat, a < s.heap.size → ¬ Fr a) : ∃ q bv : Nat, vk_R (pq_sg 0).1 (pq_sg 0).2.1 (pq_sg 0).2.2.1 q s ∧ pq_Sg q bv (pq_sg 0).2.2.2.length (fun j => (pq_sg 0).2.2.2.getD j 0) Fr s s.heap := by
  refine pz_Sgof (own := "PatternPairs$Reader") (k := 122) (n := 9) (f := fun j => (pq_sg 0).2.2.2.getD j 0) (by decide) (hts _ (pq_in3 (i := 210) rfl)) (pz_ar (pz_al (pz_ar (pz_ar (pz_al (pz_al (pz_ar (pz_ar (pz_ar (pz_al hn)))))))))) (pz_al (pz_ar (pz_ar (pz_ar (pz_al (pz_al (pz_ar (pz_ar (pz_ar (pz_al hn)))))))))) (pz_ar (pz_ar (pz_ar (pz_ar (pz_al (pz_al (pz_ar (pz_ar (pz_ar (pz_al hn)))))))))) (pz_al (pz_al (pz_al (pz_ar (pz_al (pz_ar (pz_ar (pz_ar (pz_al hn))))))))) (fun j hj => ?_) hA
  match j, hj with
  | 0, _ => exact (pz_al (pz_ar (pz_al (pz_al (pz_ar (pz_al (pz_ar (pz_ar (pz_ar (pz_al hn))))))))))
  | 1, _ => exact (pz_ar (pz_ar (pz_al (pz_al (pz_ar (pz_al (pz_ar (pz_ar (pz_ar (pz_al hn))))))))))
  | 2, _ => exact (pz_al (pz_al (pz_ar (pz_al (pz_ar (pz_al (pz_ar (pz_ar (pz_ar (pz_al hn))))))))))
  | 3, _ => exact (pz_ar (pz_al (pz_ar (pz_al (pz_ar (pz_al (pz_ar (pz_ar (pz_ar (pz_al hn))))))))))
  | 4, _ => exact (pz_al (pz_ar (pz_ar (pz_al (pz_ar (pz_al (pz_ar (pz_ar (pz_ar (pz_al hn))))))))))
  | 5, _ => exact (pz_ar (pz_ar (pz_ar (pz_al (pz_ar (pz_al (pz_ar (pz_ar (pz_ar (pz_al hn))))))))))
  | 6, _ => exact (pz_al (pz_al (pz_ar (pz_ar (pz_al (pz_ar (pz_ar (pz_ar (pz_al hn)))))))))
  | 7, _ => exact (pz_al (pz_ar (pz_al (pz_ar (pz_ar (pz_al (pz_ar (pz_ar (pz_ar (pz_al hn))))))))))
  | 8, _ => exact (pz_ar (pz_ar (pz_al (pz_ar (pz_ar (pz_al (pz_ar (pz_ar (pz_ar (pz_al hn))))))))))
  | j + 9, h => exact absurd h (by omega)
set_option maxRecDepth 100000 in
theorem pz_s1 {A : Array Value} {s : State} {Fr : Nat → Prop} (hts : ∀ w ∈ lw_tbl, w.before A s = true) (hn : narrow_1.before A s = true) (hA : ∀ a : Nat, a < s.heap.size → ¬ Fr a) : ∃ q bv : Nat, vk_R (pq_sg 1).1 (pq_sg 1).2.1 (pq_sg 1).2.2.1 q s ∧ pq_Sg q bv (pq_sg 1).2.2.2.length (fun j => (pq_sg 1).2.2.2.getD j 0) Fr s s.heap := by
  refine pz_Sgof (own := "PatternPairs$Reader") (k := 165) (n := 3) (f := fun j => (pq_sg 1).2.2.2.getD j 0) (by decide) (hts _ (pq_in3 (i := 100) rfl)) (pz_ar (pz_ar (pz_al (pz_ar (pz_al (pz_ar (pz_al (pz_ar (pz_ar (pz_al hn)))))))))) (pz_al (pz_al (pz_ar (pz_ar (pz_al (pz_ar (pz_al (pz_ar (pz_ar (pz_al hn)))))))))) (pz_ar (pz_al (pz_ar (pz_ar (pz_al (pz_ar (pz_al (pz_ar (pz_ar (pz_al hn)))))))))) (pz_al (pz_ar (pz_ar (pz_ar (pz_al (pz_ar (pz_al (pz_ar (pz_ar (pz_al hn)))))))))) (fun j hj => ?_) hA
  match j, hj with
  | 0, _ => exact (pz_ar (pz_ar (pz_ar (pz_ar (pz_al (pz_ar (pz_al (pz_ar (pz_ar (pz_al hn))))))))))
  | 1, _ => exact (pz_al (pz_al (pz_al (pz_ar (pz_ar (pz_al (pz_ar (pz_ar (pz_al hn)))))))))
  | 2, _ => exact (pz_al (pz_ar (pz_al (pz_al (pz_ar (pz_ar (pz_al (pz_ar (pz_ar (pz_al hn))))))))))
  | j + 3, h => exact absurd h (by omega)
set_option maxRecDepth 100000 in
theorem pz_s2 {A : Array Value} {s : State} {Fr : Nat → Prop} (hts : ∀ w ∈ lw_tbl, w.before A s = true) (hn : narrow_1.before A s = true) (hA : ∀ a : Nat, a < s.heap.size → ¬ Fr a) : ∃ q bv : Nat, vk_R (pq_sg 2).1 (pq_sg 2).2.1 (pq_sg 2).2.2.1 q s ∧ pq_Sg q bv (pq_sg 2).2.2.2.length (fun j => (pq_sg 2).2.2.2.getD j 0) Fr s s.heap := by
  refine pz_Sgof (own := "PatternPairs$Reader") (k := 175) (n := 13) (f := fun j => (pq_sg 2).2.2.2.getD j 0) (by decide) (hts _ (pq_in3 (i := 108) rfl)) (pz_ar (pz_al (pz_ar (pz_al (pz_ar (pz_ar (pz_al (pz_ar (pz_ar (pz_al hn)))))))))) (pz_al (pz_ar (pz_ar (pz_al (pz_ar (pz_ar (pz_al (pz_ar (pz_ar (pz_al hn)))))))))) (pz_ar (pz_ar (pz_ar (pz_al (pz_ar (pz_ar (pz_al (pz_ar (pz_ar (pz_al hn)))))))))) (pz_al (pz_al (pz_ar (pz_ar (pz_ar (pz_al (pz_ar (pz_ar (pz_al hn))))))))) (fun j hj => ?_) hA
  match j, hj with
  | 0, _ => exact (pz_al (pz_ar (pz_al (pz_ar (pz_ar (pz_ar (pz_al (pz_ar (pz_ar (pz_al hn))))))))))
  | 1, _ => exact (pz_ar (pz_ar (pz_al (pz_ar (pz_ar (pz_ar (pz_al (pz_ar (pz_ar (pz_al hn))))))))))
  | 2, _ => exact (pz_al (pz_al (pz_ar (pz_ar (pz_ar (pz_ar (pz_al (pz_ar (pz_ar (pz_al hn))))))))))
  | 3, _ => exact (pz_ar (pz_al (pz_ar (pz_ar (pz_ar (pz_ar (pz_al (pz_ar (pz_ar (pz_al hn))))))))))
  | 4, _ => exact (pz_al (pz_ar (pz_ar (pz_ar (pz_ar (pz_ar (pz_al (pz_ar (pz_ar (pz_al hn))))))))))
  | 5, _ => exact (pz_ar (pz_ar (pz_ar (pz_ar (pz_ar (pz_ar (pz_al (pz_ar (pz_ar (pz_al hn))))))))))
  | 6, _ => exact (pz_al (pz_al (pz_al (pz_al (pz_al (pz_ar (pz_ar (pz_ar (pz_al hn)))))))))
  | 7, _ => exact (pz_al (pz_ar (pz_al (pz_al (pz_al (pz_al (pz_ar (pz_ar (pz_ar (pz_al hn))))))))))
  | 8, _ => exact (pz_ar (pz_ar (pz_al (pz_al (pz_al (pz_al (pz_ar (pz_ar (pz_ar (pz_al hn))))))))))
  | 9, _ => exact (pz_al (pz_ar (pz_al (pz_al (pz_al (pz_ar (pz_ar (pz_ar (pz_al hn)))))))))
  | 10, _ => exact (pz_al (pz_ar (pz_ar (pz_al (pz_al (pz_al (pz_ar (pz_ar (pz_ar (pz_al hn))))))))))
  | 11, _ => exact (pz_ar (pz_ar (pz_ar (pz_al (pz_al (pz_al (pz_ar (pz_ar (pz_ar (pz_al hn))))))))))
  | 12, _ => exact (pz_al (pz_al (pz_ar (pz_al (pz_al (pz_ar (pz_ar (pz_ar (pz_al hn)))))))))
  | j + 13, h => exact absurd h (by omega)
set_option maxRecDepth 100000 in
theorem pz_s3 {A : Array Value} {s : State} {Fr : Nat → Prop} (hts : ∀ w ∈ lw_tbl, w.before A s = true) (hn : narrow_1.before A s = true) (hA : ∀ a : Nat, a < s.heap.size → ¬ Fr a) : ∃ q bv : Nat, vk_R (pq_sg 3).1 (pq_sg 3).2.1 (pq_sg 3).2.2.1 q s ∧ pq_Sg q bv (pq_sg 3).2.2.2.length (fun j => (pq_sg 3).2.2.2.getD j 0) Fr s s.heap := by
  refine pz_Sgof (own := "PatternPairsModel") (k := 43) (n := 13) (f := fun j => (pq_sg 3).2.2.2.getD j 0) (by decide) (hts _ (pq_in6 (i := 30) rfl)) (pz_ar (pz_ar (pz_al (pz_ar (pz_ar (pz_al (pz_al (pz_ar (pz_ar (pz_ar hn)))))))))) (pz_al (pz_al (pz_ar (pz_ar (pz_ar (pz_al (pz_al (pz_ar (pz_ar (pz_ar hn)))))))))) (pz_ar (pz_al (pz_ar (pz_ar (pz_ar (pz_al (pz_al (pz_ar (pz_ar (pz_ar hn)))))))))) (pz_al (pz_ar (pz_ar (pz_ar (pz_ar (pz_al (pz_al (pz_ar (pz_ar (pz_ar hn)))))))))) (fun j hj => ?_) hA
  match j, hj with
  | 0, _ => exact (pz_ar (pz_ar (pz_ar (pz_ar (pz_ar (pz_al (pz_al (pz_ar (pz_ar (pz_ar hn))))))))))
  | 1, _ => exact (pz_al (pz_al (pz_al (pz_al (pz_ar (pz_al (pz_ar (pz_ar (pz_ar hn)))))))))
  | 2, _ => exact (pz_al (pz_ar (pz_al (pz_al (pz_al (pz_ar (pz_al (pz_ar (pz_ar (pz_ar hn))))))))))
  | 3, _ => exact (pz_ar (pz_ar (pz_al (pz_al (pz_al (pz_ar (pz_al (pz_ar (pz_ar (pz_ar hn))))))))))
  | 4, _ => exact (pz_al (pz_ar (pz_al (pz_al (pz_ar (pz_al (pz_ar (pz_ar (pz_ar hn)))))))))
  | 5, _ => exact (pz_al (pz_ar (pz_ar (pz_al (pz_al (pz_ar (pz_al (pz_ar (pz_ar (pz_ar hn))))))))))
  | 6, _ => exact (pz_ar (pz_ar (pz_ar (pz_al (pz_al (pz_ar (pz_al (pz_ar (pz_ar (pz_ar hn))))))))))
  | 7, _ => exact (pz_al (pz_al (pz_ar (pz_al (pz_ar (pz_al (pz_ar (pz_ar (pz_ar hn)))))))))
  | 8, _ => exact (pz_al (pz_ar (pz_al (pz_ar (pz_al (pz_ar (pz_al (pz_ar (pz_ar (pz_ar hn))))))))))
  | 9, _ => exact (pz_ar (pz_ar (pz_al (pz_ar (pz_al (pz_ar (pz_al (pz_ar (pz_ar (pz_ar hn))))))))))
  | 10, _ => exact (pz_al (pz_al (pz_ar (pz_ar (pz_al (pz_ar (pz_al (pz_ar (pz_ar (pz_ar hn))))))))))
  | 11, _ => exact (pz_ar (pz_al (pz_ar (pz_ar (pz_al (pz_ar (pz_al (pz_ar (pz_ar (pz_ar hn))))))))))
  | 12, _ => exact (pz_al (pz_ar (pz_ar (pz_ar (pz_al (pz_ar (pz_al (pz_ar (pz_ar (pz_ar hn))))))))))
  | j + 13, h => exact absurd h (by omega)
set_option maxRecDepth 100000 in
theorem pz_s4 {A : Array Value} {s : State} {Fr : Nat → Prop} (hts : ∀ w ∈ lw_tbl, w.before A s = true) (hn : narrow_1.before A s = true) (hA : ∀ a : Nat, a < s.heap.size → ¬ Fr a) : ∃ q bv : Nat, vk_R (pq_sg 4).1 (pq_sg 4).2.1 (pq_sg 4).2.2.1 q s ∧ pq_Sg q bv (pq_sg 4).2.2.2.length (fun j => (pq_sg 4).2.2.2.getD j 0) Fr s s.heap := by
  refine pz_Sgof (own := "PatternPairsModel") (k := 59) (n := 3) (f := fun j => (pq_sg 4).2.2.2.getD j 0) (by decide) (hts _ (pq_in6 (i := 35) rfl)) (pz_al (pz_ar (pz_al (pz_al (pz_al (pz_al (pz_ar (pz_ar (pz_ar (pz_ar hn)))))))))) (pz_ar (pz_ar (pz_al (pz_al (pz_al (pz_al (pz_ar (pz_ar (pz_ar (pz_ar hn)))))))))) (pz_al (pz_ar (pz_al (pz_al (pz_al (pz_ar (pz_ar (pz_ar (pz_ar hn))))))))) (pz_al (pz_ar (pz_ar (pz_al (pz_al (pz_al (pz_ar (pz_ar (pz_ar (pz_ar hn)))))))))) (fun j hj => ?_) hA
  match j, hj with
  | 0, _ => exact (pz_ar (pz_ar (pz_ar (pz_al (pz_al (pz_al (pz_ar (pz_ar (pz_ar (pz_ar hn))))))))))
  | 1, _ => exact (pz_al (pz_al (pz_ar (pz_al (pz_al (pz_ar (pz_ar (pz_ar (pz_ar hn)))))))))
  | 2, _ => exact (pz_al (pz_ar (pz_al (pz_ar (pz_al (pz_al (pz_ar (pz_ar (pz_ar (pz_ar hn))))))))))
  | j + 3, h => exact absurd h (by omega)
set_option maxRecDepth 100000 in
theorem pz_s5 {A : Array Value} {s : State} {Fr : Nat → Prop} (hts : ∀ w ∈ lw_tbl, w.before A s = true) (hn : narrow_1.before A s = true) (hA : ∀ a : Nat, a < s.heap.size → ¬ Fr a) : ∃ q bv : Nat, vk_R (pq_sg 5).1 (pq_sg 5).2.1 (pq_sg 5).2.2.1 q s ∧ pq_Sg q bv (pq_sg 5).2.2.2.length (fun j => (pq_sg 5).2.2.2.getD j 0) Fr s s.heap := by
  refine pz_Sgof (own := "PatternPairsModel") (k := 76) (n := 7) (f := fun j => (pq_sg 5).2.2.2.getD j 0) (by decide) (hts _ (pq_in6 (i := 42) rfl)) (pz_al (pz_ar (pz_ar (pz_ar (pz_ar (pz_al (pz_ar (pz_ar (pz_ar (pz_ar hn)))))))))) (pz_ar (pz_ar (pz_ar (pz_ar (pz_ar (pz_al (pz_ar (pz_ar (pz_ar (pz_ar hn)))))))))) (pz_al (pz_al (pz_al (pz_al (pz_ar (pz_ar (pz_ar (pz_ar (pz_ar hn))))))))) (pz_al (pz_ar (pz_al (pz_al (pz_al (pz_ar (pz_ar (pz_ar (pz_ar (pz_ar hn)))))))))) (fun j hj => ?_) hA
  match j, hj with
  | 0, _ => exact (pz_ar (pz_ar (pz_al (pz_al (pz_al (pz_ar (pz_ar (pz_ar (pz_ar (pz_ar hn))))))))))
  | 1, _ => exact (pz_al (pz_ar (pz_al (pz_al (pz_ar (pz_ar (pz_ar (pz_ar (pz_ar hn)))))))))
  | 2, _ => exact (pz_al (pz_ar (pz_ar (pz_al (pz_al (pz_ar (pz_ar (pz_ar (pz_ar (pz_ar hn))))))))))
  | 3, _ => exact (pz_ar (pz_ar (pz_ar (pz_al (pz_al (pz_ar (pz_ar (pz_ar (pz_ar (pz_ar hn))))))))))
  | 4, _ => exact (pz_al (pz_al (pz_ar (pz_al (pz_ar (pz_ar (pz_ar (pz_ar (pz_ar hn)))))))))
  | 5, _ => exact (pz_al (pz_ar (pz_al (pz_ar (pz_al (pz_ar (pz_ar (pz_ar (pz_ar (pz_ar hn))))))))))
  | 6, _ => exact (pz_ar (pz_ar (pz_al (pz_ar (pz_al (pz_ar (pz_ar (pz_ar (pz_ar (pz_ar hn))))))))))
  | j + 7, h => exact absurd h (by omega)
theorem pz_m102 {A : Array Value} {s : State} (hts : ∀ w ∈ lw_tbl, w.before A s = true) (hn : narrow_1.before A s = true) : ∃ a : Nat, vk_R "PatternPairs" 102 (pq_sx.getD 0 (0, "")).2 a s := by
  obtain ⟨a, ha⟩ := pz_exI (pz_al (pz_al (pz_al (pz_al (pz_ar (pz_ar (pz_al (pz_al (pz_ar hn)))))))))
  exact ⟨a, vk_R.of (hts _ (pq_in4 (i := 220) rfl)) ha⟩
theorem pz_m106 {A : Array Value} {s : State} (hts : ∀ w ∈ lw_tbl, w.before A s = true) (hn : narrow_1.before A s = true) : ∃ a : Nat, vk_R "PatternPairs" 106 (pq_sx.getD 1 (0, "")).2 a s := by
  obtain ⟨a, ha⟩ := pz_exI (pz_al (pz_ar (pz_ar (pz_ar (pz_al (pz_al (pz_al (pz_ar (pz_al (pz_ar hn))))))))))
  exact ⟨a, vk_R.of (hts _ (pq_in4 (i := 230) rfl)) ha⟩
theorem pz_m116 {A : Array Value} {s : State} (hts : ∀ w ∈ lw_tbl, w.before A s = true) (hn : narrow_1.before A s = true) : ∃ a : Nat, vk_R "PatternPairs" 116 (pq_sx.getD 2 (0, "")).2 a s := by
  obtain ⟨a, ha⟩ := pz_exI (pz_al (pz_ar (pz_al (pz_ar (pz_ar (pz_ar (pz_al (pz_ar (pz_al (pz_ar hn))))))))))
  exact ⟨a, vk_R.of (hts _ (pq_in5 (i := 89) rfl)) ha⟩
theorem pz_m142 {A : Array Value} {s : State} (hts : ∀ w ∈ lw_tbl, w.before A s = true) (hn : narrow_1.before A s = true) : ∃ a : Nat, vk_R "PatternPairs" 142 (pq_sx.getD 3 (0, "")).2 a s := by
  obtain ⟨a, ha⟩ := pz_exI (pz_ar (pz_ar (pz_ar (pz_ar (pz_al (pz_ar (pz_ar (pz_ar (pz_al (pz_ar hn))))))))))
  exact ⟨a, vk_R.of (hts _ (pq_in5 (i := 134) rfl)) ha⟩
theorem pz_m151 {A : Array Value} {s : State} (hts : ∀ w ∈ lw_tbl, w.before A s = true) (hn : narrow_1.before A s = true) : ∃ a : Nat, vk_R "PatternPairs" 151 (pq_sx.getD 4 (0, "")).2 a s := by
  obtain ⟨a, ha⟩ := pz_exI (pz_ar (pz_ar (pz_ar (pz_al (pz_al (pz_ar (pz_al (pz_al (pz_ar (pz_ar hn))))))))))
  exact ⟨a, vk_R.of (hts _ (pq_in5 (i := 181) rfl)) ha⟩
theorem pz_m158 {A : Array Value} {s : State} (hts : ∀ w ∈ lw_tbl, w.before A s = true) (hn : narrow_1.before A s = true) : ∃ a : Nat, vk_R "PatternPairs" 158 (pq_sx.getD 5 (0, "")).2 a s := by
  obtain ⟨a, ha⟩ := pz_exI (pz_al (pz_ar (pz_al (pz_ar (pz_ar (pz_al (pz_ar (pz_al (pz_ar (pz_ar hn))))))))))
  exact ⟨a, vk_R.of (hts _ (pq_in5 (i := 195) rfl)) ha⟩
theorem pz_m80 {A : Array Value} {s : State} (hts : ∀ w ∈ lw_tbl, w.before A s = true) (hn : narrow_1.before A s = true) : ∃ a : Nat, vk_R "PatternPairs" 80 (pq_sx.getD 6 (0, "")).2 a s := by
  obtain ⟨a, ha⟩ := pz_exI (pz_ar (pz_ar (pz_ar (pz_al (pz_ar (pz_al (pz_ar (pz_al (pz_ar (pz_al hn))))))))))
  exact ⟨a, vk_R.of (hts _ (pq_in2 (i := 181) rfl)) ha⟩
theorem pz_m91 {A : Array Value} {s : State} (hts : ∀ w ∈ lw_tbl, w.before A s = true) (hn : narrow_1.before A s = true) : ∃ a : Nat, vk_R "PatternPairs" 91 (pq_sx.getD 7 (0, "")).2 a s := by
  obtain ⟨a, ha⟩ := pz_exI (pz_al (pz_ar (pz_al (pz_al (pz_al (pz_al (pz_ar (pz_ar (pz_al hn)))))))))
  exact ⟨a, vk_R.of (hts _ (pq_in2 (i := 228) rfl)) ha⟩
theorem pz_bs {A : Array Value} {s : State} {Fr : Nat → Prop} (hts : ∀ w ∈ lw_tbl, w.before A s = true) (hn : narrow_1.before A s = true) (hA : ∀ a : Nat, a < s.heap.size → ¬ Fr a) {cy : Nat → ClassId} (hs : ∀ i, i < 6 → vk_R (pq_sg i).1 (pq_sg i).2.1 (pq_sg i).2.2.1 (cy (10 + i)) s ∧ pq_Sg (cy (10 + i)) (cy (20 + i)) (pq_sg i).2.2.2.length (fun j => (pq_sg i).2.2.2.getD j 0) Fr s s.heap) (hgv : (Jvm.Cond.and given_1 narrow_1).before A s = true) : pq_B cy Fr s s.heap := by
  obtain ⟨z1, z2, z3, z4⟩ := pq_wZ hts hgv hA
  refine ⟨hs, ?_, pq_wC hts hgv hA, z1, z2, z3, z4⟩
  refine List.forall_mem_cons.mpr ⟨pz_m102 hts hn, List.forall_mem_cons.mpr ⟨pz_m106 hts hn, List.forall_mem_cons.mpr ⟨pz_m116 hts hn, List.forall_mem_cons.mpr ⟨pz_m142 hts hn, List.forall_mem_cons.mpr ⟨pz_m151 hts hn, List.forall_mem_cons.mpr ⟨pz_m158 hts hn, List.forall_mem_cons.mpr ⟨pz_m80 hts hn, List.forall_mem_cons.mpr ⟨pz_m91 hts hn, fun _ h => absurd h List.not_mem_nil⟩⟩⟩⟩⟩⟩⟩⟩
/-- the free words of cy: six Strings and their rows -/
def pz_cy (f q r : Nat → Nat) (k : Nat) : ClassId := if k < 10 then f k else if k < 20 then q (k - 10) else r (k - 20)
theorem pz_cyq {f q r : Nat → Nat} {i : Nat} (h : i < 6) : pz_cy f q r (10 + i) = q i := by
  unfold pz_cy
  rw [if_neg (by omega), if_pos (by omega), Nat.add_sub_cancel_left]
theorem pz_cyr {f q r : Nat → Nat} {i : Nat} (h : i < 6) : pz_cy f q r (20 + i) = r i := by
  unfold pz_cy
  rw [if_neg (by omega), if_neg (by omega), Nat.add_sub_cancel_left]
theorem pz_sAll {A : Array Value} {s : State} {Fr : Nat → Prop} (hts : ∀ w ∈ lw_tbl, w.before A s = true) (hn : narrow_1.before A s = true) (hA : ∀ a : Nat, a < s.heap.size → ¬ Fr a) : ∃ q r : Nat → Nat, ∀ i, i < 6 → vk_R (pq_sg i).1 (pq_sg i).2.1 (pq_sg i).2.2.1 (q i) s ∧ pq_Sg (q i) (r i) (pq_sg i).2.2.2.length (fun j => (pq_sg i).2.2.2.getD j 0) Fr s s.heap := by
  have h : ∀ i : Nat, ∃ q bv : Nat, i < 6 → vk_R (pq_sg i).1 (pq_sg i).2.1 (pq_sg i).2.2.1 q s ∧ pq_Sg q bv (pq_sg i).2.2.2.length (fun j => (pq_sg i).2.2.2.getD j 0) Fr s s.heap := by
    intro i
    match i with
    | 0 => obtain ⟨q, bv, h⟩ := pz_s0 hts hn hA; exact ⟨q, bv, fun _ => h⟩
    | 1 => obtain ⟨q, bv, h⟩ := pz_s1 hts hn hA; exact ⟨q, bv, fun _ => h⟩
    | 2 => obtain ⟨q, bv, h⟩ := pz_s2 hts hn hA; exact ⟨q, bv, fun _ => h⟩
    | 3 => obtain ⟨q, bv, h⟩ := pz_s3 hts hn hA; exact ⟨q, bv, fun _ => h⟩
    | 4 => obtain ⟨q, bv, h⟩ := pz_s4 hts hn hA; exact ⟨q, bv, fun _ => h⟩
    | 5 => obtain ⟨q, bv, h⟩ := pz_s5 hts hn hA; exact ⟨q, bv, fun _ => h⟩
    | i + 6 => exact ⟨0, 0, fun h => absurd h (by omega)⟩
  exact ⟨fun i => (h i).choose, fun i => (h i).choose_spec.choose, fun i hi => (h i).choose_spec.choose_spec hi⟩
theorem whole_start {p : Program} {e : Env} {s : State} {m : MethodId} {below : List Frame} {meth : Method} {c : Code} (l : Launch) (hl0 : l.stackTraces = false) {b L : Nat} {xs : Nat → Int32} (hL : L ≤ 384) (C0 : lw_At p s m meth c b L xs) : W p l e room_1 s m #[Value.ref b] below meth c s.heap [] 0 0 (lw_Z below #[Value.ref b] s) (entryFrame m ([Value.ref b] : List Value).toArray 8) := by
  have C1 := C0
  obtain ⟨-, -, -, -, -, hts, -, -, -, hgv⟩ := C1
  have hn := pz_ar hgv
  obtain ⟨D, f, hK⟩ := pq_vaK hts
  have hA : ∀ a : Nat, a < s.heap.size → ¬ s.heap.size ≤ a := fun a h1 h2 => absurd h1 (Nat.not_lt.mpr h2)
  obtain ⟨q, r, hs⟩ := pz_sAll hts hn hA
  have hB : pq_B (pz_cy f q r) (fun a => s.heap.size ≤ a) s s.heap := pz_bs hts hn hA (fun i hi => by rw [pz_cyq hi, pz_cyr hi]; exact hs i hi) hgv
  exact pq_lawW l hl0 hL C0 D (pz_cy f q r) (fun S a ha pi ou hou t np nq hIx hol => k_L_octet l D _ hl0 S a ha pi ou hou t np nq hIx hol) (hK _ (fun k hk => if_pos (by omega))) (hB.go (State.WarmedH.refl s) (fun _ _ _ => rfl) (fun a h => pq_S0A h)) (pq_wNc hgv)
