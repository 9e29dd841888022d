/-! ===== the class's sets, numbered: 0 the set of none, 1 the empty text's, then as they come ===== -/
def tk_cb (se : Nat → Int64) (t : Nat) : Option tz_S := if t = 0 then some (fun _ => False) else if t = 1 then none else some (tk_X se t)
def tk_cs (z : tr_Z) (se : Nat → Int64) (t b : Nat) : tz_S := if t = 0 then (fun _ => False) else if t = 1 then tz_d0 z b else tz_d z (tk_X se t) b
theorem tk_cb0 {se : Nat → Int64} : tk_cb se 0 = some (fun _ => False) := if_pos rfl
theorem tk_cb1 {se : Nat → Int64} : tk_cb se 1 = none := by unfold tk_cb; rw [if_neg (by decide), if_pos rfl]
theorem tk_cb2 {se : Nat → Int64} {t : Nat} (h : 2 ≤ t) : tk_cb se t = some (tk_X se t) := by unfold tk_cb; rw [if_neg (by omega), if_neg (by omega)]
theorem tk_cs1 {z : tr_Z} {se : Nat → Int64} {b : Nat} : tk_cs z se 1 b = tz_d0 z b := by unfold tk_cs; rw [if_neg (by decide), if_pos rfl]
theorem tk_cs2 {z : tr_Z} {se : Nat → Int64} {t b : Nat} (h : 2 ≤ t) : tk_cs z se t b = tz_d z (tk_X se t) b := by unfold tk_cs; rw [if_neg (by omega), if_neg (by omega)]
theorem tk_cb.e {z : tr_Z} {se : Nat → Int64} {t b : Nat} : tz_e z (tk_cb se t) b = some (tk_cs z se t b) := by
  by_cases h : t = 0
  · rw [h, tk_cb0]
    show some (tz_d z (fun _ => False) b) = some (tk_cs z se 0 b)
    congr 1
    unfold tk_cs
    rw [if_pos rfl]
    exact funext fun q => propext ⟨fun w => w.elim (fun _ v => v.1.elim), False.elim⟩
  · by_cases h1 : t = 1
    · rw [h1, tk_cb1, tk_cs1]; rfl
    · rw [tk_cb2 (by omega), tk_cs2 (by omega)]; rfl
theorem tk_ri {K t s k kn : Nat} (hk : k < K) (h : t < s ∨ (t = s ∧ k < kn)) : K * t + k ≠ K * s + kn := by
  rcases h with h | ⟨h, h2⟩
  · have : K * (t + 1) ≤ K * s := Nat.mul_le_mul_left K h
    rw [Nat.mul_add, Nat.mul_one] at this
    omega
  · rw [h]; omega
/-- how far the walk has come: the sets found, the steps of those visited, whether the set of none was come to -/
def tk_Wi (z : tr_Z) (se : Nat → Int64) (sp : Nat → Int32) (K : Nat) (ls : Nat → Nat) (ns s kn : Nat) (nr : Prop) : Prop :=
  (2 ≤ ns ∧ ns ≤ 402) ∧ (∀ t, 2 ≤ t → t < ns → tp_R (tz_d0 z) (tz_d z) (tk_X se t) ∧ ∃ p, tk_X se t p) ∧
  (∀ t u, 2 ≤ t → t < u → u < ns → tk_X se t ≠ tk_X se u) ∧
  (∀ t k, k < K → (t < s ∨ (t = s ∧ k < kn)) → ∃ u : Nat, u < ns ∧ (sp (K * t + k)).toInt = (u : Int) ∧ some (tk_cs z se t (ls k)) = tk_cb se u) ∧
  (nr → tp_R (tz_d0 z) (tz_d z) (fun _ => False)) ∧
  (¬ nr → ∀ t k, k < K → 1 ≤ t → (t < s ∨ (t = s ∧ k < kn)) → (sp (K * t + k)).toInt ≠ 0)
/-- the bytes' kinds -/
def tk_Kn (z : tr_Z) (K : Nat) (ls kd : Nat → Nat) : Prop := (1 ≤ K ∧ K ≤ 128) ∧ (∀ k, k < K → ls k < 128) ∧ ∀ b, b < 128 → kd b < K ∧ ∀ q, q < z.1 → (tr_in (z.2.1 q) b ↔ tr_in (z.2.1 q) (ls (kd b)))
section TE
variable {z : tr_Z} {se se' : Nat → Int64} {sp sp' : Nat → Int32} {K ns s kn : Nat} {ls kd : Nat → Nat} {nr : Prop}
theorem tk_Wi.st (h : tk_Wi z se sp K ls ns s kn nr) {t b : Nat} (h1 : 1 ≤ t) (ht : t < ns) (hb : b < 128) : tp_R (tz_d0 z) (tz_d z) (tk_cs z se t b) := by
  by_cases e : t = 1
  · rw [e, tk_cs1]; exact tp_R.s hb
  · rw [tk_cs2 (by omega)]; exact (h.2.1 t (by omega) ht).1.go hb
theorem tk_Wi.go (h : tk_Wi z se sp K ls ns s kn nr) (hk : kn < K) {v : Int32} {u : Nat} {nr2 : Prop} (hv : v.toInt = (u : Int)) (hu : u < ns) (e : some (tk_cs z se s (ls kn)) = tk_cb se u) (h1 : nr → nr2) (h2 : nr2 → tp_R (tz_d0 z) (tz_d z) (fun _ => False)) (h3 : u = 0 → nr2) : tk_Wi z se (upd sp (K * s + kn) v) K ls ns s (kn + 1) nr2 := by
  refine ⟨h.1, h.2.1, h.2.2.1, fun t k hk2 ht => ?_, h2, fun hn t k hk2 t1 ht => ?_⟩
  · by_cases c : t = s ∧ k = kn
    · rw [c.1, c.2, pk_us]; exact ⟨u, hu, hv, e⟩
    · have ht2 : t < s ∨ (t = s ∧ k < kn) := by omega
      rw [pk_un (tk_ri hk2 ht2)]; exact h.2.2.2.1 t k hk2 ht2
  · by_cases c : t = s ∧ k = kn
    · rw [c.1, c.2, pk_us, hv]; exact fun w => hn (h3 (by omega))
    · have ht2 : t < s ∨ (t = s ∧ k < kn) := by omega
      rw [pk_un (tk_ri hk2 ht2)]; exact h.2.2.2.2.2 (fun w => hn (h1 w)) t k hk2 t1 ht2
theorem tk_Wi.zr (h : tk_Wi z se sp K ls ns s kn nr) (hk : kn < K) (hs1 : 1 ≤ s) (hs : s < ns) (hl : ls kn < 128) {v : Int32} (hv : v.toInt = 0) (e : ∀ q, ¬ tk_cs z se s (ls kn) q) : tk_Wi z se (upd sp (K * s + kn) v) K ls ns s (kn + 1) True := by
  have e2 : tk_cs z se s (ls kn) = fun _ => False := funext fun q => propext ⟨fun w => e q w, False.elim⟩
  refine h.go hk (u := 0) hv (by have := h.1.1; omega) (by rw [e2, tk_cb0]) (fun _ => trivial) (fun _ => ?_) (fun _ => trivial)
  rw [← e2]; exact h.st hs1 hs hl
theorem tk_Wi.new (h : tk_Wi z se sp K ls ns s kn nr) (hs : s < ns) (h4 : ns < 402) (h1 : ∀ i, i < 7 * ns → se' i = se i) {B : tz_S} (hB : tk_X se' ns = B) (hr : tp_R (tz_d0 z) (tz_d z) B) (hne : ∃ p, B p) (hn : ∀ t, 2 ≤ t → t < ns → tk_X se t ≠ B) : tk_Wi z se' sp K ls (ns + 1) s kn nr := by
  have e : ∀ t, t < ns → tk_X se' t = tk_X se t := fun t ht => tk_X.sm (fun w hw => h1 _ (by omega))
  refine ⟨⟨by have := h.1.1; omega, by omega⟩, fun t a b => ?_, fun t u a b c => ?_, fun t k hk ht => ?_, h.2.2.2.2.1, h.2.2.2.2.2⟩
  · by_cases c : t = ns
    · rw [c, hB]; exact ⟨hr, hne⟩
    · rw [e t (by omega)]; exact h.2.1 t a (by omega)
  · by_cases d : u = ns
    · rw [d, hB, e t (by omega)]; exact hn t a (by omega)
    · rw [e t (by omega), e u (by omega)]; exact h.2.2.1 t u a b (by omega)
  · obtain ⟨u, u1, u2, u3⟩ := h.2.2.2.1 t k hk ht
    have ecs : tk_cs z se' t (ls k) = tk_cs z se t (ls k) := by unfold tk_cs; rw [e t (by omega)]
    have ecb : tk_cb se' u = tk_cb se u := by unfold tk_cb; rw [e u u1]
    exact ⟨u, by omega, u2, by rw [ecs, ecb]; exact u3⟩
theorem tk_Wi.row (h : tk_Wi z se sp K ls ns s K nr) : tk_Wi z se sp K ls ns (s + 1) 0 nr := by
  refine ⟨h.1, h.2.1, h.2.2.1, fun t k hk ht => h.2.2.2.1 t k hk (by omega), h.2.2.2.2.1, fun hn t k hk t1 ht => h.2.2.2.2.2 hn t k hk t1 (by omega)⟩
theorem tk_Wi.nd (h : tk_Wi z se sp K ls ns s kn nr) : ((List.range (ns - 2)).map (fun i => tk_X se (i + 2))).Nodup := by
  refine List.pairwise_map.mpr (List.Pairwise.imp_of_mem ?_ List.nodup_range)
  intro i j hi hj hne e
  have hi := List.mem_range.mp hi
  have hj := List.mem_range.mp hj
  by_cases c : i < j
  · exact h.2.2.1 (i + 2) (j + 2) (by omega) (by omega) (by omega) e
  · exact h.2.2.1 (j + 2) (i + 2) (by omega) (by omega) (by omega) e.symm
theorem tk_Wi.big (h : tk_Wi z se sp K ls 402 s kn nr) {B : tz_S} (hB : tp_R (tz_d0 z) (tz_d z) B) (hn : ∀ t, 2 ≤ t → t < 402 → tk_X se t ≠ B) : tz_big z := by
  refine ⟨B :: (List.range 400).map (fun i => tk_X se (i + 2)), List.nodup_cons.mpr ⟨fun hm => ?_, h.nd⟩, by rw [List.length_cons, List.length_map, List.length_range], List.forall_mem_cons.mpr ⟨hB, fun x hx => ?_⟩⟩
  · obtain ⟨i, hi, e⟩ := List.mem_map.mp hm
    have := List.mem_range.mp hi
    exact hn (i + 2) (by omega) (by omega) e
  · obtain ⟨i, hi, rfl⟩ := List.mem_map.mp hx
    have := List.mem_range.mp hi
    exact (h.2.1 (i + 2) (by omega) (by omega)).1
theorem tk_Wi.bigz (h : tk_Wi z se sp K ls 402 s kn nr) (hr : nr) : tz_big z := h.big (h.2.2.2.2.1 hr) (fun t a b e => by
  obtain ⟨p, hp⟩ := (h.2.1 t a b).2
  rw [e] at hp
  exact hp)
theorem tk_Kn.cs (hG : tz_G z) (hK : tk_Kn z K ls kd) {t b : Nat} (hb : b < 128) : tk_cs z se t b = tk_cs z se t (ls (kd b)) := by
  have hq := (hK.2.2 b hb).2
  by_cases e : t = 0
  · rw [e]; rfl
  · by_cases e1 : t = 1
    · rw [e1, tk_cs1, tk_cs1]
      exact funext fun q => propext ⟨fun w => ⟨w.1, (hq q (hG.2.2.1 q w.1)).mp w.2⟩, fun w => ⟨w.1, (hq q (hG.2.2.1 q w.1)).mpr w.2⟩⟩
    · rw [tk_cs2 (by omega), tk_cs2 (by omega)]
      exact funext fun q => propext ⟨fun ⟨p, w⟩ => ⟨p, w.1, w.2.1, (hq q (hG.2.2.2.2.1 p q w.2.1).2).mp w.2.2⟩, fun ⟨p, w⟩ => ⟨p, w.1, w.2.1, (hq q (hG.2.2.2.2.1 p q w.2.1).2).mpr w.2.2⟩⟩
def tk_sk (sp : Nat → Int32) (K k t : Nat) : Nat := (sp (K * t + k)).toInt.toNat
theorem tk_Wi.sk (h : tk_Wi z se sp K ls ns ns 0 nr) {t k : Nat} (ht : t < ns) (hk : k < K) : tk_sk sp K k t < ns ∧ some (tk_cs z se t (ls k)) = tk_cb se (tk_sk sp K k t) ∧ (sp (K * t + k)).toInt = (tk_sk sp K k t : Int) := by
  obtain ⟨u, u1, u2, u3⟩ := h.2.2.2.1 t k hk (Or.inl ht)
  have e : tk_sk sp K k t = u := by unfold tk_sk; rw [u2]; rfl
  rw [e]; exact ⟨u1, u3, u2⟩
theorem tk_Wi.n (h : tk_Wi z se sp K ls ns ns 0 nr) (hG : tz_G z) (hK : tk_Kn z K ls kd) (t b : Nat) (ht : t < ns) (hb : b < 128) : tk_sk sp K (kd b) t < ns ∧ tz_e z (tk_cb se t) b = tk_cb se (tk_sk sp K (kd b) t) := by
  have a := h.sk ht (hK.2.2 b hb).1
  exact ⟨a.1, by rw [tk_cb.e, hK.cs hG hb]; exact a.2.1⟩
theorem tk_Wi.mem (h : tk_Wi z se sp K ls ns ns 0 nr) (hG : tz_G z) (hK : tk_Kn z K ls kd) {t b : Nat} (h1 : 1 ≤ t) (ht : t < ns) (hb : b < 128) : (∃ u, 2 ≤ u ∧ u < ns ∧ tk_cs z se t b = tk_X se u) ∨ (nr ∧ tk_cs z se t b = fun _ => False) := by
  have a := h.sk ht (hK.2.2 b hb).1
  rw [hK.cs hG hb]
  by_cases e : tk_sk sp K (kd b) t = 0
  · refine Or.inr ⟨Classical.byContradiction (fun w => h.2.2.2.2.2 w t (kd b) (hK.2.2 b hb).1 h1 (Or.inl ht) (by rw [a.2.2, e]; rfl)), ?_⟩
    have a2 := a.2.1
    rw [e, tk_cb0] at a2
    exact Option.some.inj a2
  · by_cases e1 : tk_sk sp K (kd b) t = 1
    · have a2 := a.2.1
      rw [e1, tk_cb1] at a2
      cases a2
    · have a2 := a.2.1
      rw [tk_cb2 (by omega)] at a2
      exact Or.inl ⟨_, by omega, a.1, Option.some.inj a2⟩
theorem tk_Wi.A (h : tk_Wi z se sp K ls ns ns 0 nr) (hG : tz_G z) (hK : tk_Kn z K ls kd) (hn : ns < 402 ∨ ¬ nr) : ∃ L, tp_A (tz_d0 z) (tz_d z) L ∧ L.length ≤ 400 := by
  have hb := h.1
  have mem : ∀ u, 2 ≤ u → u < ns → tk_X se u ∈ (List.range (ns - 2)).map (fun i => tk_X se (i + 2)) := fun u h1 h2 => List.mem_map.mpr ⟨u - 2, List.mem_range.mpr (by omega), by rw [show u - 2 + 2 = u by omega]⟩
  have rr : ∀ x ∈ (List.range (ns - 2)).map (fun i => tk_X se (i + 2)), ∃ t, 2 ≤ t ∧ t < ns ∧ x = tk_X se t := fun x hx => by
    obtain ⟨i, hi, rfl⟩ := List.mem_map.mp hx
    have := List.mem_range.mp hi
    exact ⟨i + 2, by omega, by omega, rfl⟩
  by_cases c : nr
  · refine ⟨(fun _ => False) :: (List.range (ns - 2)).map (fun i => tk_X se (i + 2)), ⟨List.nodup_cons.mpr ⟨fun hm => ?_, h.nd⟩, List.forall_mem_cons.mpr ⟨h.2.2.2.2.1 c, fun x hx => ?_⟩, fun b hb => ?_, fun x hx b hb => ?_⟩, ?_⟩
    · obtain ⟨t, t1, t2, e⟩ := rr _ hm
      obtain ⟨p, hp⟩ := (h.2.1 t t1 t2).2
      rw [← e] at hp
      exact hp
    · obtain ⟨t, t1, t2, rfl⟩ := rr _ hx
      exact (h.2.1 t t1 t2).1
    · rcases h.mem hG hK (t := 1) (by omega) (by omega) hb with ⟨u, u1, u2, u3⟩ | ⟨_, u3⟩
      · rw [tk_cs1] at u3; rw [u3]; exact List.mem_cons_of_mem _ (mem u u1 u2)
      · rw [tk_cs1] at u3; rw [u3]; exact List.mem_cons_self
    · rcases List.mem_cons.mp hx with e | hx
      · have : tz_d z x b = fun _ => False := by rw [e]; exact funext fun q => propext ⟨fun w => w.elim (fun _ v => v.1.elim), False.elim⟩
        rw [this]; exact List.mem_cons_self
      · obtain ⟨t, t1, t2, rfl⟩ := rr _ hx
        rcases h.mem hG hK (t := t) (by omega) t2 hb with ⟨u, u1, u2, u3⟩ | ⟨_, u3⟩
        · rw [tk_cs2 t1] at u3; rw [u3]; exact List.mem_cons_of_mem _ (mem u u1 u2)
        · rw [tk_cs2 t1] at u3; rw [u3]; exact List.mem_cons_self
    · rw [List.length_cons, List.length_map, List.length_range]
      have := hn.resolve_right (fun w => w c)
      omega
  · refine ⟨(List.range (ns - 2)).map (fun i => tk_X se (i + 2)), ⟨h.nd, fun x hx => ?_, fun b hb => ?_, fun x hx b hb => ?_⟩, ?_⟩
    · obtain ⟨t, t1, t2, rfl⟩ := rr _ hx
      exact (h.2.1 t t1 t2).1
    · rcases h.mem hG hK (t := 1) (by omega) (by omega) hb with ⟨u, u1, u2, u3⟩ | ⟨u4, _⟩
      · rw [tk_cs1] at u3; rw [u3]; exact mem u u1 u2
      · exact absurd u4 c
    · obtain ⟨t, t1, t2, rfl⟩ := rr _ hx
      rcases h.mem hG hK (t := t) (by omega) t2 hb with ⟨u, u1, u2, u3⟩ | ⟨u4, _⟩
      · rw [tk_cs2 t1] at u3; rw [u3]; exact mem u u1 u2
      · exact absurd u4 c
    · rw [List.length_map, List.length_range]; omega
theorem tk_Wi.lv (h : tk_Wi z se sp K ls ns ns 0 nr) (hG : tz_G z) (hK : tk_Kn z K ls kd) {t : Nat} (ht : t < ns) : tp_l (tz_e z) (tz_ac z) (tk_cb se t) ↔ (2 ≤ t ∨ (t = 1 ∧ 2 < ns)) := by
  by_cases e : t = 0
  · rw [e, tk_cb0]
    exact ⟨fun ⟨w, _, v⟩ => absurd v (tz_dd w (fun ⟨_, hp⟩ => hp)), fun w => by omega⟩
  · by_cases e1 : t = 1
    · rw [e1, tk_cb1, tz_lvN hG]
      constructor
      · rintro ⟨q, hq⟩
        obtain ⟨c, hc, hm⟩ := hG.2.1 q (hG.2.2.1 q hq)
        rcases h.mem hG hK (t := 1) (by omega) (by omega) hc with ⟨u, u1, u2, _⟩ | ⟨_, u3⟩
        · exact Or.inr ⟨rfl, by omega⟩
        · rw [tk_cs1] at u3
          have : tz_d0 z c q := ⟨hq, hm⟩
          rw [u3] at this
          exact this.elim
      · intro w
        have n2 : 2 < ns := by omega
        refine Classical.byContradiction (fun hn => ?_)
        obtain ⟨r, p, hp⟩ := h.2.1 2 (by omega) n2
        exact r (fun Y => ∀ q, ¬ Y q) (fun b _ q w => hn ⟨q, w.1⟩) (fun y b _ hy q ⟨p, w⟩ => hy p w.1) p hp
    · rw [tk_cb2 (by omega)]
      obtain ⟨r, p⟩ := h.2.1 t (by omega) ht
      exact ⟨fun _ => Or.inl (by omega), fun _ => (tz_lvS hG r).mpr p⟩
theorem tk_Wi.V (h : tk_Wi z se sp K ls ns ns 0 nr) {t : Nat} (h1 : 1 ≤ t) (ht : t < ns) : tz_V z (tk_cb se t) := by
  by_cases e1 : t = 1
  · rw [e1, tk_cb1]; exact trivial
  · rw [tk_cb2 (by omega)]; exact (h.2.1 t (by omega) ht).1
theorem tk_Wi.c (h : tk_Wi z se sp K ls ns ns 0 nr) (hG : tz_G z) (hK : tk_Kn z K ls kd) (x : Option tz_S) (hx : tz_V z x) : ∃ t, t < ns ∧ x = tk_cb se t := by
  have hb := h.1
  cases x with
  | none => exact ⟨1, by omega, tk_cb1.symm⟩
  | some X =>
    have key : ∃ t, t ≠ 1 ∧ t < ns ∧ some X = tk_cb se t := by
      refine hx (fun Y => ∃ t, t ≠ 1 ∧ t < ns ∧ some Y = tk_cb se t) (fun b hb => ?_) (fun Y b hb hY => ?_)
      · rcases h.mem hG hK (t := 1) (by omega) (by omega) hb with ⟨u, u1, u2, u3⟩ | ⟨_, u3⟩
        · exact ⟨u, by omega, u2, by rw [tk_cb2 u1, ← u3, tk_cs1]⟩
        · exact ⟨0, by omega, by omega, by rw [tk_cb0, ← u3, tk_cs1]⟩
      · obtain ⟨t, t1, t2, t3⟩ := hY
        have a := h.sk t2 (hK.2.2 b hb).1
        have e : some (tz_d z Y b) = tk_cb se (tk_sk sp K (kd b) t) := by
          rw [← a.2.1, ← hK.cs hG hb, ← tk_cb.e, ← t3]; rfl
        refine ⟨_, fun e1 => ?_, a.1, e⟩
        rw [e1, tk_cb1] at e
        cases e
    obtain ⟨t, _, t2, t3⟩ := key
    exact ⟨t, t2, t3⟩
theorem tk_Wi.ac (h : tk_Wi z se sp K ls ns ns 0 nr) {t : Nat} : tz_ac z (tk_cb se t) ↔ (2 ≤ t ∧ ∃ p, tk_X se t p ∧ z.2.2.1.2.2 p) := by
  by_cases e : t = 0
  · rw [e, tk_cb0]; exact ⟨fun ⟨_, w⟩ => w.1.elim, fun w => absurd w.1 (by omega)⟩
  · by_cases e1 : t = 1
    · rw [e1, tk_cb1]; exact ⟨fun w => w.elim, fun w => absurd w.1 (by omega)⟩
    · rw [tk_cb2 (by omega)]; exact ⟨fun w => ⟨by omega, w⟩, fun w => w.2⟩
end TE
/-! ===== merging: blocks of states ===== -/
/-- blocks: every state has one, none is empty, block 0 has none that lives, alike ones are together, accepting ones apart from others; kinds that are not pending split none -/
def tk_Mi (N K : Nat) (q : Nat → Nat → Prop) (lv ac : Nat → Prop) (st : Nat → Nat → Nat) (bk : Nat → Int32) (nb : Nat) (pd : Nat → Prop) : Prop :=
  (∀ t, t < N → ∃ j : Nat, j < nb ∧ (bk t).toInt = (j : Int)) ∧ (∀ j, j < nb → ∃ t, t < N ∧ (bk t).toInt = (j : Int)) ∧
  (∀ t, t < N → (bk t).toInt = 0 → ¬ lv t) ∧ (∀ t u, t < N → u < N → q t u → bk t = bk u) ∧
  (∀ t u, t < N → u < N → bk t = bk u → (ac t ↔ ac u)) ∧
  ∀ k, k < K → ¬ pd k → ∀ t u, t < N → u < N → bk t = bk u → bk (st k t) = bk (st k u)
def tk_lj (nx : Nat → Int32) (h t : Nat) : Prop := ∀ Q : Nat → Prop, Q h → (∀ u v : Nat, Q u → (nx u).toInt = (v : Int) → Q v) → Q t
theorem tk_lj.rf {nx : Nat → Int32} {h : Nat} : tk_lj nx h h := fun _ a _ => a
theorem tk_lj.st {nx : Nat → Int32} {p t v : Nat} (H : tk_lj nx p t) (hn : t ≠ p) (hv : (nx p).toInt = (v : Int)) : tk_lj nx v t := fun Q a b => by
  have := H (fun w => w = p ∨ Q w) (Or.inl rfl) (fun u w hu huw => hu.elim (fun e => Or.inr (by
    have : w = v := by rw [e, hv] at huw; omega
    rw [this]; exact a)) (fun e => Or.inr (b u w e huw)))
  exact this.resolve_left hn
theorem tk_lj.no {nx : Nat → Int32} {p t : Nat} (H : tk_lj nx p t) (hv : (nx p).toInt < 0) : t = p := H (fun w => w = p) rfl (fun u w hu huw => by rw [hu] at huw; omega)
theorem tk_lj.up {nx : Nat → Int32} {l n h t : Nat} {x y : Int32} (H : tk_lj nx h t) (hl : (nx l).toInt < 0) (hn : ∀ Q : Nat → Prop, Q h → (∀ u v : Nat, Q u → (nx u).toInt = (v : Int) → u ≠ n → Q v) → Q t) : tk_lj (upd (upd nx l x) n y) h t := fun Q a b => hn Q a (fun u v hu huv hne => b u v hu (by
  rw [pk_un hne]
  by_cases e : u = l
  · rw [e] at huv; omega
  · rw [pk_un e]; exact huv))
/-- a split under way: s states have their new blocks; ow says of which old block a part is -/
def tk_Sp (b0 nw am nx : Nat → Int32) (st : Nat → Nat) (nb0 nb s : Nat) (ow : Nat → Nat) : Prop :=
  (nb0 ≤ nb ∧ (∀ j, j < nb0 → ow j = j) ∧ ∀ j, j < nb → ow j < nb0) ∧
  (∀ j, j < nb → (nx j).toInt = -1 ∨ ∃ v : Nat, (nx j).toInt = (v : Int) ∧ j < v ∧ v < nb ∧ ow v = ow j) ∧
  (∀ j, j < nb → tk_lj nx (ow j) j) ∧
  (∀ t, t < s → ∃ j : Nat, j < nb ∧ (nw t).toInt = (j : Int) ∧ (b0 t).toInt = (ow j : Int) ∧ am j = b0 (st t)) ∧
  (∀ j, j < nb → ((am j).toInt = -1 ∧ j < nb0 ∧ ∀ t, t < s → (b0 t).toInt ≠ (j : Int)) ∨ ∃ t, t < s ∧ (nw t).toInt = (j : Int)) ∧
  ∀ i j, i < nb → j < nb → ow i = ow j → am i = am j → (am i).toInt ≠ -1 → i = j
section TM
variable {N K : Nat} {q : Nat → Nat → Prop} {lv ac : Nat → Prop} {sk : Nat → Nat → Nat} {b0 bk nw am nx : Nat → Int32} {nb0 nb s : Nat} {pd : Nat → Prop} {st ow : Nat → Nat}
theorem tk_Sp.start (ha : ∀ j, j < nb → am j = -1) (hx : ∀ j, j < nb → nx j = -1) : tk_Sp b0 nw am nx st nb nb 0 (fun j => j) :=
  ⟨⟨Nat.le_refl _, fun _ _ => rfl, fun _ h => h⟩, fun j hj => Or.inl (by rw [hx j hj]; rfl), fun j _ => tk_lj.rf, fun t ht => absurd ht (Nat.not_lt_zero _), fun j hj => Or.inl ⟨by rw [ha j hj]; rfl, hj, fun t ht => absurd ht (Nat.not_lt_zero _)⟩, fun i j hi _ _ _ hne => absurd (by rw [ha i hi]; rfl) hne⟩
/-- the state goes to a part that is there -/
theorem tk_Sp.hit (h : tk_Sp b0 nw am nx st nb0 nb s ow) {r : Int32} {j : Nat} (hj : j < nb) (hr : r.toInt = (j : Int)) (ho : (b0 s).toInt = (ow j : Int)) (ha : am j = b0 (st s)) (hp : 0 ≤ (b0 (st s)).toInt) : tk_Sp b0 (upd nw s r) am nx st nb0 nb (s + 1) ow := by
  obtain ⟨a1, a2, a3, a4, a5, a6⟩ := h
  refine ⟨a1, a2, a3, fun t ht => ?_, fun i hi => ?_, a6⟩
  · by_cases e : t = s
    · rw [e, pk_us]; exact ⟨j, hj, hr, ho, ha⟩
    · rw [pk_un e]; exact a4 t (by omega)
  · rcases a5 i hi with ⟨w1, w2, w3⟩ | ⟨t, w1, w2⟩
    · by_cases e : i = j
      · rw [e, ha] at w1; omega
      · refine Or.inl ⟨w1, w2, fun t ht w => ?_⟩
        by_cases et : t = s
        · rw [et] at w
          have oi := a1.2.1 i w2
          have eo : ow j = i := by omega
          -- the block of s has a part already: it is i's, which has none yet
          have c5 := a5 j hj
          rcases c5 with ⟨v1, _, _⟩ | ⟨u, v1, v2⟩
          · rw [ha] at v1; omega
          · obtain ⟨j2, _, x2, x3, _⟩ := a4 u v1
            have : j2 = j := by omega
            rw [this, eo] at x3
            exact w3 u v1 x3
        · exact w3 t (by omega) w
    · exact Or.inr ⟨t, by omega, by rw [pk_un (by omega)]; exact w2⟩
/-- the first state of its block -/
theorem tk_Sp.one (h : tk_Sp b0 nw am nx st nb0 nb s ow) (hb : ∀ t, t < s → 0 ≤ (b0 (st t)).toInt) {r : Int32} {j : Nat} (hj : j < nb0) (hr : r.toInt = (j : Int)) (ho : (b0 s).toInt = (j : Int)) (ha : (am j).toInt < 0) (hp : 0 ≤ (b0 (st s)).toInt) : tk_Sp b0 (upd nw s r) (upd am j (b0 (st s))) nx st nb0 nb (s + 1) ow := by
  obtain ⟨a1, a2, a3, a4, a5, a6⟩ := h
  have ej := a1.2.1 j hj
  have ht0 : ∀ t, t < s → (b0 t).toInt ≠ (j : Int) := by
    rcases a5 j (by omega) with w | ⟨t, w1, w2⟩
    · exact w.2.2
    · obtain ⟨j2, _, x2, _, x4⟩ := a4 t w1
      have e : j2 = j := by omega
      rw [e] at x4
      have := hb t w1
      rw [← x4] at this
      omega
  have n4 : ∀ t j2, t < s → (b0 t).toInt = (ow j2 : Int) → j2 ≠ j := fun t j2 ht w e => ht0 t ht (by rw [w, e, ej])
  refine ⟨a1, a2, a3, fun t ht => ?_, fun i hi => ?_, fun i i2 hi hi2 e1 e2 e3 => ?_⟩
  · by_cases e : t = s
    · rw [e, pk_us]; exact ⟨j, by omega, hr, by rw [ej]; exact ho, pk_us⟩
    · rw [pk_un e]
      obtain ⟨j2, x1, x2, x3, x4⟩ := a4 t (by omega)
      exact ⟨j2, x1, x2, x3, by rw [pk_un (n4 t j2 (by omega) x3)]; exact x4⟩
  · by_cases e : i = j
    · exact Or.inr ⟨s, by omega, by rw [pk_us, e]; exact hr⟩
    · rcases a5 i hi with ⟨w1, w2, w3⟩ | ⟨t, w1, w2⟩
      · refine Or.inl ⟨by rw [pk_un e]; exact w1, w2, fun t ht w => ?_⟩
        by_cases et : t = s
        · rw [et] at w; omega
        · exact w3 t (by omega) w
      · exact Or.inr ⟨t, by omega, by rw [pk_un (by omega)]; exact w2⟩
  · have key : ∀ i2, i2 < nb → i2 ≠ j → ow i2 = j → am i2 = b0 (st s) → False := fun i2 hi2 n w1 w2 => by
      rcases a5 i2 hi2 with ⟨v1, _, _⟩ | ⟨t, v1, v2⟩
      · rw [w2] at v1; omega
      · obtain ⟨j2, _, x2, x3, _⟩ := a4 t v1
        have e : j2 = i2 := by omega
        rw [e, w1] at x3
        exact ht0 t v1 x3
    by_cases c1 : i = j
    · by_cases c2 : i2 = j
      · omega
      · rw [c1, pk_us, pk_un c2] at e2
        rw [c1, ej] at e1
        exact (key i2 hi2 c2 e1.symm e2.symm).elim
    · by_cases c2 : i2 = j
      · rw [c2, pk_us, pk_un c1] at e2
        rw [c2, ej] at e1
        exact (key i hi c1 e1 e2).elim
      · rw [pk_un c1, pk_un c2] at e2
        rw [pk_un c1] at e3
        exact a6 i i2 hi hi2 e1 e2 e3
/-- a new part, behind the last -/
theorem tk_Sp.add (h : tk_Sp b0 nw am nx st nb0 nb s ow) {r : Int32} {l jb : Nat} (hl : l < nb) (hol : ow l = jb) (hx : (nx l).toInt < 0) (hr : r.toInt = (nb : Int)) (ho : (b0 s).toInt = (jb : Int)) (hno : ∀ j, j < nb → ow j = jb → am j ≠ b0 (st s)) (hp : 0 ≤ (b0 (st s)).toInt) (htch : 0 ≤ (am l).toInt) : tk_Sp b0 (upd nw s r) (upd am nb (b0 (st s))) (upd (upd nx l r) nb (-1)) st nb0 (nb + 1) (s + 1) (tr_up ow nb jb) := by
  obtain ⟨a1, a2, a3, a4, a5, a6⟩ := h
  have hjb : jb < nb0 := by rw [← hol]; exact a1.2.2 l hl
  have eo : ∀ i, i < nb → tr_up ow nb jb i = ow i := fun i hi => tr_upn (by omega)
  have en : tr_up ow nb jb nb = jb := tr_ups
  have cl : ∀ i, i < nb → ∀ Q : Nat → Prop, Q (ow i) → (∀ u v : Nat, Q u → (nx u).toInt = (v : Int) → u ≠ nb → Q v) → Q i := fun i hi Q q0 q1 => by
    have := a3 i hi (fun w => Q w ∧ w < nb) ⟨q0, by have := a1.2.2 i hi; omega⟩ (fun u v hu huv => ⟨q1 u v hu.1 huv (by omega), by
      rcases a2 u hu.2 with w | ⟨v2, w1, _, w3, _⟩ <;> omega⟩)
    exact this.1
  have lji : ∀ i, i < nb → tk_lj (upd (upd nx l r) nb (-1)) (ow i) i := fun i hi => (a3 i hi).up hx (cl i hi)
  refine ⟨⟨by omega, fun i hi => by rw [eo i (by omega)]; exact a1.2.1 i hi, fun i hi => ?_⟩, fun i hi => ?_, fun i hi => ?_, fun t ht => ?_, fun i hi => ?_, fun i i2 hi hi2 e1 e2 e3 => ?_⟩
  · by_cases c : i = nb
    · rw [c, en]; exact hjb
    · rw [eo i (by omega)]; exact a1.2.2 i (by omega)
  · by_cases c : i = nb
    · rw [c, pk_us]; exact Or.inl rfl
    · rw [pk_un c]
      by_cases c2 : i = l
      · rw [c2, pk_us]; exact Or.inr ⟨nb, hr, by omega, by omega, by rw [en, eo l hl, hol]⟩
      · rw [pk_un c2]
        rcases a2 i (by omega) with w | ⟨v, w1, w2, w3, w4⟩
        · exact Or.inl w
        · exact Or.inr ⟨v, w1, w2, by omega, by rw [eo v w3, eo i (by omega)]; exact w4⟩
  · by_cases c : i = nb
    · rw [c, en]
      have hll := lji l hl
      rw [hol] at hll
      exact fun Q q0 q1 => q1 l nb (hll Q q0 q1) (by rw [pk_un (by omega), pk_us]; exact hr)
    · rw [eo i (by omega)]; exact lji i (by omega)
  · by_cases e : t = s
    · rw [e, pk_us]; exact ⟨nb, by omega, hr, by rw [en]; exact ho, pk_us⟩
    · rw [pk_un e]
      obtain ⟨j2, x1, x2, x3, x4⟩ := a4 t (by omega)
      exact ⟨j2, by omega, x2, by rw [eo j2 x1]; exact x3, by rw [pk_un (by omega)]; exact x4⟩
  · by_cases c : i = nb
    · exact Or.inr ⟨s, by omega, by rw [pk_us, c]; exact hr⟩
    · rcases a5 i (by omega) with ⟨w1, w2, w3⟩ | ⟨t, w1, w2⟩
      · refine Or.inl ⟨by rw [pk_un c]; exact w1, w2, fun t ht w => ?_⟩
        by_cases et : t = s
        · rw [et] at w
          have ei : i = jb := by omega
          rcases a5 l hl with ⟨v1, _, _⟩ | ⟨u, v1, v2⟩
          · omega
          · obtain ⟨j2, _, x2, x3, _⟩ := a4 u v1
            have ej2 : j2 = l := by omega
            rw [ej2, hol, ← ei] at x3
            exact w3 u v1 x3
        · exact w3 t (by omega) w
      · exact Or.inr ⟨t, by omega, by rw [pk_un (by omega)]; exact w2⟩
  · by_cases c1 : i = nb
    · by_cases c2 : i2 = nb
      · omega
      · rw [c1, en, eo i2 (by omega)] at e1
        rw [c1, pk_us, pk_un c2] at e2
        exact absurd e2.symm (hno i2 (by omega) e1.symm)
    · by_cases c2 : i2 = nb
      · rw [c2, en, eo i (by omega)] at e1
        rw [c2, pk_us, pk_un c1] at e2
        exact absurd e2 (hno i (by omega) e1)
      · rw [eo i (by omega), eo i2 (by omega)] at e1
        rw [pk_un c1, pk_un c2] at e2
        rw [pk_un c1] at e3
        exact a6 i i2 (by omega) (by omega) e1 e2 e3
theorem tk_Mi.nn (h : tk_Mi N K q lv ac sk b0 nb0 pd) {t : Nat} (ht : t < N) : 0 ≤ (b0 t).toInt := by
  obtain ⟨j, _, e⟩ := h.1 t ht
  omega
/-- two of one new block: of one old block, with one aim; and the other way -/
theorem tk_Sp.iff (h : tk_Sp b0 nw am nx st nb0 nb s ow) {t u : Nat} (ht : t < s) (hu : u < s) (hp : 0 ≤ (b0 (st t)).toInt) : nw t = nw u ↔ (b0 t = b0 u ∧ b0 (st t) = b0 (st u)) := by
  obtain ⟨i, i1, i2, i3, i4⟩ := h.2.2.2.1 t ht
  obtain ⟨j, j1, j2, j3, j4⟩ := h.2.2.2.1 u hu
  constructor
  · intro e
    rw [e] at i2
    have : i = j := by omega
    subst this
    exact ⟨Int32.toInt_inj.mp (by rw [i3, j3]), by rw [← i4, ← j4]⟩
  · rintro ⟨e1, e2⟩
    have : i = j := h.2.2.2.2.2 i j i1 j1 (by rw [e1] at i3; omega) (by rw [i4, j4, e2]) (by rw [i4]; omega)
    exact Int32.toInt_inj.mp (by rw [i2, j2, this])
/-- the blocks behind a split by kind k -/
theorem tk_Sp.M (hM : tk_Mi N K q lv ac sk b0 nb0 pd) {k : Nat} (h : tk_Sp b0 nw am nx (sk k) nb0 nb N ow) (hsk : ∀ k t, k < K → t < N → sk k t < N) (hq : ∀ k t u, k < K → t < N → u < N → q t u → q (sk k t) (sk k u)) (hk : k < K) {pd2 : Nat → Prop} (hpd : ∀ k', k' < K → ¬ pd2 k' → (k' = k ∨ ¬ pd k') ∧ ∀ t, t < N → nw (sk k' t) = b0 (sk k' t)) : tk_Mi N K q lv ac sk nw nb pd2 := by
  have hp : ∀ t, t < N → 0 ≤ (b0 (sk k t)).toInt := fun t ht => hM.nn (hsk k t hk ht)
  refine ⟨fun t ht => ?_, fun j hj => ?_, fun t ht w => ?_, fun t u ht hu w => ?_, fun t u ht hu w => ?_, fun k' hk' hn t u ht hu w => ?_⟩
  · obtain ⟨j, j1, j2, _⟩ := h.2.2.2.1 t ht
    exact ⟨j, j1, j2⟩
  · rcases h.2.2.2.2.1 j hj with ⟨_, w2, w3⟩ | w
    · obtain ⟨t, t1, t2⟩ := hM.2.1 j w2
      exact absurd t2 (w3 t t1)
    · exact w
  · obtain ⟨j, j1, j2, j3, _⟩ := h.2.2.2.1 t ht
    have e : j = 0 := by omega
    have n0 : 0 < nb0 := by have := h.1.2.2 j j1; omega
    rw [e, h.1.2.1 0 n0] at j3
    exact hM.2.2.1 t ht j3
  · exact (h.iff ht hu (hp t ht)).mpr ⟨hM.2.2.2.1 t u ht hu w, hM.2.2.2.1 _ _ (hsk k t hk ht) (hsk k u hk hu) (hq k t u hk ht hu w)⟩
  · exact hM.2.2.2.2.1 t u ht hu ((h.iff ht hu (hp t ht)).mp w).1
  · obtain ⟨a, b⟩ := hpd k' hk' hn
    rw [b t ht, b u hu]
    have c := (h.iff ht hu (hp t ht)).mp w
    rcases a with a | a
    · rw [a]; exact c.2
    · exact hM.2.2.2.2.2 k' hk' a t u ht hu c.1
theorem tk_Mi.cg (h : tk_Mi N K q lv ac sk bk nb pd) (hsk : ∀ k t, k < K → t < N → sk k t < N) {bk2 : Nat → Int32} {pd2 : Nat → Prop} (he : ∀ t, t < N → bk2 t = bk t) (hp : ∀ k, k < K → pd k → pd2 k) : tk_Mi N K q lv ac sk bk2 nb pd2 := by
  refine ⟨fun t ht => by rw [he t ht]; exact h.1 t ht, fun j hj => ?_, fun t ht => by rw [he t ht]; exact h.2.2.1 t ht, fun t u ht hu w => by rw [he t ht, he u hu]; exact h.2.2.2.1 t u ht hu w, fun t u ht hu w => h.2.2.2.2.1 t u ht hu (by rw [← he t ht, ← he u hu]; exact w), fun k hk hn t u ht hu w => ?_⟩
  · obtain ⟨t, t1, t2⟩ := h.2.1 j hj
    exact ⟨t, t1, by rw [he t t1]; exact t2⟩
  · rw [he _ (hsk k t hk ht), he _ (hsk k u hk hu)]
    exact h.2.2.2.2.2 k hk (fun w => hn (hp k hk w)) t u ht hu (by rw [← he t ht, ← he u hu]; exact w)
/-- those that don't live are block 0's -/
theorem tk_Mi.d (h : tk_Mi N K q lv ac sk bk nb pd) (hd : ∀ t u, t < N → u < N → ¬ lv t → ¬ lv u → q t u) (hnb : 0 < nb) {t : Nat} (ht : t < N) (hl : ¬ lv t) : (bk t).toInt = 0 := by
  obtain ⟨u, u1, u2⟩ := h.2.1 0 hnb
  rw [h.2.2.2.1 t u ht u1 (hd t u ht u1 hl (h.2.2.1 u u1 u2))]
  exact u2
/-- when a split makes block after block: one of each, no two alike, all but the first live -/
theorem tk_Sp.reps (hM : tk_Mi N K q lv ac sk b0 nb0 pd) {k : Nat} (h : tk_Sp b0 nw am nx (sk k) nb0 nb s ow) (hs : s ≤ N) (hsk : ∀ k t, k < K → t < N → sk k t < N) (hq : ∀ k t u, k < K → t < N → u < N → q t u → q (sk k t) (sk k u)) (hsy : ∀ t u, q t u → q u t) (hd : ∀ t u, t < N → u < N → ¬ lv t → ¬ lv u → q t u) (hk : k < K) (h0 : 0 < nb0) : ∃ rp : Nat → Nat, (∀ j, j < nb → rp j < N) ∧ (∀ i j, i < nb → j < nb → i ≠ j → ¬ q (rp i) (rp j)) ∧ ∀ j, 1 ≤ j → j < nb → lv (rp j) := by
  have hp : ∀ t, t < N → 0 ≤ (b0 (sk k t)).toInt := fun t ht => hM.nn (hsk k t hk ht)
  have ex : ∀ j, ∃ t, j < nb → t < N ∧ ((t < s ∧ (nw t).toInt = (j : Int)) ∨ ((b0 t).toInt = (j : Int) ∧ ∀ u, u < s → (b0 u).toInt ≠ (j : Int))) := fun j => by
    by_cases hj : j < nb
    · rcases h.2.2.2.2.1 j hj with ⟨_, w2, w3⟩ | ⟨t, t1, t2⟩
      · obtain ⟨t, t1, t2⟩ := hM.2.1 j w2
        exact ⟨t, fun _ => ⟨t1, Or.inr ⟨t2, w3⟩⟩⟩
      · exact ⟨t, fun _ => ⟨by omega, Or.inl ⟨t1, t2⟩⟩⟩
    · exact ⟨0, fun w => absurd w hj⟩
  let rp : Nat → Nat := fun j => Classical.choose (ex j)
  have hr : ∀ j, j < nb → rp j < N ∧ ((rp j < s ∧ (nw (rp j)).toInt = (j : Int)) ∨ ((b0 (rp j)).toInt = (j : Int) ∧ ∀ u, u < s → (b0 u).toInt ≠ (j : Int))) := fun j => Classical.choose_spec (ex j)
  have pw : ∀ i j, i < nb → j < nb → i ≠ j → ¬ q (rp i) (rp j) := fun i j hi hj hne w => by
    obtain ⟨i1, i2⟩ := hr i hi
    obtain ⟨j1, j2⟩ := hr j hj
    have eb := hM.2.2.2.1 _ _ i1 j1 w
    rcases i2 with ⟨i2, i3⟩ | ⟨i2, i3⟩
    · rcases j2 with ⟨j2, j3⟩ | ⟨j2, j3⟩
      · have es := hM.2.2.2.1 _ _ (hsk k _ hk i1) (hsk k _ hk j1) (hq k _ _ hk i1 j1 w)
        have := (h.iff i2 j2 (hp _ i1)).mpr ⟨eb, es⟩
        rw [this, j3] at i3
        omega
      · exact j3 _ i2 (by rw [eb]; exact j2)
    · rcases j2 with ⟨j2, j3⟩ | ⟨j2, j3⟩
      · exact i3 _ j2 (by rw [← eb]; exact i2)
      · rw [eb, j2] at i2; omega
  have hnb : 0 < nb := by have := h.1.1; omega
  refine ⟨rp, fun j hj => (hr j hj).1, pw, fun j j1 hj => Classical.byContradiction (fun hl => ?_)⟩
  have d0 : ¬ lv (rp 0) := by
    obtain ⟨i1, i2⟩ := hr 0 hnb
    rcases i2 with ⟨i2, i3⟩ | ⟨i2, _⟩
    · obtain ⟨m, m1, m2, m3, _⟩ := h.2.2.2.1 _ i2
      have e : m = 0 := by omega
      rw [e, h.1.2.1 0 h0] at m3
      exact hM.2.2.1 _ i1 m3
    · exact hM.2.2.1 _ i1 i2
  exact pw 0 j hnb hj (by omega) (hd _ _ (hr 0 hnb).1 (hr j hj).1 d0 hl)
end TM
/-! ===== the class's answer ===== -/
section TA
variable {z : tr_Z} {se : Nat → Int64} {sp bk nw am nx : Nat → Int32} {K ns nb nb0 s : Nat} {ls kd ow : Nat → Nat} {nr : Prop} {pd : Nat → Prop}
abbrev tk_cqq (z : tr_Z) (se : Nat → Int64) (t u : Nat) : Prop := tp_q (tz_e z) (tz_ac z) (tk_cb se t) (tk_cb se u)
abbrev tk_clv (z : tr_Z) (se : Nat → Int64) (t : Nat) : Prop := tp_l (tz_e z) (tz_ac z) (tk_cb se t)
abbrev tk_cac (z : tr_Z) (se : Nat → Int64) (t : Nat) : Prop := tz_ac z (tk_cb se t)
abbrev tk_CM (z : tr_Z) (se : Nat → Int64) (sp : Nat → Int32) (K ns : Nat) (bk : Nat → Int32) (nb : Nat) (pd : Nat → Prop) : Prop := tk_Mi ns K (tk_cqq z se) (tk_clv z se) (tk_cac z se) (tk_sk sp K) bk nb pd
theorem tk_Wi.hq (h : tk_Wi z se sp K ls ns ns 0 nr) (hK : tk_Kn z K ls kd) (k t u : Nat) (hk : k < K) (ht : t < ns) (hu : u < ns) (w : tk_cqq z se t u) : tk_cqq z se (tk_sk sp K k t) (tk_sk sp K k u) := by
  have a := w.go (hK.2.1 k hk)
  rw [tk_cb.e, tk_cb.e, (h.sk ht hk).2.1, (h.sk hu hk).2.1] at a
  exact a
theorem tk_cdd {t u : Nat} (ht : ¬ tk_clv z se t) (hu : ¬ tk_clv z se u) : tk_cqq z se t u := fun w hw => ⟨fun v => absurd ⟨w, hw, v⟩ ht, fun v => absurd ⟨w, hw, v⟩ hu⟩
theorem tk_Wi.ans (h : tk_Wi z se sp K ls ns ns 0 nr) (hG : tz_G z) (hK : tk_Kn z K ls kd) (hn : ns < 402 ∨ ¬ nr) (hM : tk_CM z se sp K ns bk nb pd) (hpd : ∀ k, k < K → ¬ pd k) (hnb : 1 ≤ nb) (hb2 : nb ≤ 201) : tz_ans (Sum.inr z) ((nb : Int) - 1) := by
  refine Or.inr ⟨h.A hG hK hn, Or.inr ?_⟩
  have hdd := fun t u (_ : t < ns) (_ : u < ns) (a : ¬ tk_clv z se t) (b : ¬ tk_clv z se u) => tk_cdd a b
  have hl0 : ∀ t, t < ns → tk_clv z se t → (bk t).toInt ≠ 0 := fun t ht l w => hM.2.2.1 t ht w l
  let V2 : Option tz_S → Prop := fun x => tz_V z x ∨ x = some (fun _ => False)
  obtain ⟨M, ⟨m1, m2⟩, m3⟩ := tp_mkW (d := tz_e z) (ac := tz_ac z) (V := V2) (bs := tk_cb se) (N := ns) (n := nb - 1) (g := fun t => (bk t).toInt.toNat - 1) (fun t ht => by
      by_cases e : t = 0
      · rw [e]; exact Or.inr tk_cb0
      · exact Or.inl (h.V (by omega) ht)) (fun x hx => hx.elim (fun w => h.c hG hK x w) (fun w => ⟨0, by have := h.1.1; omega, w.trans tk_cb0.symm⟩)) (fun k hk => by
      obtain ⟨t, t1, t2⟩ := hM.2.1 (k + 1) (by omega)
      refine ⟨t, t1, Classical.byContradiction (fun w => ?_), by show (bk t).toInt.toNat - 1 = k; omega⟩
      have := hM.d hdd (by omega) t1 w
      omega) (fun t ht l => by
      obtain ⟨j, j1, j2⟩ := hM.1 t ht
      have := hl0 t ht l
      show (bk t).toInt.toNat - 1 < nb - 1
      omega) (fun t u ht hu l w => by show (bk t).toInt.toNat - 1 = (bk u).toInt.toNat - 1; rw [hM.2.2.2.1 t u ht hu w]) (fun t u ht hu l1 l2 e => by
      have e : (bk t).toInt.toNat - 1 = (bk u).toInt.toNat - 1 := e
      have a1 := hl0 t ht l1
      have a2 := hl0 u hu l2
      have b1 := hM.nn ht
      have b2 := hM.nn hu
      have eb : (bk t).toInt = (bk u).toInt := by omega
      exact fun w hw => tp_qi (h.n hG hK) (f := fun t => (bk t).toInt) (fun s t hs ht e => hM.2.2.2.2.1 s t hs ht (Int32.toInt_inj.mp e)) (fun s t b hb hs ht e => congrArg Int32.toInt (hM.2.2.2.2.2 (kd b) (hK.2.2 b hb).1 (hpd _ (hK.2.2 b hb).1) s t hs ht (Int32.toInt_inj.mp e))) w t u hw ht hu eb)
  have hd0 : ∀ x, tp_l (tz_e z) (tz_ac z) x → V2 x → tz_V z x := fun x l w => w.elim id (fun e => by
    rw [e] at l
    obtain ⟨v, _, l⟩ := l
    exact absurd l (tz_dd v (fun ⟨_, hp⟩ => hp)))
  exact ⟨M, ⟨⟨fun x hx => ⟨hd0 x (m1.1 x hx).2 (m1.1 x hx).1, (m1.1 x hx).2⟩, m1.2⟩, fun x hx l => m2 x (Or.inl hx) l⟩, by omega, by rw [m3]; omega⟩
theorem tk_Wi.full (h : tk_Wi z se sp K ls ns ns 0 nr) (hG : tz_G z) (hK : tk_Kn z K ls kd) (hn : ns < 402 ∨ ¬ nr) (hM : tk_CM z se sp K ns bk nb0 pd) {k : Nat} (hS : tk_Sp bk nw am nx (tk_sk sp K k) nb0 202 s ow) (hs : s ≤ ns) (hk : k < K) (h0 : 0 < nb0) : tz_ans (Sum.inr z) (-1) := by
  refine Or.inr ⟨h.A hG hK hn, Or.inl ?_⟩
  obtain ⟨rp, r1, r2, r3⟩ := hS.reps hM hs (fun k t hk ht => (h.sk ht hk).1) (h.hq hK) (fun _ _ w => w.sy) (fun t u _ _ a b => tk_cdd a b) hk h0
  refine ⟨(List.range 201).map (fun i => tk_cb se (rp (i + 1))), ⟨fun x hx => ?_, ?_⟩, by rw [List.length_map, List.length_range], rfl⟩
  · obtain ⟨i, hi, rfl⟩ := List.mem_map.mp hx
    have hi := List.mem_range.mp hi
    have l := r3 (i + 1) (by omega) (by omega)
    have ht := r1 (i + 1) (by omega)
    refine ⟨h.V (Nat.pos_of_ne_zero (fun e => ?_)) ht, l⟩
    have := (h.lv hG hK ht).mp l
    omega
  · refine List.pairwise_map.mpr (List.Pairwise.imp_of_mem ?_ List.nodup_range)
    intro i j hi hj hne w
    have hi := List.mem_range.mp hi
    have hj := List.mem_range.mp hj
    exact r2 (i + 1) (j + 1) (by omega) (by omega) (by omega) w
theorem tk_Wi.run (h : tk_Wi z se sp K ls ns ns 0 nr) (hG : tz_G z) (hK : tk_Kn z K ls kd) : ∀ (w : List Nat) (t : Nat), t < ns → tp_t w → ∃ u, u < ns ∧ tp_run (tz_e z) (tk_cb se t) w = tk_cb se u
  | [], t, ht, _ => ⟨t, ht, rfl⟩
  | b :: w, t, ht, hw => by
    obtain ⟨hb, hw⟩ := List.forall_mem_cons.mp hw
    have a := h.n hG hK t b ht hb
    obtain ⟨u, u1, u2⟩ := h.run hG hK w _ a.1 hw
    refine ⟨u, u1, ?_⟩
    show tp_run (tz_e z) (tz_e z (tk_cb se t) b) w = _
    rw [a.2]; exact u2
/-- the first blocks -/
theorem tk_Wi.M0 (h : tk_Wi z se sp K ls ns ns 0 nr) (hG : tz_G z) (hK : tk_Kn z K ls kd) (hb0 : bk 0 = 0) (hb1 : bk 1 = if 2 < ns then 1 else 0) (hb2 : ∀ t, 2 ≤ t → t < ns → (bk t = 2 ∧ tk_cac z se t) ∨ (bk t = 1 ∧ ¬ tk_cac z se t)) (hnb : nb = if 2 < ns then 3 else 1) : tk_CM z se sp K ns bk nb (fun _ => True) := by
  have hns := h.1.1
  have val : ∀ t, t < ns → (bk t = 0 ∧ ¬ tk_clv z se t ∧ ¬ tk_cac z se t) ∨ (2 < ns ∧ bk t = 1 ∧ tk_clv z se t ∧ ¬ tk_cac z se t) ∨ (2 < ns ∧ bk t = 2 ∧ tk_clv z se t ∧ tk_cac z se t) := fun t ht => by
    have l := h.lv hG hK ht
    have a := h.ac (t := t)
    by_cases e : t = 0
    · subst e; exact Or.inl ⟨hb0, fun w => by have := l.mp w; omega, fun w => by have := (a.mp w).1; omega⟩
    · by_cases e1 : t = 1
      · subst e1
        by_cases c : 2 < ns
        · rw [if_pos c] at hb1; exact Or.inr (Or.inl ⟨c, hb1, l.mpr (Or.inr ⟨rfl, c⟩), fun w => by have := (a.mp w).1; omega⟩)
        · rw [if_neg c] at hb1; exact Or.inl ⟨hb1, fun w => by have := l.mp w; omega, fun w => by have := (a.mp w).1; omega⟩
      · have l2 := l.mpr (Or.inl (by omega))
        rcases hb2 t (by omega) ht with ⟨w1, w2⟩ | ⟨w1, w2⟩
        · exact Or.inr (Or.inr ⟨by omega, w1, l2, w2⟩)
        · exact Or.inr (Or.inl ⟨by omega, w1, l2, w2⟩)
  refine ⟨fun t ht => ?_, fun j hj => ?_, fun t ht w => ?_, fun t u ht hu w => ?_, fun t u ht hu w => ?_, fun k _ hn => absurd trivial hn⟩
  · rcases val t ht with v | v | v
    · exact ⟨0, by rw [hnb]; split <;> omega, by rw [v.1]; rfl⟩
    · exact ⟨1, by rw [hnb, if_pos v.1]; omega, by rw [v.2.1]; rfl⟩
    · exact ⟨2, by rw [hnb, if_pos v.1]; omega, by rw [v.2.1]; rfl⟩
  · by_cases j0 : j = 0
    · subst j0; exact ⟨0, by omega, by rw [hb0]; rfl⟩
    · have c : 2 < ns := Classical.byContradiction (fun c => by rw [hnb, if_neg c] at hj; omega)
      rw [if_pos c] at hnb
      by_cases j1 : j = 1
      · subst j1; rw [if_pos c] at hb1; exact ⟨1, by omega, by rw [hb1]; rfl⟩
      · have e2 : j = 2 := by omega
        subst e2
        obtain ⟨w, hw, hl⟩ := (h.lv hG hK (t := 2) c).mpr (Or.inl (Nat.le_refl _))
        obtain ⟨u, u1, u2⟩ := h.run hG hK w 2 c hw
        rw [u2] at hl
        rcases val u u1 with v | v | v
        · exact absurd hl v.2.2
        · exact absurd hl v.2.2.2
        · exact ⟨u, u1, by rw [v.2.1]; rfl⟩
  · rcases val t ht with v | v | v
    · exact v.2.1
    · rw [v.2.1] at w; exact absurd w (by decide)
    · rw [v.2.1] at w; exact absurd w (by decide)
  · have wl := w.l
    have wa := w.ac
    rcases val t ht with v | v | v <;> rcases val u hu with y | y | y
    · rw [v.1, y.1]
    · exact absurd (wl.mpr y.2.2.1) v.2.1
    · exact absurd (wl.mpr y.2.2.1) v.2.1
    · exact absurd (wl.mp v.2.2.1) y.2.1
    · rw [v.2.1, y.2.1]
    · exact absurd (wa.mpr y.2.2.2) v.2.2.2
    · exact absurd (wl.mp v.2.2.1) y.2.1
    · exact absurd (wa.mp v.2.2.2) y.2.2.2
    · rw [v.2.1, y.2.1]
  · rcases val t ht with v | v | v <;> rcases val u hu with y | y | y
    · exact ⟨fun a => absurd a v.2.2, fun a => absurd a y.2.2⟩
    · exact ⟨fun a => absurd a v.2.2, fun a => absurd a y.2.2.2⟩
    · rw [v.1, y.2.1] at w; exact absurd w (by decide)
    · exact ⟨fun a => absurd a v.2.2.2, fun a => absurd a y.2.2⟩
    · exact ⟨fun a => absurd a v.2.2.2, fun a => absurd a y.2.2.2⟩
    · rw [v.2.1, y.2.1] at w; exact absurd w (by decide)
    · rw [v.2.1, y.1] at w; exact absurd w (by decide)
    · rw [v.2.1, y.2.1] at w; exact absurd w (by decide)
    · exact ⟨fun _ => y.2.2.2, fun _ => v.2.2.2⟩
end TA
