/-! ===== further rows ===== -/
theorem pq_lenF {p : Program} {l : Launch} {e : Env} {R : Room} {s : State} {m : MethodId} {args : Array Value} {below : List Frame} {meth : Method} {c : Code} {Q : State → Prop} {D : va_G} {cy : Nat → ClassId} {A : Nat → Prop} {nL cells slots pc : Nat} {S : HS} {lc : List (Option Value)} {st : List Value} {a r n1 n2 : Nat} {lo hi : Int} (h : pq_R S a r) (h1 : 100 ≤ r) (hal : pq_al r = (n1, n2, lo, hi)) (kk : n1 ≤ hN S a → hN S a ≤ n2 → pq_At p l e R s m args below meth c Q D cy A nL cells slots pc S lc st) : pq_At p l e R s m args below meth c Q D cy A nL cells slots pc S lc st := fun H locs ls hT hP hD hS hl => by
  have g := (hT.2 a r h h1).1
  rw [hal] at g
  exact kk g.1 g.2 H locs ls hT hP hD hS hl
