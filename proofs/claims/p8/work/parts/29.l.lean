/-! ===== further rows ===== -/
theorem pq_lenF {p : Program} {l : Launch} {e : Env} {R : Room} {s : State} {m : MethodId} {args : Array Value} {below : List Frame} {meth : Method} {c : Code} {Q : State → Prop} {D : va_G} {cy : Nat → ClassId} {A : Nat → Prop} {nL cells slots pc : Nat} {S : HS} {lc : List (Option Value)} {st : List Value} {a r n1 n2 : Nat} {lo hi : Int} (h : pq_R S a r) (h1 : 100 ≤ r) (hal : pq_al r = (n1, n2, lo, hi)) (kk : n1 ≤ hN S a → hN S a ≤ n2 → pq_At p l e R s m args below meth c Q D cy A nL cells slots pc S lc st) : pq_At p l e R s m args below meth c Q D cy A nL cells slots pc S lc st := fun H locs ls hT hP hD hS hl => by
  have g := (hT.2 a r h h1).1
  rw [hal] at g
  exact kk g.1 g.2 H locs ls hT hP hD hS hl
theorem pq_mmin2 {p : Program} {l : Launch} {e : Env} {R : Room} {s : State} {m : MethodId} {args : Array Value} {below : List Frame} {meth : Method} {c : Code} {Q : State → Prop} {D : va_G} {cy : Nat → ClassId} {A : Nat → Prop} {nL : Nat} {cc : ByteArray} {own : String} {cells slots pc : Nat} {S : HS} {lc : List (Option Value)} {st : List Value} (F : pq_Fx p R s m args c D cy A cc nL own) {index : Nat} {x y : Int32} (hw : pq_Mn own index) (hfr : 1 ≤ R.frames ∧ (st.map fun v => v.category).sum + 13 ≤ R.locals) (hc : cells ≤ R.cells) (hs : slots ≤ R.slots) (hdg : decode cc pc = .ok (.invokestatic index, 3)) (kk : ∀ z : Int32, z.toInt ≤ x.toInt → z.toInt ≤ y.toInt → (z = x ∨ z = y) → pq_At p l e R s m args below meth c Q D cy A nL cells slots (pc + 3) S lc (.int z :: st)) : pq_At p l e R s m args below meth c Q D cy A nL cells slots pc S lc (.int y :: .int x :: st) := by
  refine pq_mmin F hw hfr hc hs hdg ?_
  by_cases h : y < x
  · rw [if_pos h]
    rw [Int32.lt_iff_toInt_lt] at h
    exact kk y (by omega) (Int.le_refl _) (Or.inr rfl)
  · rw [if_neg h]
    rw [Int32.lt_iff_toInt_lt] at h
    exact kk x (Int.le_refl _) (by omega) (Or.inl rfl)
theorem pq_sgl : ∀ i, i < 6 → (pq_sg i).2.2.2.length ≤ 20 := by decide +kernel
theorem pq_shz {x : Int32} : x >>> ((0 : Int32) &&& 31) = x := by
  show x >>> (0 : Int32) = x
  simp
theorem pq_bret {p : Program} {l : Launch} {e : Env} {R : Room} {s : State} {m : MethodId} {args : Array Value} {below : List Frame} {meth : Method} {c : Code} {D : va_G} {cy : Nat → ClassId} {A : Nat → Prop} {nL : Nat} {cc : ByteArray} {own : String} {cells slots pc : Nat} {S : HS} {lc : List (Option Value)} {S0 : HS} {mc ms : Nat} {post : Option Value → HS → Prop} (F : pq_Fx p R s m args c D cy A cc nL own) (hr : meth.sig.returnType = some .byte) (hlk : meth.locks = false) (hA : A = va_A (pq_pl cy S0) s.heap.size) {x : Int32} (hn : narrow .byte (.int x) = .int x) (hc : cells ≤ mc) (hs : slots ≤ ms) (hq : post (some (.int x)) S) (hdg : decode cc pc = .ok (.ireturn, 1)) : pq_At p l e R s m args below meth c (pq_Z below args s D cy S0 mc ms post) D cy A nL cells slots pc S lc [.int x] := fun H locs ls hT hP hD hS hl =>
  W.widen hc hs (W.zret F.1 F.2.1 hr hn (pq_qc hA hq hT hP hD hS) (fun q h => hA ▸ hS.2.2 q h) hdg hlk)
theorem pq_peekI {p : Program} {l : Launch} {e : Env} {R : Room} {s : State} {m : MethodId} {args : Array Value} {below : List Frame} {meth : Method} {c : Code} {Q : State → Prop} {D : va_G} {cy : Nat → ClassId} {A : Nat → Prop} {nL cells slots pc : Nat} {S : HS} {lc : List (Option Value)} {st : List Value} {a r k : Nat} {lo hi : Int} (h : pq_R S a r) (hr : r < 100) (ht : pq_ft r k = (1, lo, hi)) (kk : ∀ x : Int32, hO S a k = .int x → lo ≤ x.toInt → x.toInt ≤ hi → pq_At p l e R s m args below meth c Q D cy A nL cells slots pc S lc st) : pq_At p l e R s m args below meth c Q D cy A nL cells slots pc S lc st := fun H locs ls hT hP hD hS hl => by
  have g := hT.1 a r h hr k
  rw [ht] at g
  obtain ⟨x, h1, h2, h3⟩ := g
  exact kk x h1 h2 h3 H locs ls hT hP hD hS hl
theorem pq_peekR {p : Program} {l : Launch} {e : Env} {R : Room} {s : State} {m : MethodId} {args : Array Value} {below : List Frame} {meth : Method} {c : Code} {Q : State → Prop} {D : va_G} {cy : Nat → ClassId} {A : Nat → Prop} {nL cells slots pc : Nat} {S : HS} {lc : List (Option Value)} {st : List Value} {a r k q : Nat} {lo hi : Int} (h : pq_R S a r) (hr : r < 100) (ht : pq_ft r k = (q + 3, lo, hi)) (kk : ∀ b : Nat, hO S a k = .ref b → pq_R S b q → pq_At p l e R s m args below meth c Q D cy A nL cells slots pc S lc st) : pq_At p l e R s m args below meth c Q D cy A nL cells slots pc S lc st := fun H locs ls hT hP hD hS hl => by
  have g := hT.1 a r h hr k
  rw [ht] at g
  obtain ⟨-, b, h1, h2⟩ := g
  exact kk b h1 h2 H locs ls hT hP hD hS hl
theorem pq_IuO {S : HS} {a k : Nat} {v : Value} : hI (pq_uO S a k v) = hI S := rfl
theorem pq_IuJ {S : HS} {a : Nat} {f : Nat → Int64} : hI (pq_uJ S a f) = hI S := rfl
theorem pq_Iu {S : HS} {a b : Nat} {f : Nat → Int32} : hI (pq_uI S a f) b = if b = a then f else hI S b := rfl
theorem pq_JuO {S : HS} {a k : Nat} {v : Value} : hJ (pq_uO S a k v) = hJ S := rfl
theorem pq_JuI {S : HS} {a : Nat} {f : Nat → Int32} : hJ (pq_uI S a f) = hJ S := rfl
theorem pq_Ju {S : HS} {a b : Nat} {f : Nat → Int64} : hJ (pq_uJ S a f) b = if b = a then f else hJ S b := rfl
theorem pq_RuO {S : HS} {a k : Nat} {v : Value} : hR (pq_uO S a k v) = hR S := rfl
theorem pq_RuJ {S : HS} {a : Nat} {f : Nat → Int64} : hR (pq_uJ S a f) = hR S := rfl
theorem pq_RuI {S : HS} {a : Nat} {f : Nat → Int32} : hR (pq_uI S a f) = hR S := rfl
