/-! ===== the reader's fields, bundled ===== -/
def pq_J (S : HS) (ch sq : Nat) (jd : Int) : Prop := ∀ i : Nat, (i : Int) ≤ jd → (∃ b, hR S ch i = some b) ∧ ∃ b, hR S sq i = some b
def pq_Rd (S : HS) (a ch sq tp : Nat) (dp at1 br t : Int32) (jd : Int) : Prop := (pq_R S a 9 ∧ hO S a 2 = .ref ch ∧ pq_R S ch 230 ∧ hO S a 3 = .ref sq ∧ pq_R S sq 231 ∧ hO S a 0 = .ref tp ∧ pq_R S tp 12) ∧ (hO S a 6 = .int dp ∧ hO S a 5 = .int at1 ∧ hO S a 7 = .int br ∧ hO S tp 1 = .int t) ∧ (0 ≤ dp.toInt ∧ dp.toInt ≤ 40 ∧ 0 ≤ at1.toInt ∧ at1.toInt ≤ t.toInt + 1 ∧ 0 ≤ t.toInt ∧ t.toInt ≤ 2048) ∧ pq_J S ch sq jd
section RD
variable {S S1 : HS} {a ch sq tp : Nat} {dp at1 br t : Int32} {jd : Int}
theorem pq_Rd.h (h : pq_Rd S a ch sq tp dp at1 br t jd) : pq_R S a 9 := h.1.1
theorem pq_Rd.e2 (h : pq_Rd S a ch sq tp dp at1 br t jd) : hO S a 2 = .ref ch := h.1.2.1
theorem pq_Rd.h2 (h : pq_Rd S a ch sq tp dp at1 br t jd) : pq_R S ch 230 := h.1.2.2.1
theorem pq_Rd.e3 (h : pq_Rd S a ch sq tp dp at1 br t jd) : hO S a 3 = .ref sq := h.1.2.2.2.1
theorem pq_Rd.h3 (h : pq_Rd S a ch sq tp dp at1 br t jd) : pq_R S sq 231 := h.1.2.2.2.2.1
theorem pq_Rd.e0 (h : pq_Rd S a ch sq tp dp at1 br t jd) : hO S a 0 = .ref tp := h.1.2.2.2.2.2.1
theorem pq_Rd.h0 (h : pq_Rd S a ch sq tp dp at1 br t jd) : pq_R S tp 12 := h.1.2.2.2.2.2.2
theorem pq_Rd.e6 (h : pq_Rd S a ch sq tp dp at1 br t jd) : hO S a 6 = .int dp := h.2.1.1
theorem pq_Rd.e5 (h : pq_Rd S a ch sq tp dp at1 br t jd) : hO S a 5 = .int at1 := h.2.1.2.1
theorem pq_Rd.e7 (h : pq_Rd S a ch sq tp dp at1 br t jd) : hO S a 7 = .int br := h.2.1.2.2.1
theorem pq_Rd.et (h : pq_Rd S a ch sq tp dp at1 br t jd) : hO S tp 1 = .int t := h.2.1.2.2.2
theorem pq_Rd.b (h : pq_Rd S a ch sq tp dp at1 br t jd) : 0 ≤ dp.toInt ∧ dp.toInt ≤ 40 ∧ 0 ≤ at1.toInt ∧ at1.toInt ≤ t.toInt + 1 ∧ 0 ≤ t.toInt ∧ t.toInt ≤ 2048 := h.2.2.1
theorem pq_Rd.j (h : pq_Rd S a ch sq tp dp at1 br t jd) : pq_J S ch sq jd := h.2.2.2
theorem pq_Rd.c (h : pq_Rd S a ch sq tp dp at1 br t jd) (hd : dp.toInt ≤ jd) : ∃ b, hR S ch dp.toNatClampNeg = some b := (h.j _ (by rw [pq_cl h.b.1]; exact hd)).1
theorem pq_Rd.q (h : pq_Rd S a ch sq tp dp at1 br t jd) (hd : dp.toInt ≤ jd) : ∃ b, hR S sq dp.toNatClampNeg = some b := (h.j _ (by rw [pq_cl h.b.1]; exact hd)).2
/-- a field of the reader's is set: 5 at, 6 depth, 7 broken -/
theorem pq_Rd.p5 (h : pq_Rd S a ch sq tp dp at1 br t jd) {x : Int32} (h0 : 0 ≤ x.toInt) (h1 : x.toInt ≤ t.toInt + 1) : pq_Rd (pq_uO S a 5 (.int x)) a ch sq tp dp x br t jd :=
  ⟨⟨h.h, pq_kp h.e2 (by decide), h.h2, pq_kp h.e3 (by decide), h.h3, pq_kp h.e0 (by decide), h.h0⟩, ⟨pq_kp h.e6 (by decide), pq_ks, pq_kp h.e7 (by decide), pq_ko h.et h.h0 h.h (by decide)⟩, ⟨h.b.1, h.b.2.1, h0, h1, h.b.2.2.2.2⟩, h.j⟩
theorem pq_Rd.p6 (h : pq_Rd S a ch sq tp dp at1 br t jd) {x : Int32} (h0 : 0 ≤ x.toInt) (h1 : x.toInt ≤ 40) : pq_Rd (pq_uO S a 6 (.int x)) a ch sq tp x at1 br t jd :=
  ⟨⟨h.h, pq_kp h.e2 (by decide), h.h2, pq_kp h.e3 (by decide), h.h3, pq_kp h.e0 (by decide), h.h0⟩, ⟨pq_ks, pq_kp h.e5 (by decide), pq_kp h.e7 (by decide), pq_ko h.et h.h0 h.h (by decide)⟩, ⟨h0, h1, h.b.2.2⟩, h.j⟩
theorem pq_Rd.p7 (h : pq_Rd S a ch sq tp dp at1 br t jd) {x : Int32} : pq_Rd (pq_uO S a 7 (.int x)) a ch sq tp dp at1 x t jd :=
  ⟨⟨h.h, pq_kp h.e2 (by decide), h.h2, pq_kp h.e3 (by decide), h.h3, pq_kp h.e0 (by decide), h.h0⟩, ⟨pq_kp h.e6 (by decide), pq_kp h.e5 (by decide), pq_ks, pq_ko h.et h.h0 h.h (by decide)⟩, h.b, h.j⟩
theorem pq_Rd.p8 (h : pq_Rd S a ch sq tp dp at1 br t jd) {x : Value} {k : Nat} (hk : k = 8 ∨ k = 9) : pq_Rd (pq_uO S a k x) a ch sq tp dp at1 br t jd :=
  ⟨⟨h.h, pq_kp h.e2 (by omega), h.h2, pq_kp h.e3 (by omega), h.h3, pq_kp h.e0 (by omega), h.h0⟩, ⟨pq_kp h.e6 (by omega), pq_kp h.e5 (by omega), pq_kp h.e7 (by omega), pq_ko h.et h.h0 h.h (by decide)⟩, h.b, h.j⟩
/-- another object's field -/
theorem pq_Rd.po (h : pq_Rd S a ch sq tp dp at1 br t jd) {b rb k : Nat} {x : Value} (hb : pq_R S b rb) (h9 : 9 ≠ rb) (h12 : 12 ≠ rb) : pq_Rd (pq_uO S b k x) a ch sq tp dp at1 br t jd :=
  ⟨⟨h.h, pq_ko h.e2 h.h hb h9, h.h2, pq_ko h.e3 h.h hb h9, h.h3, pq_ko h.e0 h.h hb h9, h.h0⟩, ⟨pq_ko h.e6 h.h hb h9, pq_ko h.e5 h.h hb h9, pq_ko h.e7 h.h hb h9, pq_ko h.et h.h0 hb h12⟩, h.b, h.j⟩
theorem pq_Rd.uJ (h : pq_Rd S a ch sq tp dp at1 br t jd) {b : Nat} {f : Nat → Int64} : pq_Rd (pq_uJ S b f) a ch sq tp dp at1 br t jd := h
theorem pq_Rd.fr (h : pq_Rd S a ch sq tp dp at1 br t jd) {M : List (Nat × Nat)} (hF : pq_Fr M S S1) (hM : ∀ q ∈ M, q ∉ [(9, 0), (9, 2), (9, 3), (9, 5), (9, 6), (9, 7), (12, 1), (230, 0), (231, 0)]) : pq_Rd S1 a ch sq tp dp at1 br t jd := by
  have nm : ∀ q, q ∈ [(9, 0), (9, 2), (9, 3), (9, 5), (9, 6), (9, 7), (12, 1), (230, 0), (231, 0)] → q ∉ M := fun q hq hm => hM q hm hq
  refine ⟨⟨hF.R h.h (by decide), hF.O h.h (by decide) (nm _ (by decide)) h.e2, hF.R h.h2 (by decide), hF.O h.h (by decide) (nm _ (by decide)) h.e3, hF.R h.h3 (by decide), hF.O h.h (by decide) (nm _ (by decide)) h.e0, hF.R h.h0 (by decide)⟩, ⟨hF.O h.h (by decide) (nm _ (by decide)) h.e6, hF.O h.h (by decide) (nm _ (by decide)) h.e5, hF.O h.h (by decide) (nm _ (by decide)) h.e7, hF.O h.h0 (by decide) (nm _ (by decide)) h.et⟩, h.b, fun i hi => ?_⟩
  rw [(hF.2.2 ch 230 h.h2 (by decide) (nm _ (by decide))).2.2, (hF.2.2 sq 231 h.h3 (by decide) (nm _ (by decide))).2.2]
  exact h.j i hi
theorem pq_Rd.fr2 {jd2 : Int} (h : pq_Rd S a ch sq tp dp at1 br t jd) {M : List (Nat × Nat)} (hF : pq_Fr M S S1) (hM : ∀ q ∈ M, q ∉ [(9, 0), (9, 2), (9, 3), (9, 5), (9, 6), (9, 7), (12, 1)]) (hj : pq_J S1 ch sq jd2) : pq_Rd S1 a ch sq tp dp at1 br t jd2 := by
  have nm : ∀ q, q ∈ [(9, 0), (9, 2), (9, 3), (9, 5), (9, 6), (9, 7), (12, 1)] → q ∉ M := fun q hq hm => hM q hm hq
  exact ⟨⟨hF.R h.h (by decide), hF.O h.h (by decide) (nm _ (by decide)) h.e2, hF.R h.h2 (by decide), hF.O h.h (by decide) (nm _ (by decide)) h.e3, hF.R h.h3 (by decide), hF.O h.h (by decide) (nm _ (by decide)) h.e0, hF.R h.h0 (by decide)⟩, ⟨hF.O h.h (by decide) (nm _ (by decide)) h.e6, hF.O h.h (by decide) (nm _ (by decide)) h.e5, hF.O h.h (by decide) (nm _ (by decide)) h.e7, hF.O h.h0 (by decide) (nm _ (by decide)) h.et⟩, h.b, hj⟩
theorem pq_Fr.Rf {M : List (Nat × Nat)} {S S1 : HS} {b r : Nat} (h : pq_Fr M S S1) (hb : pq_R S b r) (hr : 100 ≤ r) (hk : (r, 0) ∉ M) (i : Nat) : hR S1 b i = hR S b i := congrFun (h.2.2 b r hb hr hk).2.2 i
theorem pq_Rd.less {jd2 : Int} (h : pq_Rd S a ch sq tp dp at1 br t jd) (hj : jd2 ≤ jd) : pq_Rd S a ch sq tp dp at1 br t jd2 := ⟨h.1, h.2.1, h.2.2.1, fun i hi => h.j i (Int.le_trans hi hj)⟩
end RD
