theorem pq_RRi {S : HS} {a r b : Nat} {f : Nat → Int32} (h : pq_R S a r) : pq_R (pq_uI S b f) a r := h
theorem pq_RRo {S : HS} {a r b k : Nat} {v : Value} (h : pq_R S a r) : pq_R (pq_uO S b k v) a r := h
