def tk_Fl (S : HS) (tt rs tko st2 : Nat) (n bl s0 zz : Int32) : Prop := pq_Fl S tt rs tko st2 n bl s0 ∧ hO S tt 7 = .int zz
