set_option maxRecDepth 100000 in
theorem lk_X1_52 : pq_Lk RX1 52 3 1 := ⟨RX0, TX0, 8, rfl, by decide, rfl, in_X0, Or.inr ⟨"PatternPairs", pq_nt2 (i := 12) rfl rfl⟩⟩
set_option maxRecDepth 100000 in
theorem lk_X1_41 : pq_Lk RX1 41 3 2 := ⟨RX0, TX0, 8, rfl, by decide, rfl, in_X0, Or.inr ⟨"PatternPairs", pq_nt2 (i := 14) rfl rfl⟩⟩
set_option maxRecDepth 100000 in
theorem lk_X1_48 : pq_Lk RX1 48 3 3 := ⟨RX0, TX0, 8, rfl, by decide, rfl, in_X0, Or.inr ⟨"PatternPairs", pq_nt2 (i := 18) rfl rfl⟩⟩
set_option maxRecDepth 100000 in
theorem lp_X1_48 : pq_Lp RX1 48 3 3 (.array .int) := ⟨RX0, TX0, 8, tyX0, rfl, by decide, rfl, in_X0, Or.inr ⟨"PatternPairs", pq_nt2 (i := 18) rfl rfl⟩, tyX0_ok, nmX0, rfl, rfl⟩
set_option maxRecDepth 100000 in
theorem lk_X1_45 : pq_Lk RX1 45 3 4 := ⟨RX0, TX0, 8, rfl, by decide, rfl, in_X0, Or.inr ⟨"PatternPairs", pq_nt2 (i := 21) rfl rfl⟩⟩
set_option maxRecDepth 100000 in
theorem lp_X1_45 : pq_Lp RX1 45 3 4 (.int) := ⟨RX0, TX0, 8, tyX0, rfl, by decide, rfl, in_X0, Or.inr ⟨"PatternPairs", pq_nt2 (i := 21) rfl rfl⟩, tyX0_ok, nmX0, rfl, rfl⟩
set_option maxRecDepth 100000 in
theorem lk_X1_38 : pq_Lk RX1 38 3 5 := ⟨RX0, TX0, 8, rfl, by decide, rfl, in_X0, Or.inr ⟨"PatternPairs", pq_nt2 (i := 23) rfl rfl⟩⟩
set_option maxRecDepth 100000 in
theorem lp_X1_38 : pq_Lp RX1 38 3 5 (.int) := ⟨RX0, TX0, 8, tyX0, rfl, by decide, rfl, in_X0, Or.inr ⟨"PatternPairs", pq_nt2 (i := 23) rfl rfl⟩, tyX0_ok, nmX0, rfl, rfl⟩
set_option maxRecDepth 100000 in
theorem lk_X1_30 : pq_Lk RX1 30 3 6 := ⟨RX0, TX0, 8, rfl, by decide, rfl, in_X0, Or.inr ⟨"PatternPairs", pq_nt2 (i := 26) rfl rfl⟩⟩
set_option maxRecDepth 100000 in
theorem lp_X1_30 : pq_Lp RX1 30 3 6 (.int) := ⟨RX0, TX0, 8, tyX0, rfl, by decide, rfl, in_X0, Or.inr ⟨"PatternPairs", pq_nt2 (i := 26) rfl rfl⟩, tyX0_ok, nmX0, rfl, rfl⟩
set_option maxRecDepth 100000 in
theorem lk_X1_18 : pq_Lk RX1 18 3 7 := ⟨RX0, TX0, 8, rfl, by decide, rfl, in_X0, Or.inr ⟨"PatternPairs", pq_nt2 (i := 30) rfl rfl⟩⟩
set_option maxRecDepth 100000 in
theorem lp_X1_18 : pq_Lp RX1 18 3 7 (.boolean) := ⟨RX0, TX0, 8, tyX0, rfl, by decide, rfl, in_X0, Or.inr ⟨"PatternPairs", pq_nt2 (i := 30) rfl rfl⟩, tyX0_ok, nmX0, rfl, rfl⟩
set_option maxRecDepth 100000 in
theorem lk_X1_9 : pq_Lk RX1 9 4 0 := ⟨RX1, TX1, 2, rfl, by decide, rfl, in_X1, Or.inl (pq_gt2 (i := 58) rfl rfl)⟩
set_option maxRecDepth 100000 in
theorem lp_X1_9 : pq_Lp RX1 9 4 0 (.array .long) := ⟨RX1, TX1, 2, tyX1, rfl, by decide, rfl, in_X1, Or.inl (pq_gt2 (i := 58) rfl rfl), tyX1_ok, nmX1, rfl, rfl⟩
set_option maxRecDepth 100000 in
theorem lk_X1_15 : pq_Lk RX1 15 4 1 := ⟨RX1, TX1, 2, rfl, by decide, rfl, in_X1, Or.inl (pq_gt2 (i := 59) rfl rfl)⟩
set_option maxRecDepth 100000 in
theorem lp_X1_15 : pq_Lp RX1 15 4 1 (.array .long) := ⟨RX1, TX1, 2, tyX1, rfl, by decide, rfl, in_X1, Or.inl (pq_gt2 (i := 59) rfl rfl), tyX1_ok, nmX1, rfl, rfl⟩
set_option maxRecDepth 100000 in
theorem ow_X1_1 : pq_Ow RX1 1 := ⟨pq_gt2 (i := 57) rfl rfl, pq_gt1 (i := 39) rfl rfl, pq_gt1 (i := 40) rfl rfl⟩
set_option maxRecDepth 100000 in
theorem ml_X1_24 : pq_MS RX1 24 2 yJ7_fill_d0a16 cJ7_fill_d0a16 5 (none) := ⟨ca_S_J7_fill_d0a16.1, ca_S_J7_fill_d0a16.2.1, ca_S_J7_fill_d0a16.2.2.1, ca_S_J7_fill_d0a16.2.2.2, Or.inl (pq_gt5 (i := 200) rfl rfl)⟩
set_option maxRecDepth 100000 in
theorem ml_X1_34 : pq_MV RX1 34 1 yX1_lengthen cX1_lengthen 4 (none) := ⟨ca_V_X1_lengthen.1, ca_V_X1_lengthen.2.1, ca_V_X1_lengthen.2.2.1, ca_V_X1_lengthen.2.2.2.1, ca_V_X1_lengthen.2.2.2.2, Or.inl (pq_gt5 (i := 201) rfl rfl)⟩
