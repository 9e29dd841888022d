set_option maxRecDepth 100000 in
theorem lk_X3_9 : pq_Lk RX3 9 6 0 := ⟨RX3, TX3, 4, rfl, by decide, rfl, in_X3, Or.inl (pq_gt1 (i := 158) rfl rfl)⟩
set_option maxRecDepth 100000 in
theorem lf_X3_9 : pq_Lf RX3 9 6 0 (.array .int) := ⟨RX3, TX3, 4, tyX3, rfl, by decide, rfl, in_X3, pq_gt1 (i := 158) rfl rfl, tyX3_ok, nmX3, rfl, rfl, rfl⟩
set_option maxRecDepth 100000 in
theorem lk_X3_15 : pq_Lk RX3 15 6 1 := ⟨RX3, TX3, 4, rfl, by decide, rfl, in_X3, Or.inl (pq_gt1 (i := 160) rfl rfl)⟩
set_option maxRecDepth 100000 in
theorem lf_X3_15 : pq_Lf RX3 15 6 1 (.array .int) := ⟨RX3, TX3, 4, tyX3, rfl, by decide, rfl, in_X3, pq_gt1 (i := 160) rfl rfl, tyX3_ok, nmX3, rfl, rfl, rfl⟩
set_option maxRecDepth 100000 in
theorem lk_X3_18 : pq_Lk RX3 18 6 2 := ⟨RX3, TX3, 4, rfl, by decide, rfl, in_X3, Or.inl (pq_gt1 (i := 162) rfl rfl)⟩
set_option maxRecDepth 100000 in
theorem lf_X3_18 : pq_Lf RX3 18 6 2 (.array .int) := ⟨RX3, TX3, 4, tyX3, rfl, by decide, rfl, in_X3, pq_gt1 (i := 162) rfl rfl, tyX3_ok, nmX3, rfl, rfl, rfl⟩
set_option maxRecDepth 100000 in
theorem lk_X3_21 : pq_Lk RX3 21 6 3 := ⟨RX3, TX3, 4, rfl, by decide, rfl, in_X3, Or.inl (pq_gt1 (i := 164) rfl rfl)⟩
set_option maxRecDepth 100000 in
theorem lp_X3_21 : pq_Lp RX3 21 6 3 (.int) := ⟨RX3, TX3, 4, tyX3, rfl, by decide, rfl, in_X3, Or.inl (pq_gt1 (i := 164) rfl rfl), tyX3_ok, nmX3, rfl, rfl⟩
set_option maxRecDepth 100000 in
theorem ow_X3_3 : pq_Ow RX3 3 := ⟨pq_gt1 (i := 157) rfl rfl, pq_gt1 (i := 39) rfl rfl, pq_gt1 (i := 40) rfl rfl⟩
set_option maxRecDepth 100000 in
theorem ml_X3_25 : pq_MS RX3 25 4 yX10_sameRow cX10_sameRow 5 ((some .boolean)) := ⟨ca_S_X10_sameRow.1, ca_S_X10_sameRow.2.1, ca_S_X10_sameRow.2.2.1, ca_S_X10_sameRow.2.2.2, Or.inr ⟨"PatternPairs", pq_nt5 (i := 9) rfl rfl⟩⟩
