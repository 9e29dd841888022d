set_option maxRecDepth 100000 in
theorem lk_X9_9 : pq_Lk RX9 9 12 0 := ⟨RX9, TX9, 2, rfl, by decide, rfl, in_X9, Or.inl (pq_gt1 (i := 47) rfl rfl)⟩
set_option maxRecDepth 100000 in
theorem lf_X9_9 : pq_Lf RX9 9 12 0 (.array .byte) := ⟨RX9, TX9, 2, tyX9, rfl, by decide, rfl, in_X9, pq_gt1 (i := 47) rfl rfl, tyX9_ok, nmX9, rfl, rfl, rfl⟩
set_option maxRecDepth 100000 in
theorem lk_X9_15 : pq_Lk RX9 15 12 1 := ⟨RX9, TX9, 2, rfl, by decide, rfl, in_X9, Or.inl (pq_gt1 (i := 49) rfl rfl)⟩
set_option maxRecDepth 100000 in
theorem lp_X9_15 : pq_Lp RX9 15 12 1 (.int) := ⟨RX9, TX9, 2, tyX9, rfl, by decide, rfl, in_X9, Or.inl (pq_gt1 (i := 49) rfl rfl), tyX9_ok, nmX9, rfl, rfl⟩
set_option maxRecDepth 100000 in
theorem ow_X9_3 : pq_Ow RX9 3 := ⟨pq_gt1 (i := 46) rfl rfl, pq_gt1 (i := 39) rfl rfl, pq_gt1 (i := 40) rfl rfl⟩
