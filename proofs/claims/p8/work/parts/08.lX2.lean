set_option maxRecDepth 100000 in
theorem lk_X2_9 : pq_Lk RX2 9 5 0 := ⟨RX2, TX2, 3, rfl, by decide, rfl, in_X2, Or.inl (pq_gt1 (i := 70) rfl rfl)⟩
set_option maxRecDepth 100000 in
theorem lf_X2_9 : pq_Lf RX2 9 5 0 (.array .long) := ⟨RX2, TX2, 3, tyX2, rfl, by decide, rfl, in_X2, pq_gt1 (i := 70) rfl rfl, tyX2_ok, nmX2, rfl, rfl, rfl⟩
set_option maxRecDepth 100000 in
theorem lk_X2_15 : pq_Lk RX2 15 5 1 := ⟨RX2, TX2, 3, rfl, by decide, rfl, in_X2, Or.inl (pq_gt1 (i := 73) rfl rfl)⟩
set_option maxRecDepth 100000 in
theorem lf_X2_15 : pq_Lf RX2 15 5 1 (.array .long) := ⟨RX2, TX2, 3, tyX2, rfl, by decide, rfl, in_X2, pq_gt1 (i := 73) rfl rfl, tyX2_ok, nmX2, rfl, rfl, rfl⟩
set_option maxRecDepth 100000 in
theorem lk_X2_24 : pq_Lk RX2 24 5 2 := ⟨RX2, TX2, 3, rfl, by decide, rfl, in_X2, Or.inl (pq_gt1 (i := 76) rfl rfl)⟩
set_option maxRecDepth 100000 in
theorem lp_X2_24 : pq_Lp RX2 24 5 2 (.boolean) := ⟨RX2, TX2, 3, tyX2, rfl, by decide, rfl, in_X2, Or.inl (pq_gt1 (i := 76) rfl rfl), tyX2_ok, nmX2, rfl, rfl⟩
set_option maxRecDepth 100000 in
theorem ow_X2_3 : pq_Ow RX2 3 := ⟨pq_gt1 (i := 69) rfl rfl, pq_gt1 (i := 39) rfl rfl, pq_gt1 (i := 40) rfl rfl⟩
set_option maxRecDepth 100000 in
theorem ml_X2_18 : pq_MS RX2 18 2 yJ7_fill_d0a16 cJ7_fill_d0a16 5 (none) := ⟨ca_S_J7_fill_d0a16.1, ca_S_J7_fill_d0a16.2.1, ca_S_J7_fill_d0a16.2.2.1, ca_S_J7_fill_d0a16.2.2.2, Or.inl (pq_gt3 (i := 29) rfl rfl)⟩
set_option maxRecDepth 100000 in
theorem ml_X2_28 : pq_MV RX2 28 0 yX2_becomeNoText cX2_becomeNoText 1 (none) := ⟨ca_V_X2_becomeNoText.1, ca_V_X2_becomeNoText.2.1, ca_V_X2_becomeNoText.2.2.1, ca_V_X2_becomeNoText.2.2.2.1, ca_V_X2_becomeNoText.2.2.2.2, Or.inl (pq_gt3 (i := 34) rfl rfl)⟩
set_option maxRecDepth 100000 in
theorem ml_X2_41 : pq_MS RX2 41 3 yX10_addAll cX10_addAll 4 (none) := ⟨ca_S_X10_addAll.1, ca_S_X10_addAll.2.1, ca_S_X10_addAll.2.2.1, ca_S_X10_addAll.2.2.2, Or.inr ⟨"PatternPairs", pq_nt3 (i := 55) rfl rfl⟩⟩
set_option maxRecDepth 100000 in
theorem cw_X2_35 : pq_Cw RX2 35 := ⟨pq_gt3 (i := 62) rfl rfl, pq_gt3 (i := 64) rfl rfl, pq_gt3 (i := 63) rfl rfl, pq_gt1 (i := 15) rfl rfl⟩
set_option maxRecDepth 100000 in
theorem ml_X2_31 : pq_MS RX2 31 3 yX10_addBit cX10_addBit 3 (none) := ⟨ca_S_X10_addBit.1, ca_S_X10_addBit.2.1, ca_S_X10_addBit.2.2.1, ca_S_X10_addBit.2.2.2, Or.inr ⟨"PatternPairs", pq_nt4 (i := 219) rfl rfl⟩⟩
