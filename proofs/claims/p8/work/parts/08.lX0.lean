set_option maxRecDepth 100000 in
theorem lk_X0_58 : pq_Lk RX0 58 12 1 := ⟨RX9, TX9, 2, rfl, by decide, rfl, in_X9, Or.inr ⟨"PatternPairs", pq_nt1 (i := 51) rfl rfl⟩⟩
set_option maxRecDepth 100000 in
theorem lp_X0_58 : pq_Lp RX0 58 12 1 (.int) := ⟨RX9, TX9, 2, tyX9, rfl, by decide, rfl, in_X9, Or.inr ⟨"PatternPairs", pq_nt1 (i := 51) rfl rfl⟩, tyX9_ok, nmX9, rfl, rfl⟩
set_option maxRecDepth 100000 in
theorem lk_X0_41 : pq_Lk RX0 41 6 0 := ⟨RX3, TX3, 4, rfl, by decide, rfl, in_X3, Or.inr ⟨"PatternPairs", pq_nt1 (i := 159) rfl rfl⟩⟩
set_option maxRecDepth 100000 in
theorem lk_X0_50 : pq_Lk RX0 50 6 2 := ⟨RX3, TX3, 4, rfl, by decide, rfl, in_X3, Or.inr ⟨"PatternPairs", pq_nt1 (i := 163) rfl rfl⟩⟩
set_option maxRecDepth 100000 in
theorem lk_X0_51 : pq_Lk RX0 51 6 3 := ⟨RX3, TX3, 4, rfl, by decide, rfl, in_X3, Or.inr ⟨"PatternPairs", pq_nt1 (i := 165) rfl rfl⟩⟩
set_option maxRecDepth 100000 in
theorem lp_X0_51 : pq_Lp RX0 51 6 3 (.int) := ⟨RX3, TX3, 4, tyX3, rfl, by decide, rfl, in_X3, Or.inr ⟨"PatternPairs", pq_nt1 (i := 165) rfl rfl⟩, tyX3_ok, nmX3, rfl, rfl⟩
set_option maxRecDepth 100000 in
theorem lk_X0_9 : pq_Lk RX0 9 3 0 := ⟨RX0, TX0, 8, rfl, by decide, rfl, in_X0, Or.inl (pq_gt2 (i := 9) rfl rfl)⟩
set_option maxRecDepth 100000 in
theorem lf_X0_9 : pq_Lf RX0 9 3 0 (.array .int) := ⟨RX0, TX0, 8, tyX0, rfl, by decide, rfl, in_X0, pq_gt2 (i := 9) rfl rfl, tyX0_ok, nmX0, rfl, rfl, rfl⟩
set_option maxRecDepth 100000 in
theorem lk_X0_15 : pq_Lk RX0 15 3 1 := ⟨RX0, TX0, 8, rfl, by decide, rfl, in_X0, Or.inl (pq_gt2 (i := 11) rfl rfl)⟩
set_option maxRecDepth 100000 in
theorem lf_X0_15 : pq_Lf RX0 15 3 1 (.array .int) := ⟨RX0, TX0, 8, tyX0, rfl, by decide, rfl, in_X0, pq_gt2 (i := 11) rfl rfl, tyX0_ok, nmX0, rfl, rfl, rfl⟩
set_option maxRecDepth 100000 in
theorem lk_X0_20 : pq_Lk RX0 20 3 2 := ⟨RX0, TX0, 8, rfl, by decide, rfl, in_X0, Or.inl (pq_gt2 (i := 13) rfl rfl)⟩
set_option maxRecDepth 100000 in
theorem lf_X0_20 : pq_Lf RX0 20 3 2 (.array .boolean) := ⟨RX0, TX0, 8, tyX0, rfl, by decide, rfl, in_X0, pq_gt2 (i := 13) rfl rfl, tyX0_ok, nmX0, rfl, rfl, rfl⟩
set_option maxRecDepth 100000 in
theorem lk_X0_24 : pq_Lk RX0 24 3 3 := ⟨RX0, TX0, 8, rfl, by decide, rfl, in_X0, Or.inl (pq_gt2 (i := 17) rfl rfl)⟩
set_option maxRecDepth 100000 in
theorem lp_X0_24 : pq_Lp RX0 24 3 3 (.array .int) := ⟨RX0, TX0, 8, tyX0, rfl, by decide, rfl, in_X0, Or.inl (pq_gt2 (i := 17) rfl rfl), tyX0_ok, nmX0, rfl, rfl⟩
set_option maxRecDepth 100000 in
theorem lk_X0_27 : pq_Lk RX0 27 3 4 := ⟨RX0, TX0, 8, rfl, by decide, rfl, in_X0, Or.inl (pq_gt2 (i := 20) rfl rfl)⟩
set_option maxRecDepth 100000 in
theorem lp_X0_27 : pq_Lp RX0 27 3 4 (.int) := ⟨RX0, TX0, 8, tyX0, rfl, by decide, rfl, in_X0, Or.inl (pq_gt2 (i := 20) rfl rfl), tyX0_ok, nmX0, rfl, rfl⟩
set_option maxRecDepth 100000 in
theorem lk_X0_31 : pq_Lk RX0 31 3 5 := ⟨RX0, TX0, 8, rfl, by decide, rfl, in_X0, Or.inl (pq_gt2 (i := 22) rfl rfl)⟩
set_option maxRecDepth 100000 in
theorem lp_X0_31 : pq_Lp RX0 31 3 5 (.int) := ⟨RX0, TX0, 8, tyX0, rfl, by decide, rfl, in_X0, Or.inl (pq_gt2 (i := 22) rfl rfl), tyX0_ok, nmX0, rfl, rfl⟩
set_option maxRecDepth 100000 in
theorem lk_X0_34 : pq_Lk RX0 34 3 6 := ⟨RX0, TX0, 8, rfl, by decide, rfl, in_X0, Or.inl (pq_gt2 (i := 25) rfl rfl)⟩
set_option maxRecDepth 100000 in
theorem lp_X0_34 : pq_Lp RX0 34 3 6 (.int) := ⟨RX0, TX0, 8, tyX0, rfl, by decide, rfl, in_X0, Or.inl (pq_gt2 (i := 25) rfl rfl), tyX0_ok, nmX0, rfl, rfl⟩
set_option maxRecDepth 100000 in
theorem lk_X0_37 : pq_Lk RX0 37 3 7 := ⟨RX0, TX0, 8, rfl, by decide, rfl, in_X0, Or.inl (pq_gt2 (i := 29) rfl rfl)⟩
set_option maxRecDepth 100000 in
theorem lp_X0_37 : pq_Lp RX0 37 3 7 (.boolean) := ⟨RX0, TX0, 8, tyX0, rfl, by decide, rfl, in_X0, Or.inl (pq_gt2 (i := 29) rfl rfl), tyX0_ok, nmX0, rfl, rfl⟩
set_option maxRecDepth 100000 in
theorem ow_X0_3 : pq_Ow RX0 3 := ⟨pq_gt2 (i := 8) rfl rfl, pq_gt1 (i := 39) rfl rfl, pq_gt1 (i := 40) rfl rfl⟩
set_option maxRecDepth 100000 in
theorem cw_X0_44 : pq_Cw RX0 44 := ⟨pq_gt5 (i := 98) rfl rfl, pq_gt3 (i := 64) rfl rfl, pq_gt3 (i := 63) rfl rfl, pq_gt1 (i := 15) rfl rfl⟩
set_option maxRecDepth 100000 in
theorem ml_X0_54 : pq_MS RX0 54 2 yX10_rowFor cX10_rowFor 2 ((some (.array .int))) := ⟨ca_S_X10_rowFor.1, ca_S_X10_rowFor.2.1, ca_S_X10_rowFor.2.2.1, ca_S_X10_rowFor.2.2.2, Or.inr ⟨"PatternPairs", pq_nt5 (i := 99) rfl rfl⟩⟩
set_option maxRecDepth 100000 in
theorem ml_X0_63 : pq_MV RX0 63 1 yX9_byteAt cX9_byteAt 2 ((some .int)) := ⟨ca_V_X9_byteAt.1, ca_V_X9_byteAt.2.1, ca_V_X9_byteAt.2.2.1, ca_V_X9_byteAt.2.2.2.1, ca_V_X9_byteAt.2.2.2.2, Or.inr ⟨"PatternPairs", pq_nt5 (i := 122) rfl rfl⟩⟩
set_option maxRecDepth 100000 in
theorem ml_X0_67 : pq_MV RX0 67 2 yX0_stepOf cX0_stepOf 3 ((some .int)) := ⟨ca_V_X0_stepOf.1, ca_V_X0_stepOf.2.1, ca_V_X0_stepOf.2.2.1, ca_V_X0_stepOf.2.2.2.1, ca_V_X0_stepOf.2.2.2.2, Or.inl (pq_gt5 (i := 123) rfl rfl)⟩
