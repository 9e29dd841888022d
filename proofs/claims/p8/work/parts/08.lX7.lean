set_option maxRecDepth 100000 in
theorem lk_X7_64 : pq_Lk RX7 64 3 0 := ⟨RX0, TX0, 8, rfl, by decide, rfl, in_X0, Or.inr ⟨"PatternPairs", pq_nt2 (i := 10) rfl rfl⟩⟩
set_option maxRecDepth 100000 in
theorem lk_X7_100 : pq_Lk RX7 100 3 2 := ⟨RX0, TX0, 8, rfl, by decide, rfl, in_X0, Or.inr ⟨"PatternPairs", pq_nt2 (i := 15) rfl rfl⟩⟩
set_option maxRecDepth 100000 in
theorem lk_X7_67 : pq_Lk RX7 67 3 5 := ⟨RX0, TX0, 8, rfl, by decide, rfl, in_X0, Or.inr ⟨"PatternPairs", pq_nt2 (i := 24) rfl rfl⟩⟩
set_option maxRecDepth 100000 in
theorem lp_X7_67 : pq_Lp RX7 67 3 5 (.int) := ⟨RX0, TX0, 8, tyX0, rfl, by decide, rfl, in_X0, Or.inr ⟨"PatternPairs", pq_nt2 (i := 24) rfl rfl⟩, tyX0_ok, nmX0, rfl, rfl⟩
set_option maxRecDepth 100000 in
theorem lk_X7_86 : pq_Lk RX7 86 3 6 := ⟨RX0, TX0, 8, rfl, by decide, rfl, in_X0, Or.inr ⟨"PatternPairs", pq_nt2 (i := 27) rfl rfl⟩⟩
set_option maxRecDepth 100000 in
theorem lp_X7_86 : pq_Lp RX7 86 3 6 (.int) := ⟨RX0, TX0, 8, tyX0, rfl, by decide, rfl, in_X0, Or.inr ⟨"PatternPairs", pq_nt2 (i := 27) rfl rfl⟩, tyX0_ok, nmX0, rfl, rfl⟩
set_option maxRecDepth 100000 in
theorem lk_X7_33 : pq_Lk RX7 33 3 7 := ⟨RX0, TX0, 8, rfl, by decide, rfl, in_X0, Or.inr ⟨"PatternPairs", pq_nt2 (i := 31) rfl rfl⟩⟩
set_option maxRecDepth 100000 in
theorem lp_X7_33 : pq_Lp RX7 33 3 7 (.boolean) := ⟨RX0, TX0, 8, tyX0, rfl, by decide, rfl, in_X0, Or.inr ⟨"PatternPairs", pq_nt2 (i := 31) rfl rfl⟩, tyX0_ok, nmX0, rfl, rfl⟩
set_option maxRecDepth 100000 in
theorem lk_X7_9 : pq_Lk RX7 9 10 0 := ⟨RX7, TX7, 8, rfl, by decide, rfl, in_X7, Or.inl (pq_gt2 (i := 71) rfl rfl)⟩
set_option maxRecDepth 100000 in
theorem lf_X7_9 : pq_Lf RX7 9 10 0 (.array .int) := ⟨RX7, TX7, 8, tyX7, rfl, by decide, rfl, in_X7, pq_gt2 (i := 71) rfl rfl, tyX7_ok, nmX7, rfl, rfl, rfl⟩
set_option maxRecDepth 100000 in
theorem lk_X7_61 : pq_Lk RX7 61 10 1 := ⟨RX7, TX7, 8, rfl, by decide, rfl, in_X7, Or.inl (pq_gt2 (i := 72) rfl rfl)⟩
set_option maxRecDepth 100000 in
theorem lp_X7_61 : pq_Lp RX7 61 10 1 (.int) := ⟨RX7, TX7, 8, tyX7, rfl, by decide, rfl, in_X7, Or.inl (pq_gt2 (i := 72) rfl rfl), tyX7_ok, nmX7, rfl, rfl⟩
set_option maxRecDepth 100000 in
theorem lk_X7_15 : pq_Lk RX7 15 10 2 := ⟨RX7, TX7, 8, rfl, by decide, rfl, in_X7, Or.inl (pq_gt2 (i := 73) rfl rfl)⟩
set_option maxRecDepth 100000 in
theorem lp_X7_15 : pq_Lp RX7 15 10 2 (.array .int) := ⟨RX7, TX7, 8, tyX7, rfl, by decide, rfl, in_X7, Or.inl (pq_gt2 (i := 73) rfl rfl), tyX7_ok, nmX7, rfl, rfl⟩
set_option maxRecDepth 100000 in
theorem lk_X7_18 : pq_Lk RX7 18 10 3 := ⟨RX7, TX7, 8, rfl, by decide, rfl, in_X7, Or.inl (pq_gt2 (i := 74) rfl rfl)⟩
set_option maxRecDepth 100000 in
theorem lp_X7_18 : pq_Lp RX7 18 10 3 (.array .int) := ⟨RX7, TX7, 8, tyX7, rfl, by decide, rfl, in_X7, Or.inl (pq_gt2 (i := 74) rfl rfl), tyX7_ok, nmX7, rfl, rfl⟩
set_option maxRecDepth 100000 in
theorem lk_X7_21 : pq_Lk RX7 21 10 4 := ⟨RX7, TX7, 8, rfl, by decide, rfl, in_X7, Or.inl (pq_gt2 (i := 75) rfl rfl)⟩
set_option maxRecDepth 100000 in
theorem lp_X7_21 : pq_Lp RX7 21 10 4 (.array .long) := ⟨RX7, TX7, 8, tyX7, rfl, by decide, rfl, in_X7, Or.inl (pq_gt2 (i := 75) rfl rfl), tyX7_ok, nmX7, rfl, rfl⟩
set_option maxRecDepth 100000 in
theorem lk_X7_50 : pq_Lk RX7 50 10 5 := ⟨RX7, TX7, 8, rfl, by decide, rfl, in_X7, Or.inl (pq_gt2 (i := 76) rfl rfl)⟩
set_option maxRecDepth 100000 in
theorem lp_X7_50 : pq_Lp RX7 50 10 5 (.int) := ⟨RX7, TX7, 8, tyX7, rfl, by decide, rfl, in_X7, Or.inl (pq_gt2 (i := 76) rfl rfl), tyX7_ok, nmX7, rfl, rfl⟩
set_option maxRecDepth 100000 in
theorem lk_X7_25 : pq_Lk RX7 25 10 6 := ⟨RX7, TX7, 8, rfl, by decide, rfl, in_X7, Or.inl (pq_gt2 (i := 77) rfl rfl)⟩
set_option maxRecDepth 100000 in
theorem lp_X7_25 : pq_Lp RX7 25 10 6 (.array .byte) := ⟨RX7, TX7, 8, tyX7, rfl, by decide, rfl, in_X7, Or.inl (pq_gt2 (i := 77) rfl rfl), tyX7_ok, nmX7, rfl, rfl⟩
set_option maxRecDepth 100000 in
theorem lk_X7_29 : pq_Lk RX7 29 10 7 := ⟨RX7, TX7, 8, rfl, by decide, rfl, in_X7, Or.inl (pq_gt2 (i := 79) rfl rfl)⟩
set_option maxRecDepth 100000 in
theorem lp_X7_29 : pq_Lp RX7 29 10 7 (.int) := ⟨RX7, TX7, 8, tyX7, rfl, by decide, rfl, in_X7, Or.inl (pq_gt2 (i := 79) rfl rfl), tyX7_ok, nmX7, rfl, rfl⟩
set_option maxRecDepth 100000 in
theorem ow_X7_3 : pq_Ow RX7 3 := ⟨pq_gt2 (i := 70) rfl rfl, pq_gt1 (i := 39) rfl rfl, pq_gt1 (i := 40) rfl rfl⟩
set_option maxRecDepth 100000 in
theorem ml_X7_39 : pq_MS RX7 39 3 yX7_isWanted cX7_isWanted 3 ((some .boolean)) := ⟨ca_S_X7_isWanted.1, ca_S_X7_isWanted.2.1, ca_S_X7_isWanted.2.2.1, ca_S_X7_isWanted.2.2.2, Or.inl (pq_gt5 (i := 139) rfl rfl)⟩
set_option maxRecDepth 100000 in
theorem ml_X7_43 : pq_MV RX7 43 2 yX7_joinKinds cX7_joinKinds 5 (none) := ⟨ca_V_X7_joinKinds.1, ca_V_X7_joinKinds.2.1, ca_V_X7_joinKinds.2.2.1, ca_V_X7_joinKinds.2.2.2.1, ca_V_X7_joinKinds.2.2.2.2, Or.inl (pq_gt5 (i := 142) rfl rfl)⟩
set_option maxRecDepth 100000 in
theorem ml_X7_47 : pq_MV RX7 47 2 yX7_begin cX7_begin 5 (none) := ⟨ca_V_X7_begin.1, ca_V_X7_begin.2.1, ca_V_X7_begin.2.2.1, ca_V_X7_begin.2.2.2.1, ca_V_X7_begin.2.2.2.2, Or.inl (pq_gt5 (i := 146) rfl rfl)⟩
set_option maxRecDepth 100000 in
theorem ml_X7_70 : pq_MS RX7 70 2 yX10_rowFor cX10_rowFor 2 ((some (.array .int))) := ⟨ca_S_X10_rowFor.1, ca_S_X10_rowFor.2.1, ca_S_X10_rowFor.2.2.1, ca_S_X10_rowFor.2.2.2, Or.inr ⟨"PatternPairs", pq_nt5 (i := 150) rfl rfl⟩⟩
set_option maxRecDepth 100000 in
theorem mx_X7_74 : pq_Mx RX7 74 := ⟨pq_gt5 (i := 151) rfl rfl, pq_gt3 (i := 138) rfl rfl, pq_gt1 (i := 14) rfl rfl, pq_gt3 (i := 139) rfl rfl⟩
set_option maxRecDepth 100000 in
theorem ml_X7_80 : pq_MS RX7 80 2 yJ7_fill_d0a16 cJ7_fill_d0a16 5 (none) := ⟨ca_S_J7_fill_d0a16.1, ca_S_J7_fill_d0a16.2.1, ca_S_J7_fill_d0a16.2.2.1, ca_S_J7_fill_d0a16.2.2.2, Or.inl (pq_gt5 (i := 152) rfl rfl)⟩
set_option maxRecDepth 100000 in
theorem ml_X7_53 : pq_MV RX7 53 4 yX7_visitFrom cX7_visitFrom 12 ((some .int)) := ⟨ca_V_X7_visitFrom.1, ca_V_X7_visitFrom.2.1, ca_V_X7_visitFrom.2.2.1, ca_V_X7_visitFrom.2.2.2.1, ca_V_X7_visitFrom.2.2.2.2, Or.inl (pq_gt5 (i := 153) rfl rfl)⟩
set_option maxRecDepth 100000 in
theorem ml_X7_89 : pq_MV RX7 89 2 yX0_stepOf cX0_stepOf 3 ((some .int)) := ⟨ca_V_X0_stepOf.1, ca_V_X0_stepOf.2.1, ca_V_X0_stepOf.2.2.1, ca_V_X0_stepOf.2.2.2.1, ca_V_X0_stepOf.2.2.2.2, Or.inr ⟨"PatternPairs", pq_nt5 (i := 157) rfl rfl⟩⟩
set_option maxRecDepth 100000 in
theorem ml_X7_92 : pq_MS RX7 92 3 yX10_hasBit cX10_hasBit 3 ((some .boolean)) := ⟨ca_S_X10_hasBit.1, ca_S_X10_hasBit.2.1, ca_S_X10_hasBit.2.2.1, ca_S_X10_hasBit.2.2.2, Or.inr ⟨"PatternPairs", pq_nt5 (i := 158) rfl rfl⟩⟩
set_option maxRecDepth 100000 in
theorem ml_X7_96 : pq_MS RX7 96 3 yX10_addBit cX10_addBit 3 (none) := ⟨ca_S_X10_addBit.1, ca_S_X10_addBit.2.1, ca_S_X10_addBit.2.2.1, ca_S_X10_addBit.2.2.2, Or.inr ⟨"PatternPairs", pq_nt5 (i := 159) rfl rfl⟩⟩
set_option maxRecDepth 100000 in
theorem ml_X7_57 : pq_MV RX7 57 1 yX7_writeText cX7_writeText 4 (none) := ⟨ca_V_X7_writeText.1, ca_V_X7_writeText.2.1, ca_V_X7_writeText.2.2.1, ca_V_X7_writeText.2.2.2.1, ca_V_X7_writeText.2.2.2.2, Or.inl (pq_gt5 (i := 160) rfl rfl)⟩
