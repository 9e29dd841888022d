set_option maxRecDepth 100000 in
theorem lk_X4_55 : pq_Lk RX4 55 6 3 := ⟨RX3, TX3, 4, rfl, by decide, rfl, in_X3, Or.inr ⟨"PatternPairs", pq_nt1 (i := 166) rfl rfl⟩⟩
set_option maxRecDepth 100000 in
theorem lp_X4_55 : pq_Lp RX4 55 6 3 (.int) := ⟨RX3, TX3, 4, tyX3, rfl, by decide, rfl, in_X3, Or.inr ⟨"PatternPairs", pq_nt1 (i := 166) rfl rfl⟩, tyX3_ok, nmX3, rfl, rfl⟩
set_option maxRecDepth 100000 in
theorem lk_X4_51 : pq_Lk RX4 51 11 1 := ⟨RX8, TX8, 10, rfl, by decide, rfl, in_X8, Or.inr ⟨"PatternPairs", pq_nt1 (i := 180) rfl rfl⟩⟩
set_option maxRecDepth 100000 in
theorem lk_X4_72 : pq_Lk RX4 72 11 7 := ⟨RX8, TX8, 10, rfl, by decide, rfl, in_X8, Or.inr ⟨"PatternPairs", pq_nt1 (i := 187) rfl rfl⟩⟩
set_option maxRecDepth 100000 in
theorem lp_X4_72 : pq_Lp RX4 72 11 7 (.int) := ⟨RX8, TX8, 10, tyX8, rfl, by decide, rfl, in_X8, Or.inr ⟨"PatternPairs", pq_nt1 (i := 187) rfl rfl⟩, tyX8_ok, nmX8, rfl, rfl⟩
set_option maxRecDepth 100000 in
theorem lk_X4_33 : pq_Lk RX4 33 7 0 := ⟨RX4, TX4, 8, rfl, by decide, rfl, in_X4, Or.inl (pq_gt1 (i := 217) rfl rfl)⟩
set_option maxRecDepth 100000 in
theorem lf_X4_33 : pq_Lf RX4 33 7 0 (.object "PatternPairs$SetWalk") := ⟨RX4, TX4, 8, tyX4, rfl, by decide, rfl, in_X4, pq_gt1 (i := 217) rfl rfl, tyX4_ok, nmX4, rfl, rfl, rfl⟩
set_option maxRecDepth 100000 in
theorem lk_X4_11 : pq_Lk RX4 11 7 1 := ⟨RX4, TX4, 8, rfl, by decide, rfl, in_X4, Or.inl (pq_gt1 (i := 218) rfl rfl)⟩
set_option maxRecDepth 100000 in
theorem lf_X4_11 : pq_Lf RX4 11 7 1 (.array .int) := ⟨RX4, TX4, 8, tyX4, rfl, by decide, rfl, in_X4, pq_gt1 (i := 218) rfl rfl, tyX4_ok, nmX4, rfl, rfl, rfl⟩
set_option maxRecDepth 100000 in
theorem lk_X4_17 : pq_Lk RX4 17 7 2 := ⟨RX4, TX4, 8, rfl, by decide, rfl, in_X4, Or.inl (pq_gt1 (i := 219) rfl rfl)⟩
set_option maxRecDepth 100000 in
theorem lf_X4_17 : pq_Lf RX4 17 7 2 (.array .int) := ⟨RX4, TX4, 8, tyX4, rfl, by decide, rfl, in_X4, pq_gt1 (i := 219) rfl rfl, tyX4_ok, nmX4, rfl, rfl, rfl⟩
set_option maxRecDepth 100000 in
theorem lk_X4_20 : pq_Lk RX4 20 7 3 := ⟨RX4, TX4, 8, rfl, by decide, rfl, in_X4, Or.inl (pq_gt1 (i := 220) rfl rfl)⟩
set_option maxRecDepth 100000 in
theorem lf_X4_20 : pq_Lf RX4 20 7 3 (.array .int) := ⟨RX4, TX4, 8, tyX4, rfl, by decide, rfl, in_X4, pq_gt1 (i := 220) rfl rfl, tyX4_ok, nmX4, rfl, rfl, rfl⟩
set_option maxRecDepth 100000 in
theorem lk_X4_23 : pq_Lk RX4 23 7 4 := ⟨RX4, TX4, 8, rfl, by decide, rfl, in_X4, Or.inl (pq_gt1 (i := 221) rfl rfl)⟩
set_option maxRecDepth 100000 in
theorem lf_X4_23 : pq_Lf RX4 23 7 4 (.array .int) := ⟨RX4, TX4, 8, tyX4, rfl, by decide, rfl, in_X4, pq_gt1 (i := 221) rfl rfl, tyX4_ok, nmX4, rfl, rfl, rfl⟩
set_option maxRecDepth 100000 in
theorem lk_X4_26 : pq_Lk RX4 26 7 5 := ⟨RX4, TX4, 8, rfl, by decide, rfl, in_X4, Or.inl (pq_gt1 (i := 222) rfl rfl)⟩
set_option maxRecDepth 100000 in
theorem lf_X4_26 : pq_Lf RX4 26 7 5 (.array .long) := ⟨RX4, TX4, 8, tyX4, rfl, by decide, rfl, in_X4, pq_gt1 (i := 222) rfl rfl, tyX4_ok, nmX4, rfl, rfl, rfl⟩
set_option maxRecDepth 100000 in
theorem lk_X4_30 : pq_Lk RX4 30 7 6 := ⟨RX4, TX4, 8, rfl, by decide, rfl, in_X4, Or.inl (pq_gt1 (i := 223) rfl rfl)⟩
set_option maxRecDepth 100000 in
theorem lf_X4_30 : pq_Lf RX4 30 7 6 (.array .long) := ⟨RX4, TX4, 8, tyX4, rfl, by decide, rfl, in_X4, pq_gt1 (i := 223) rfl rfl, tyX4_ok, nmX4, rfl, rfl, rfl⟩
set_option maxRecDepth 100000 in
theorem lk_X4_61 : pq_Lk RX4 61 7 7 := ⟨RX4, TX4, 8, rfl, by decide, rfl, in_X4, Or.inl (pq_gt1 (i := 224) rfl rfl)⟩
set_option maxRecDepth 100000 in
theorem lp_X4_61 : pq_Lp RX4 61 7 7 (.int) := ⟨RX4, TX4, 8, tyX4, rfl, by decide, rfl, in_X4, Or.inl (pq_gt1 (i := 224) rfl rfl), tyX4_ok, nmX4, rfl, rfl⟩
set_option maxRecDepth 100000 in
theorem lk_X4_109 : pq_Lk RX4 109 3 2 := ⟨RX0, TX0, 8, rfl, by decide, rfl, in_X0, Or.inr ⟨"PatternPairs", pq_nt2 (i := 16) rfl rfl⟩⟩
set_option maxRecDepth 100000 in
theorem lk_X4_113 : pq_Lk RX4 113 3 3 := ⟨RX0, TX0, 8, rfl, by decide, rfl, in_X0, Or.inr ⟨"PatternPairs", pq_nt2 (i := 19) rfl rfl⟩⟩
set_option maxRecDepth 100000 in
theorem lp_X4_113 : pq_Lp RX4 113 3 3 (.array .int) := ⟨RX0, TX0, 8, tyX0, rfl, by decide, rfl, in_X0, Or.inr ⟨"PatternPairs", pq_nt2 (i := 19) rfl rfl⟩, tyX0_ok, nmX0, rfl, rfl⟩
set_option maxRecDepth 100000 in
theorem lk_X4_102 : pq_Lk RX4 102 3 6 := ⟨RX0, TX0, 8, rfl, by decide, rfl, in_X0, Or.inr ⟨"PatternPairs", pq_nt2 (i := 28) rfl rfl⟩⟩
set_option maxRecDepth 100000 in
theorem lp_X4_102 : pq_Lp RX4 102 3 6 (.int) := ⟨RX0, TX0, 8, tyX0, rfl, by decide, rfl, in_X0, Or.inr ⟨"PatternPairs", pq_nt2 (i := 28) rfl rfl⟩, tyX0_ok, nmX0, rfl, rfl⟩
set_option maxRecDepth 100000 in
theorem lk_X4_105 : pq_Lk RX4 105 3 7 := ⟨RX0, TX0, 8, rfl, by decide, rfl, in_X0, Or.inr ⟨"PatternPairs", pq_nt2 (i := 33) rfl rfl⟩⟩
set_option maxRecDepth 100000 in
theorem lp_X4_105 : pq_Lp RX4 105 3 7 (.boolean) := ⟨RX0, TX0, 8, tyX0, rfl, by decide, rfl, in_X0, Or.inr ⟨"PatternPairs", pq_nt2 (i := 33) rfl rfl⟩, tyX0_ok, nmX0, rfl, rfl⟩
set_option maxRecDepth 100000 in
theorem lc_X4_43 : Cond.constantLong RX4 43 (-1) ∈ gtb := pq_gt5 (i := 74) rfl rfl
set_option maxRecDepth 100000 in
theorem ow_X4_3 : pq_Ow RX4 3 := ⟨pq_gt1 (i := 216) rfl rfl, pq_gt1 (i := 39) rfl rfl, pq_gt1 (i := 40) rfl rfl⟩
set_option maxRecDepth 100000 in
theorem ml_X4_37 : pq_MV RX4 37 0 yX4_beginBlocks cX4_beginBlocks 3 (none) := ⟨ca_V_X4_beginBlocks.1, ca_V_X4_beginBlocks.2.1, ca_V_X4_beginBlocks.2.2.1, ca_V_X4_beginBlocks.2.2.2.1, ca_V_X4_beginBlocks.2.2.2.2, Or.inl (pq_gt5 (i := 56) rfl rfl)⟩
set_option maxRecDepth 100000 in
theorem ml_X4_75 : pq_MV RX4 75 1 yX8_accepts cX8_accepts 3 ((some .boolean)) := ⟨ca_V_X8_accepts.1, ca_V_X8_accepts.2.1, ca_V_X8_accepts.2.2.1, ca_V_X8_accepts.2.2.2.1, ca_V_X8_accepts.2.2.2.2, Or.inr ⟨"PatternPairs", pq_nt5 (i := 60) rfl rfl⟩⟩
set_option maxRecDepth 100000 in
theorem ml_X4_40 : pq_MV RX4 40 0 yX4_findKindsInto cX4_findKindsInto 3 (none) := ⟨ca_V_X4_findKindsInto.1, ca_V_X4_findKindsInto.2.1, ca_V_X4_findKindsInto.2.2.1, ca_V_X4_findKindsInto.2.2.2.1, ca_V_X4_findKindsInto.2.2.2.2, Or.inl (pq_gt5 (i := 64) rfl rfl)⟩
set_option maxRecDepth 100000 in
theorem ml_X4_45 : pq_MS RX4 45 2 yJ7_fill_d0a16 cJ7_fill_d0a16 5 (none) := ⟨ca_S_J7_fill_d0a16.1, ca_S_J7_fill_d0a16.2.1, ca_S_J7_fill_d0a16.2.2.1, ca_S_J7_fill_d0a16.2.2.2, Or.inl (pq_gt5 (i := 68) rfl rfl)⟩
set_option maxRecDepth 100000 in
theorem ml_X4_79 : pq_MV RX4 79 2 yX8_stepOf cX8_stepOf 3 ((some .int)) := ⟨ca_V_X8_stepOf.1, ca_V_X8_stepOf.2.1, ca_V_X8_stepOf.2.2.1, ca_V_X8_stepOf.2.2.2.1, ca_V_X8_stepOf.2.2.2.2, Or.inr ⟨"PatternPairs", pq_nt5 (i := 69) rfl rfl⟩⟩
set_option maxRecDepth 100000 in
theorem ml_X4_83 : pq_MS RX4 83 3 yX10_addBit cX10_addBit 3 (none) := ⟨ca_S_X10_addBit.1, ca_S_X10_addBit.2.1, ca_S_X10_addBit.2.2.1, ca_S_X10_addBit.2.2.2, Or.inr ⟨"PatternPairs", pq_nt5 (i := 73) rfl rfl⟩⟩
set_option maxRecDepth 100000 in
theorem ml_X4_64 : pq_MS RX4 64 3 yX10_hasBit cX10_hasBit 3 ((some .boolean)) := ⟨ca_S_X10_hasBit.1, ca_S_X10_hasBit.2.1, ca_S_X10_hasBit.2.2.1, ca_S_X10_hasBit.2.2.2, Or.inr ⟨"PatternPairs", pq_nt5 (i := 75) rfl rfl⟩⟩
set_option maxRecDepth 100000 in
theorem ml_X4_68 : pq_MV RX4 68 1 yX4_splitBy cX4_splitBy 3 (none) := ⟨ca_V_X4_splitBy.1, ca_V_X4_splitBy.2.1, ca_V_X4_splitBy.2.2.1, ca_V_X4_splitBy.2.2.2.1, ca_V_X4_splitBy.2.2.2.2, Or.inl (pq_gt5 (i := 76) rfl rfl)⟩
set_option maxRecDepth 100000 in
theorem ml_X4_87 : pq_MS RX4 87 4 yJ7_fill_fda19 cJ7_fill_fda19 5 (none) := ⟨ca_S_J7_fill_fda19.1, ca_S_J7_fill_fda19.2.1, ca_S_J7_fill_fda19.2.2.1, ca_S_J7_fill_fda19.2.2.2, Or.inl (pq_gt5 (i := 80) rfl rfl)⟩
set_option maxRecDepth 100000 in
theorem ml_X4_90 : pq_MV RX4 90 2 yX4_partOf cX4_partOf 5 ((some .int)) := ⟨ca_V_X4_partOf.1, ca_V_X4_partOf.2.1, ca_V_X4_partOf.2.2.1, ca_V_X4_partOf.2.2.2.1, ca_V_X4_partOf.2.2.2.2, Or.inl (pq_gt5 (i := 81) rfl rfl)⟩
set_option maxRecDepth 100000 in
theorem ml_X4_93 : pq_MV RX4 93 1 yX4_moveToNewBlock cX4_moveToNewBlock 3 (none) := ⟨ca_V_X4_moveToNewBlock.1, ca_V_X4_moveToNewBlock.2.1, ca_V_X4_moveToNewBlock.2.2.1, ca_V_X4_moveToNewBlock.2.2.2.1, ca_V_X4_moveToNewBlock.2.2.2.2, Or.inl (pq_gt5 (i := 85) rfl rfl)⟩
set_option maxRecDepth 100000 in
theorem ml_X4_96 : pq_MV RX4 96 2 yX0_reshape cX0_reshape 3 (none) := ⟨ca_V_X0_reshape.1, ca_V_X0_reshape.2.1, ca_V_X0_reshape.2.2.1, ca_V_X0_reshape.2.2.2.1, ca_V_X0_reshape.2.2.2.2, Or.inr ⟨"PatternPairs", pq_nt5 (i := 94) rfl rfl⟩⟩
