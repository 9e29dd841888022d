set_option maxRecDepth 100000 in
theorem lk_X10_75 : pq_Lk RX10 75 12 1 := ⟨RX9, TX9, 2, rfl, by decide, rfl, in_X9, Or.inr ⟨"PatternPairs", pq_nt1 (i := 48) rfl rfl⟩⟩
set_option maxRecDepth 100000 in
theorem lp_X10_75 : pq_Lp RX10 75 12 1 (.int) := ⟨RX9, TX9, 2, tyX9, rfl, by decide, rfl, in_X9, Or.inr ⟨"PatternPairs", pq_nt1 (i := 48) rfl rfl⟩, tyX9_ok, nmX9, rfl, rfl⟩
set_option maxRecDepth 100000 in
theorem lk_X10_122 : pq_Lk RX10 122 5 2 := ⟨RX2, TX2, 3, rfl, by decide, rfl, in_X2, Or.inr ⟨"PatternPairs", pq_nt1 (i := 77) rfl rfl⟩⟩
set_option maxRecDepth 100000 in
theorem lp_X10_122 : pq_Lp RX10 122 5 2 (.boolean) := ⟨RX2, TX2, 3, tyX2, rfl, by decide, rfl, in_X2, Or.inr ⟨"PatternPairs", pq_nt1 (i := 77) rfl rfl⟩, tyX2_ok, nmX2, rfl, rfl⟩
set_option maxRecDepth 100000 in
theorem lk_X10_118 : pq_Lk RX10 118 8 2 := ⟨RX5, TX5, 4, rfl, by decide, rfl, in_X5, Or.inr ⟨"PatternPairs", pq_nt1 (i := 94) rfl rfl⟩⟩
set_option maxRecDepth 100000 in
theorem lk_X10_135 : pq_Lk RX10 135 3 7 := ⟨RX0, TX0, 8, rfl, by decide, rfl, in_X0, Or.inr ⟨"PatternPairs", pq_nt2 (i := 32) rfl rfl⟩⟩
set_option maxRecDepth 100000 in
theorem lp_X10_135 : pq_Lp RX10 135 3 7 (.boolean) := ⟨RX0, TX0, 8, tyX0, rfl, by decide, rfl, in_X0, Or.inr ⟨"PatternPairs", pq_nt2 (i := 32) rfl rfl⟩, tyX0_ok, nmX0, rfl, rfl⟩
set_option maxRecDepth 100000 in
theorem lk_X10_154 : pq_Lk RX10 154 10 6 := ⟨RX7, TX7, 8, rfl, by decide, rfl, in_X7, Or.inr ⟨"PatternPairs", pq_nt2 (i := 78) rfl rfl⟩⟩
set_option maxRecDepth 100000 in
theorem lp_X10_154 : pq_Lp RX10 154 10 6 (.array .byte) := ⟨RX7, TX7, 8, tyX7, rfl, by decide, rfl, in_X7, Or.inr ⟨"PatternPairs", pq_nt2 (i := 78) rfl rfl⟩, tyX7_ok, nmX7, rfl, rfl⟩
set_option maxRecDepth 100000 in
theorem lk_X10_148 : pq_Lk RX10 148 10 7 := ⟨RX7, TX7, 8, rfl, by decide, rfl, in_X7, Or.inr ⟨"PatternPairs", pq_nt2 (i := 80) rfl rfl⟩⟩
set_option maxRecDepth 100000 in
theorem lp_X10_148 : pq_Lp RX10 148 10 7 (.int) := ⟨RX7, TX7, 8, tyX7, rfl, by decide, rfl, in_X7, Or.inr ⟨"PatternPairs", pq_nt2 (i := 80) rfl rfl⟩, tyX7_ok, nmX7, rfl, rfl⟩
set_option maxRecDepth 100000 in
theorem lk_X10_10 : pq_Lk RX10 10 13 0 := ⟨RX10, TX10, 9, rfl, by decide, rfl, in_X10, Or.inl (pq_gt2 (i := 98) rfl rfl)⟩
set_option maxRecDepth 100000 in
theorem lf_X10_10 : pq_Lf RX10 10 13 0 (.object "PatternPairs$Tape") := ⟨RX10, TX10, 9, tyX10, rfl, by decide, rfl, in_X10, pq_gt2 (i := 98) rfl rfl, tyX10_ok, nmX10, rfl, rfl, rfl⟩
set_option maxRecDepth 100000 in
theorem lk_X10_19 : pq_Lk RX10 19 13 1 := ⟨RX10, TX10, 9, rfl, by decide, rfl, in_X10, Or.inl (pq_gt2 (i := 99) rfl rfl)⟩
set_option maxRecDepth 100000 in
theorem lf_X10_19 : pq_Lf RX10 19 13 1 (.object "PatternPairs$Places") := ⟨RX10, TX10, 9, tyX10, rfl, by decide, rfl, in_X10, pq_gt2 (i := 99) rfl rfl, tyX10_ok, nmX10, rfl, rfl, rfl⟩
set_option maxRecDepth 100000 in
theorem lk_X10_28 : pq_Lk RX10 28 13 2 := ⟨RX10, TX10, 9, rfl, by decide, rfl, in_X10, Or.inl (pq_gt2 (i := 100) rfl rfl)⟩
set_option maxRecDepth 100000 in
theorem lf_X10_28 : pq_Lf RX10 28 13 2 (.object "PatternPairs$Reader") := ⟨RX10, TX10, 9, tyX10, rfl, by decide, rfl, in_X10, pq_gt2 (i := 100) rfl rfl, tyX10_ok, nmX10, rfl, rfl, rfl⟩
set_option maxRecDepth 100000 in
theorem lk_X10_37 : pq_Lk RX10 37 13 3 := ⟨RX10, TX10, 9, rfl, by decide, rfl, in_X10, Or.inl (pq_gt2 (i := 101) rfl rfl)⟩
set_option maxRecDepth 100000 in
theorem lf_X10_37 : pq_Lf RX10 37 13 3 (.object "PatternPairs$SetWalk") := ⟨RX10, TX10, 9, tyX10, rfl, by decide, rfl, in_X10, pq_gt2 (i := 101) rfl rfl, tyX10_ok, nmX10, rfl, rfl, rfl⟩
set_option maxRecDepth 100000 in
theorem lk_X10_46 : pq_Lk RX10 46 13 4 := ⟨RX10, TX10, 9, rfl, by decide, rfl, in_X10, Or.inl (pq_gt2 (i := 102) rfl rfl)⟩
set_option maxRecDepth 100000 in
theorem lf_X10_46 : pq_Lf RX10 46 13 4 (.object "PatternPairs$Merger") := ⟨RX10, TX10, 9, tyX10, rfl, by decide, rfl, in_X10, pq_gt2 (i := 102) rfl rfl, tyX10_ok, nmX10, rfl, rfl, rfl⟩
set_option maxRecDepth 100000 in
theorem lk_X10_53 : pq_Lk RX10 53 13 5 := ⟨RX10, TX10, 9, rfl, by decide, rfl, in_X10, Or.inl (pq_gt2 (i := 103) rfl rfl)⟩
set_option maxRecDepth 100000 in
theorem lf_X10_53 : pq_Lf RX10 53 13 5 (.array (.object "PatternPairs$Automaton")) := ⟨RX10, TX10, 9, tyX10, rfl, by decide, rfl, in_X10, pq_gt2 (i := 103) rfl rfl, tyX10_ok, nmX10, rfl, rfl, rfl⟩
set_option maxRecDepth 100000 in
theorem lk_X10_60 : pq_Lk RX10 60 13 6 := ⟨RX10, TX10, 9, rfl, by decide, rfl, in_X10, Or.inl (pq_gt2 (i := 104) rfl rfl)⟩
set_option maxRecDepth 100000 in
theorem lf_X10_60 : pq_Lf RX10 60 13 6 (.object "PatternPairs$Counter") := ⟨RX10, TX10, 9, tyX10, rfl, by decide, rfl, in_X10, pq_gt2 (i := 104) rfl rfl, tyX10_ok, nmX10, rfl, rfl, rfl⟩
set_option maxRecDepth 100000 in
theorem lk_X10_67 : pq_Lk RX10 67 13 7 := ⟨RX10, TX10, 9, rfl, by decide, rfl, in_X10, Or.inl (pq_gt2 (i := 105) rfl rfl)⟩
set_option maxRecDepth 100000 in
theorem lf_X10_67 : pq_Lf RX10 67 13 7 (.object "PatternPairs$Search") := ⟨RX10, TX10, 9, tyX10, rfl, by decide, rfl, in_X10, pq_gt2 (i := 105) rfl rfl, tyX10_ok, nmX10, rfl, rfl, rfl⟩
set_option maxRecDepth 100000 in
theorem lk_X10_71 : pq_Lk RX10 71 13 8 := ⟨RX10, TX10, 9, rfl, by decide, rfl, in_X10, Or.inl (pq_gt2 (i := 106) rfl rfl)⟩
set_option maxRecDepth 100000 in
theorem lp_X10_71 : pq_Lp RX10 71 13 8 (.int) := ⟨RX10, TX10, 9, tyX10, rfl, by decide, rfl, in_X10, Or.inl (pq_gt2 (i := 106) rfl rfl), tyX10_ok, nmX10, rfl, rfl⟩
set_option maxRecDepth 100000 in
theorem ow_X10_1 : pq_Ow RX10 1 := ⟨pq_gt1 (i := 38) rfl rfl, pq_gt1 (i := 39) rfl rfl, pq_gt1 (i := 40) rfl rfl⟩
set_option maxRecDepth 100000 in
theorem ml_X10_9 : pq_MI RX10 9 0 yX9_init cX9_init 1 := ⟨ca_I_X9_init.1, ca_I_X9_init.2.1, ca_I_X9_init.2.2.1, ca_I_X9_init.2.2.2.1, ca_I_X9_init.2.2.2.2, Or.inr ⟨"PatternPairs", pq_nt1 (i := 43) rfl rfl⟩⟩
set_option maxRecDepth 100000 in
theorem ml_X10_18 : pq_MI RX10 18 0 yX5_init cX5_init 1 := ⟨ca_I_X5_init.1, ca_I_X5_init.2.1, ca_I_X5_init.2.2.1, ca_I_X5_init.2.2.2.1, ca_I_X5_init.2.2.2.2, Or.inr ⟨"PatternPairs", pq_nt1 (i := 60) rfl rfl⟩⟩
set_option maxRecDepth 100000 in
theorem ml_X10_25 : pq_MI RX10 25 2 yX6_init cX6_init 3 := ⟨ca_I_X6_init.1, ca_I_X6_init.2.1, ca_I_X6_init.2.2.1, ca_I_X6_init.2.2.2.1, ca_I_X6_init.2.2.2.2, Or.inr ⟨"PatternPairs", pq_nt1 (i := 108) rfl rfl⟩⟩
set_option maxRecDepth 100000 in
theorem ml_X10_34 : pq_MI RX10 34 1 yX8_init cX8_init 2 := ⟨ca_I_X8_init.1, ca_I_X8_init.2.1, ca_I_X8_init.2.2.1, ca_I_X8_init.2.2.2.1, ca_I_X8_init.2.2.2.2, Or.inr ⟨"PatternPairs", pq_nt1 (i := 148) rfl rfl⟩⟩
set_option maxRecDepth 100000 in
theorem ml_X10_43 : pq_MI RX10 43 1 yX4_init cX4_init 2 := ⟨ca_I_X4_init.1, ca_I_X4_init.2.1, ca_I_X4_init.2.2.1, ca_I_X4_init.2.2.2.1, ca_I_X4_init.2.2.2.2, Or.inr ⟨"PatternPairs", pq_nt1 (i := 213) rfl rfl⟩⟩
set_option maxRecDepth 100000 in
theorem ml_X10_52 : pq_MI RX10 52 0 yX0_init cX0_init 1 := ⟨ca_I_X0_init.1, ca_I_X0_init.2.1, ca_I_X0_init.2.2.1, ca_I_X0_init.2.2.2.1, ca_I_X0_init.2.2.2.2, Or.inr ⟨"PatternPairs", pq_nt2 (i := 5) rfl rfl⟩⟩
set_option maxRecDepth 100000 in
theorem ml_X10_59 : pq_MI RX10 59 0 yX1_init cX1_init 1 := ⟨ca_I_X1_init.1, ca_I_X1_init.2.1, ca_I_X1_init.2.2.1, ca_I_X1_init.2.2.2.1, ca_I_X1_init.2.2.2.2, Or.inr ⟨"PatternPairs", pq_nt2 (i := 54) rfl rfl⟩⟩
set_option maxRecDepth 100000 in
theorem ml_X10_66 : pq_MI RX10 66 0 yX7_init cX7_init 1 := ⟨ca_I_X7_init.1, ca_I_X7_init.2.1, ca_I_X7_init.2.2.1, ca_I_X7_init.2.2.2.1, ca_I_X7_init.2.2.2.2, Or.inr ⟨"PatternPairs", pq_nt2 (i := 67) rfl rfl⟩⟩
set_option maxRecDepth 100000 in
theorem ml_X10_85 : pq_MV RX10 85 1 yX9_put cX9_put 3 (none) := ⟨ca_V_X9_put.1, ca_V_X9_put.2.1, ca_V_X9_put.2.2.1, ca_V_X9_put.2.2.2.1, ca_V_X9_put.2.2.2.2, Or.inr ⟨"PatternPairs", pq_nt2 (i := 207) rfl rfl⟩⟩
set_option maxRecDepth 100000 in
theorem ml_X10_94 : pq_MS RX10 94 1 yX10_isPattern cX10_isPattern 1 ((some .boolean)) := ⟨ca_S_X10_isPattern.1, ca_S_X10_isPattern.2.1, ca_S_X10_isPattern.2.2.1, ca_S_X10_isPattern.2.2.2, Or.inl (pq_gt3 (i := 3) rfl rfl)⟩
set_option maxRecDepth 100000 in
theorem ml_X10_98 : pq_MV RX10 98 0 yX6_readTape cX6_readTape 2 ((some .int)) := ⟨ca_V_X6_readTape.1, ca_V_X6_readTape.2.1, ca_V_X6_readTape.2.2.1, ca_V_X6_readTape.2.2.2.1, ca_V_X6_readTape.2.2.2.2, Or.inr ⟨"PatternPairs", pq_nt3 (i := 6) rfl rfl⟩⟩
set_option maxRecDepth 100000 in
theorem ml_X10_109 : pq_MV RX10 109 0 yX8_visitAll cX8_visitAll 2 ((some .boolean)) := ⟨ca_V_X8_visitAll.1, ca_V_X8_visitAll.2.1, ca_V_X8_visitAll.2.2.1, ca_V_X8_visitAll.2.2.2.1, ca_V_X8_visitAll.2.2.2.2, Or.inr ⟨"PatternPairs", pq_nt4 (i := 237) rfl rfl⟩⟩
set_option maxRecDepth 100000 in
theorem mx_X10_164 : pq_Mx RX10 164 := ⟨pq_gt5 (i := 15) rfl rfl, pq_gt3 (i := 138) rfl rfl, pq_gt1 (i := 14) rfl rfl, pq_gt3 (i := 139) rfl rfl⟩
set_option maxRecDepth 100000 in
theorem ml_X10_113 : pq_MV RX10 113 0 yX4_mergeAll cX4_mergeAll 4 ((some .boolean)) := ⟨ca_V_X4_mergeAll.1, ca_V_X4_mergeAll.2.1, ca_V_X4_mergeAll.2.2.1, ca_V_X4_mergeAll.2.2.2.1, ca_V_X4_mergeAll.2.2.2.2, Or.inr ⟨"PatternPairs", pq_nt5 (i := 52) rfl rfl⟩⟩
set_option maxRecDepth 100000 in
theorem ml_X10_128 : pq_MV RX10 128 2 yX4_fill cX4_fill 7 (none) := ⟨ca_V_X4_fill.1, ca_V_X4_fill.2.1, ca_V_X4_fill.2.2.1, ca_V_X4_fill.2.2.2.1, ca_V_X4_fill.2.2.2.2, Or.inr ⟨"PatternPairs", pq_nt5 (i := 90) rfl rfl⟩⟩
set_option maxRecDepth 100000 in
theorem ml_X10_132 : pq_MV RX10 132 0 yX0_liveStates cX0_liveStates 1 ((some .int)) := ⟨ca_V_X0_liveStates.1, ca_V_X0_liveStates.2.1, ca_V_X0_liveStates.2.2.1, ca_V_X0_liveStates.2.2.2.1, ca_V_X0_liveStates.2.2.2.2, Or.inr ⟨"PatternPairs", pq_nt5 (i := 100) rfl rfl⟩⟩
set_option maxRecDepth 100000 in
theorem ml_X10_138 : pq_MV RX10 138 1 yX0_hasText cX0_hasText 5 ((some .boolean)) := ⟨ca_V_X0_hasText.1, ca_V_X0_hasText.2.1, ca_V_X0_hasText.2.2.1, ca_V_X0_hasText.2.2.2.1, ca_V_X0_hasText.2.2.2.2, Or.inr ⟨"PatternPairs", pq_nt5 (i := 118) rfl rfl⟩⟩
set_option maxRecDepth 100000 in
theorem ml_X10_144 : pq_MV RX10 144 3 yX7_find cX7_find 6 ((some .int)) := ⟨ca_V_X7_find.1, ca_V_X7_find.2.1, ca_V_X7_find.2.2.1, ca_V_X7_find.2.2.2.1, ca_V_X7_find.2.2.2.2, Or.inr ⟨"PatternPairs", pq_nt5 (i := 135) rfl rfl⟩⟩
set_option maxRecDepth 100000 in
theorem ml_X10_160 : pq_MV RX10 160 2 yX1_textsOf cX1_textsOf 6 ((some .long)) := ⟨ca_V_X1_textsOf.1, ca_V_X1_textsOf.2.1, ca_V_X1_textsOf.2.2.1, ca_V_X1_textsOf.2.2.2.1, ca_V_X1_textsOf.2.2.2.2, Or.inr ⟨"PatternPairs", pq_nt5 (i := 196) rfl rfl⟩⟩
set_option maxRecDepth 100000 in
theorem cl_X10_7 : Cond.classLink RX10 7 "PatternPairs$Tape" ∈ gtb := pq_gt1 (i := 41) rfl rfl
set_option maxRecDepth 100000 in
theorem nw_X10_7 : pq_Nw RX10 7 12 2 (fun k => defaultValue (tyX9 k)) := ⟨RX9, TX9, tyX9, rfl, rfl, in_X9, tyX9_ok, fun _ _ => rfl, pq_gt1 (i := 41) rfl rfl, pq_gt1 (i := 42) rfl rfl, pq_gt1 (i := 2) rfl rfl⟩
set_option maxRecDepth 100000 in
theorem cl_X10_16 : Cond.classLink RX10 16 "PatternPairs$Places" ∈ gtb := pq_gt1 (i := 58) rfl rfl
set_option maxRecDepth 100000 in
theorem nw_X10_16 : pq_Nw RX10 16 8 4 (fun k => defaultValue (tyX5 k)) := ⟨RX5, TX5, tyX5, rfl, rfl, in_X5, tyX5_ok, fun _ _ => rfl, pq_gt1 (i := 58) rfl rfl, pq_gt1 (i := 59) rfl rfl, pq_gt1 (i := 3) rfl rfl⟩
set_option maxRecDepth 100000 in
theorem cl_X10_23 : Cond.classLink RX10 23 "PatternPairs$Reader" ∈ gtb := pq_gt1 (i := 106) rfl rfl
set_option maxRecDepth 100000 in
theorem nw_X10_23 : pq_Nw RX10 23 9 10 (fun k => defaultValue (tyX6 k)) := ⟨RX6, TX6, tyX6, rfl, rfl, in_X6, tyX6_ok, fun _ _ => rfl, pq_gt1 (i := 106) rfl rfl, pq_gt1 (i := 107) rfl rfl, pq_gt1 (i := 5) rfl rfl⟩
set_option maxRecDepth 100000 in
theorem cl_X10_32 : Cond.classLink RX10 32 "PatternPairs$SetWalk" ∈ gtb := pq_gt1 (i := 146) rfl rfl
set_option maxRecDepth 100000 in
theorem nw_X10_32 : pq_Nw RX10 32 11 10 (fun k => defaultValue (tyX8 k)) := ⟨RX8, TX8, tyX8, rfl, rfl, in_X8, tyX8_ok, fun _ _ => rfl, pq_gt1 (i := 146) rfl rfl, pq_gt1 (i := 147) rfl rfl, pq_gt1 (i := 6) rfl rfl⟩
set_option maxRecDepth 100000 in
theorem cl_X10_41 : Cond.classLink RX10 41 "PatternPairs$Merger" ∈ gtb := pq_gt1 (i := 211) rfl rfl
set_option maxRecDepth 100000 in
theorem nw_X10_41 : pq_Nw RX10 41 7 8 (fun k => defaultValue (tyX4 k)) := ⟨RX4, TX4, tyX4, rfl, rfl, in_X4, tyX4_ok, fun _ _ => rfl, pq_gt1 (i := 211) rfl rfl, pq_gt1 (i := 212) rfl rfl, pq_gt1 (i := 8) rfl rfl⟩
set_option maxRecDepth 100000 in
theorem cl_X10_50 : Cond.classLink RX10 50 "PatternPairs$Automaton" ∈ gtb := pq_gt2 (i := 2) rfl rfl
set_option maxRecDepth 100000 in
theorem nw_X10_50 : pq_Nw RX10 50 3 8 (fun k => defaultValue (tyX0 k)) := ⟨RX0, TX0, tyX0, rfl, rfl, in_X0, tyX0_ok, fun _ _ => rfl, pq_gt2 (i := 2) rfl rfl, pq_gt2 (i := 4) rfl rfl, pq_gt1 (i := 9) rfl rfl⟩
set_option maxRecDepth 100000 in
theorem cl_X10_57 : Cond.classLink RX10 57 "PatternPairs$Counter" ∈ gtb := pq_gt2 (i := 52) rfl rfl
set_option maxRecDepth 100000 in
theorem nw_X10_57 : pq_Nw RX10 57 4 2 (fun k => defaultValue (tyX1 k)) := ⟨RX1, TX1, tyX1, rfl, rfl, in_X1, tyX1_ok, fun _ _ => rfl, pq_gt2 (i := 52) rfl rfl, pq_gt2 (i := 53) rfl rfl, pq_gt1 (i := 10) rfl rfl⟩
set_option maxRecDepth 100000 in
theorem cl_X10_64 : Cond.classLink RX10 64 "PatternPairs$Search" ∈ gtb := pq_gt2 (i := 65) rfl rfl
set_option maxRecDepth 100000 in
theorem nw_X10_64 : pq_Nw RX10 64 10 8 (fun k => defaultValue (tyX7 k)) := ⟨RX7, TX7, tyX7, rfl, rfl, in_X7, tyX7_ok, fun _ _ => rfl, pq_gt2 (i := 65) rfl rfl, pq_gt2 (i := 66) rfl rfl, pq_gt1 (i := 11) rfl rfl⟩
set_option maxRecDepth 100000 in
theorem cl_X10_78 : Cond.classLink RX10 78 "java/lang/IndexOutOfBoundsException" ∈ gtb := pq_gt2 (i := 138) rfl rfl
set_option maxRecDepth 100000 in
theorem cl_X10_89 : Cond.classLink RX10 89 "java/lang/IllegalArgumentException" ∈ gtb := pq_gt2 (i := 219) rfl rfl
set_option maxRecDepth 100000 in
theorem cl_X10_104 : Cond.classLink RX10 104 "java/lang/UnsupportedOperationException" ∈ gtb := pq_gt4 (i := 221) rfl rfl
set_option maxRecDepth 100000 in
theorem cl_X10_149 : Cond.classLink RX10 149 "java/util/NoSuchElementException" ∈ gtb := pq_gt5 (i := 172) rfl rfl
