set_option maxRecDepth 100000 in
theorem lk_X8_92 : pq_Lk RX8 92 5 0 := ⟨RX2, TX2, 3, rfl, by decide, rfl, in_X2, Or.inr ⟨"PatternPairs", pq_nt1 (i := 71) rfl rfl⟩⟩
set_option maxRecDepth 100000 in
theorem lk_X8_138 : pq_Lk RX8 138 5 1 := ⟨RX2, TX2, 3, rfl, by decide, rfl, in_X2, Or.inr ⟨"PatternPairs", pq_nt1 (i := 74) rfl rfl⟩⟩
set_option maxRecDepth 100000 in
theorem lk_X8_57 : pq_Lk RX8 57 8 0 := ⟨RX5, TX5, 4, rfl, by decide, rfl, in_X5, Or.inr ⟨"PatternPairs", pq_nt1 (i := 88) rfl rfl⟩⟩
set_option maxRecDepth 100000 in
theorem lk_X8_109 : pq_Lk RX8 109 8 1 := ⟨RX5, TX5, 4, rfl, by decide, rfl, in_X5, Or.inr ⟨"PatternPairs", pq_nt1 (i := 90) rfl rfl⟩⟩
set_option maxRecDepth 100000 in
theorem lk_X8_88 : pq_Lk RX8 88 8 2 := ⟨RX5, TX5, 4, rfl, by decide, rfl, in_X5, Or.inr ⟨"PatternPairs", pq_nt1 (i := 93) rfl rfl⟩⟩
set_option maxRecDepth 100000 in
theorem lk_X8_101 : pq_Lk RX8 101 8 3 := ⟨RX5, TX5, 4, rfl, by decide, rfl, in_X5, Or.inr ⟨"PatternPairs", pq_nt1 (i := 96) rfl rfl⟩⟩
set_option maxRecDepth 100000 in
theorem lp_X8_101 : pq_Lp RX8 101 8 3 (.int) := ⟨RX5, TX5, 4, tyX5, rfl, by decide, rfl, in_X5, Or.inr ⟨"PatternPairs", pq_nt1 (i := 96) rfl rfl⟩, tyX5_ok, nmX5, rfl, rfl⟩
set_option maxRecDepth 100000 in
theorem lk_X8_112 : pq_Lk RX8 112 6 1 := ⟨RX3, TX3, 4, rfl, by decide, rfl, in_X3, Or.inr ⟨"PatternPairs", pq_nt1 (i := 161) rfl rfl⟩⟩
set_option maxRecDepth 100000 in
theorem lk_X8_66 : pq_Lk RX8 66 6 3 := ⟨RX3, TX3, 4, rfl, by decide, rfl, in_X3, Or.inr ⟨"PatternPairs", pq_nt1 (i := 167) rfl rfl⟩⟩
set_option maxRecDepth 100000 in
theorem lp_X8_66 : pq_Lp RX8 66 6 3 (.int) := ⟨RX3, TX3, 4, tyX3, rfl, by decide, rfl, in_X3, Or.inr ⟨"PatternPairs", pq_nt1 (i := 167) rfl rfl⟩, tyX3_ok, nmX3, rfl, rfl⟩
set_option maxRecDepth 100000 in
theorem lk_X8_35 : pq_Lk RX8 35 11 0 := ⟨RX8, TX8, 10, rfl, by decide, rfl, in_X8, Or.inl (pq_gt1 (i := 178) rfl rfl)⟩
set_option maxRecDepth 100000 in
theorem lf_X8_35 : pq_Lf RX8 35 11 0 (.object "PatternPairs$Places") := ⟨RX8, TX8, 10, tyX8, rfl, by decide, rfl, in_X8, pq_gt1 (i := 178) rfl rfl, tyX8_ok, nmX8, rfl, rfl, rfl⟩
set_option maxRecDepth 100000 in
theorem lk_X8_12 : pq_Lk RX8 12 11 1 := ⟨RX8, TX8, 10, rfl, by decide, rfl, in_X8, Or.inl (pq_gt1 (i := 179) rfl rfl)⟩
set_option maxRecDepth 100000 in
theorem lf_X8_12 : pq_Lf RX8 12 11 1 (.object "PatternPairs$Kinds") := ⟨RX8, TX8, 10, tyX8, rfl, by decide, rfl, in_X8, pq_gt1 (i := 179) rfl rfl, tyX8_ok, nmX8, rfl, rfl, rfl⟩
set_option maxRecDepth 100000 in
theorem lk_X8_18 : pq_Lk RX8 18 11 2 := ⟨RX8, TX8, 10, rfl, by decide, rfl, in_X8, Or.inl (pq_gt1 (i := 181) rfl rfl)⟩
set_option maxRecDepth 100000 in
theorem lf_X8_18 : pq_Lf RX8 18 11 2 (.array .long) := ⟨RX8, TX8, 10, tyX8, rfl, by decide, rfl, in_X8, pq_gt1 (i := 181) rfl rfl, tyX8_ok, nmX8, rfl, rfl, rfl⟩
set_option maxRecDepth 100000 in
theorem lk_X8_22 : pq_Lk RX8 22 11 3 := ⟨RX8, TX8, 10, rfl, by decide, rfl, in_X8, Or.inl (pq_gt1 (i := 182) rfl rfl)⟩
set_option maxRecDepth 100000 in
theorem lf_X8_22 : pq_Lf RX8 22 11 3 (.array .int) := ⟨RX8, TX8, 10, tyX8, rfl, by decide, rfl, in_X8, pq_gt1 (i := 182) rfl rfl, tyX8_ok, nmX8, rfl, rfl, rfl⟩
set_option maxRecDepth 100000 in
theorem lk_X8_26 : pq_Lk RX8 26 11 4 := ⟨RX8, TX8, 10, rfl, by decide, rfl, in_X8, Or.inl (pq_gt1 (i := 183) rfl rfl)⟩
set_option maxRecDepth 100000 in
theorem lf_X8_26 : pq_Lf RX8 26 11 4 (.array .long) := ⟨RX8, TX8, 10, tyX8, rfl, by decide, rfl, in_X8, pq_gt1 (i := 183) rfl rfl, tyX8_ok, nmX8, rfl, rfl, rfl⟩
set_option maxRecDepth 100000 in
theorem lk_X8_29 : pq_Lk RX8 29 11 5 := ⟨RX8, TX8, 10, rfl, by decide, rfl, in_X8, Or.inl (pq_gt1 (i := 184) rfl rfl)⟩
set_option maxRecDepth 100000 in
theorem lf_X8_29 : pq_Lf RX8 29 11 5 (.array .long) := ⟨RX8, TX8, 10, tyX8, rfl, by decide, rfl, in_X8, pq_gt1 (i := 184) rfl rfl, tyX8_ok, nmX8, rfl, rfl, rfl⟩
set_option maxRecDepth 100000 in
theorem lk_X8_32 : pq_Lk RX8 32 11 6 := ⟨RX8, TX8, 10, rfl, by decide, rfl, in_X8, Or.inl (pq_gt1 (i := 185) rfl rfl)⟩
set_option maxRecDepth 100000 in
theorem lp_X8_32 : pq_Lp RX8 32 11 6 (.array .int) := ⟨RX8, TX8, 10, tyX8, rfl, by decide, rfl, in_X8, Or.inl (pq_gt1 (i := 185) rfl rfl), tyX8_ok, nmX8, rfl, rfl⟩
set_option maxRecDepth 100000 in
theorem lk_X8_42 : pq_Lk RX8 42 11 7 := ⟨RX8, TX8, 10, rfl, by decide, rfl, in_X8, Or.inl (pq_gt1 (i := 186) rfl rfl)⟩
set_option maxRecDepth 100000 in
theorem lp_X8_42 : pq_Lp RX8 42 11 7 (.int) := ⟨RX8, TX8, 10, tyX8, rfl, by decide, rfl, in_X8, Or.inl (pq_gt1 (i := 186) rfl rfl), tyX8_ok, nmX8, rfl, rfl⟩
set_option maxRecDepth 100000 in
theorem lk_X8_82 : pq_Lk RX8 82 11 8 := ⟨RX8, TX8, 10, rfl, by decide, rfl, in_X8, Or.inl (pq_gt1 (i := 188) rfl rfl)⟩
set_option maxRecDepth 100000 in
theorem lp_X8_82 : pq_Lp RX8 82 11 8 (.boolean) := ⟨RX8, TX8, 10, tyX8, rfl, by decide, rfl, in_X8, Or.inl (pq_gt1 (i := 188) rfl rfl), tyX8_ok, nmX8, rfl, rfl⟩
set_option maxRecDepth 100000 in
theorem lk_X8_46 : pq_Lk RX8 46 11 9 := ⟨RX8, TX8, 10, rfl, by decide, rfl, in_X8, Or.inl (pq_gt1 (i := 189) rfl rfl)⟩
set_option maxRecDepth 100000 in
theorem lp_X8_46 : pq_Lp RX8 46 11 9 (.boolean) := ⟨RX8, TX8, 10, tyX8, rfl, by decide, rfl, in_X8, Or.inl (pq_gt1 (i := 189) rfl rfl), tyX8_ok, nmX8, rfl, rfl⟩
set_option maxRecDepth 100000 in
theorem lc_X8_130 : Cond.constantLong RX8 130 (-7046029254386353131) ∈ gtb := pq_gt5 (i := 45) rfl rfl
set_option maxRecDepth 100000 in
theorem ow_X8_3 : pq_Ow RX8 3 := ⟨pq_gt1 (i := 151) rfl rfl, pq_gt1 (i := 39) rfl rfl, pq_gt1 (i := 40) rfl rfl⟩
set_option maxRecDepth 100000 in
theorem ml_X8_11 : pq_MI RX8 11 0 yX3_init cX3_init 1 := ⟨ca_I_X3_init.1, ca_I_X3_init.2.1, ca_I_X3_init.2.2.1, ca_I_X3_init.2.2.2.1, ca_I_X3_init.2.2.2.2, Or.inr ⟨"PatternPairs", pq_nt1 (i := 154) rfl rfl⟩⟩
set_option maxRecDepth 100000 in
theorem ml_X8_39 : pq_MV RX8 39 0 yX8_begin cX8_begin 1 (none) := ⟨ca_V_X8_begin.1, ca_V_X8_begin.2.1, ca_V_X8_begin.2.2.1, ca_V_X8_begin.2.2.2.1, ca_V_X8_begin.2.2.2.2, Or.inl (pq_gt5 (i := 1) rfl rfl)⟩
set_option maxRecDepth 100000 in
theorem ml_X8_62 : pq_MV RX8 62 1 yX3_sort cX3_sort 4 (none) := ⟨ca_V_X3_sort.1, ca_V_X3_sort.2.1, ca_V_X3_sort.2.2.1, ca_V_X3_sort.2.2.2.1, ca_V_X3_sort.2.2.2.2, Or.inr ⟨"PatternPairs", pq_nt5 (i := 5) rfl rfl⟩⟩
set_option maxRecDepth 100000 in
theorem ml_X8_69 : pq_MS RX8 69 2 yX10_rowFor cX10_rowFor 2 ((some (.array .int))) := ⟨ca_S_X10_rowFor.1, ca_S_X10_rowFor.2.1, ca_S_X10_rowFor.2.2.1, ca_S_X10_rowFor.2.2.2, Or.inr ⟨"PatternPairs", pq_nt5 (i := 12) rfl rfl⟩⟩
set_option maxRecDepth 100000 in
theorem ml_X8_73 : pq_MS RX8 73 4 yJ7_fill_fda19 cJ7_fill_fda19 5 (none) := ⟨ca_S_J7_fill_fda19.1, ca_S_J7_fill_fda19.2.1, ca_S_J7_fill_fda19.2.2.1, ca_S_J7_fill_fda19.2.2.2, Or.inl (pq_gt5 (i := 16) rfl rfl)⟩
set_option maxRecDepth 100000 in
theorem ml_X8_79 : pq_MS RX8 79 2 yJ7_fill_53178 cJ7_fill_53178 4 (none) := ⟨ca_S_J7_fill_53178.1, ca_S_J7_fill_53178.2.1, ca_S_J7_fill_53178.2.2.1, ca_S_J7_fill_53178.2.2.2, Or.inl (pq_gt5 (i := 19) rfl rfl)⟩
set_option maxRecDepth 100000 in
theorem ml_X8_50 : pq_MV RX8 50 1 yX8_findReach cX8_findReach 3 (none) := ⟨ca_V_X8_findReach.1, ca_V_X8_findReach.2.1, ca_V_X8_findReach.2.2.1, ca_V_X8_findReach.2.2.2.1, ca_V_X8_findReach.2.2.2.2, Or.inl (pq_gt5 (i := 22) rfl rfl)⟩
set_option maxRecDepth 100000 in
theorem ml_X8_85 : pq_MS RX8 85 2 yJ7_fill_d0a16 cJ7_fill_d0a16 5 (none) := ⟨ca_S_J7_fill_d0a16.1, ca_S_J7_fill_d0a16.2.1, ca_S_J7_fill_d0a16.2.2.1, ca_S_J7_fill_d0a16.2.2.2, Or.inl (pq_gt5 (i := 26) rfl rfl)⟩
set_option maxRecDepth 100000 in
theorem ml_X8_97 : pq_MS RX8 97 3 yX10_addAll cX10_addAll 4 (none) := ⟨ca_S_X10_addAll.1, ca_S_X10_addAll.2.1, ca_S_X10_addAll.2.2.1, ca_S_X10_addAll.2.2.2, Or.inr ⟨"PatternPairs", pq_nt5 (i := 27) rfl rfl⟩⟩
set_option maxRecDepth 100000 in
theorem ml_X8_102 : pq_MS RX8 102 3 yX10_hasBit cX10_hasBit 3 ((some .boolean)) := ⟨ca_S_X10_hasBit.1, ca_S_X10_hasBit.2.1, ca_S_X10_hasBit.2.2.1, ca_S_X10_hasBit.2.2.2, Or.inr ⟨"PatternPairs", pq_nt5 (i := 28) rfl rfl⟩⟩
set_option maxRecDepth 100000 in
theorem ml_X8_106 : pq_MV RX8 106 1 yX8_addFollowers cX8_addFollowers 3 (none) := ⟨ca_V_X8_addFollowers.1, ca_V_X8_addFollowers.2.1, ca_V_X8_addFollowers.2.2.1, ca_V_X8_addFollowers.2.2.2.1, ca_V_X8_addFollowers.2.2.2.2, Or.inl (pq_gt5 (i := 29) rfl rfl)⟩
set_option maxRecDepth 100000 in
theorem ml_X8_54 : pq_MV RX8 54 1 yX8_visitFrom cX8_visitFrom 6 (none) := ⟨ca_V_X8_visitFrom.1, ca_V_X8_visitFrom.2.1, ca_V_X8_visitFrom.2.2.1, ca_V_X8_visitFrom.2.2.2.1, ca_V_X8_visitFrom.2.2.2.2, Or.inl (pq_gt5 (i := 33) rfl rfl)⟩
set_option maxRecDepth 100000 in
theorem ml_X8_115 : pq_MV RX8 115 0 yX8_stateOfGoal cX8_stateOfGoal 4 ((some .int)) := ⟨ca_V_X8_stateOfGoal.1, ca_V_X8_stateOfGoal.2.1, ca_V_X8_stateOfGoal.2.2.1, ca_V_X8_stateOfGoal.2.2.2.1, ca_V_X8_stateOfGoal.2.2.2.2, Or.inl (pq_gt5 (i := 37) rfl rfl)⟩
set_option maxRecDepth 100000 in
theorem ml_X8_119 : pq_MV RX8 119 0 yX8_slotOfGoal cX8_slotOfGoal 4 ((some .int)) := ⟨ca_V_X8_slotOfGoal.1, ca_V_X8_slotOfGoal.2.1, ca_V_X8_slotOfGoal.2.2.1, ca_V_X8_slotOfGoal.2.2.2.1, ca_V_X8_slotOfGoal.2.2.2.2, Or.inl (pq_gt5 (i := 41) rfl rfl)⟩
set_option maxRecDepth 100000 in
theorem ml_X8_122 : pq_MV RX8 122 1 yX8_newState cX8_newState 3 ((some .int)) := ⟨ca_V_X8_newState.1, ca_V_X8_newState.2.1, ca_V_X8_newState.2.2.1, ca_V_X8_newState.2.2.2.1, ca_V_X8_newState.2.2.2.2, Or.inl (pq_gt5 (i := 46) rfl rfl)⟩
set_option maxRecDepth 100000 in
theorem cw_X8_132 : pq_Cw RX8 132 := ⟨pq_gt5 (i := 50) rfl rfl, pq_gt3 (i := 64) rfl rfl, pq_gt3 (i := 63) rfl rfl, pq_gt1 (i := 15) rfl rfl⟩
set_option maxRecDepth 100000 in
theorem ml_X8_126 : pq_MS RX8 126 4 yX10_sameRow cX10_sameRow 5 ((some .boolean)) := ⟨ca_S_X10_sameRow.1, ca_S_X10_sameRow.2.1, ca_S_X10_sameRow.2.2.1, ca_S_X10_sameRow.2.2.2, Or.inr ⟨"PatternPairs", pq_nt5 (i := 51) rfl rfl⟩⟩
set_option maxRecDepth 100000 in
theorem cl_X8_9 : Cond.classLink RX8 9 "PatternPairs$Kinds" ∈ gtb := pq_gt1 (i := 152) rfl rfl
set_option maxRecDepth 100000 in
theorem nw_X8_9 : pq_Nw RX8 9 6 4 (fun k => defaultValue (tyX3 k)) := ⟨RX3, TX3, tyX3, rfl, rfl, in_X3, tyX3_ok, fun _ _ => rfl, pq_gt1 (i := 152) rfl rfl, pq_gt1 (i := 153) rfl rfl, pq_gt1 (i := 7) rfl rfl⟩
