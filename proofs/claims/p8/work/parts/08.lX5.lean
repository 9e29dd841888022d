set_option maxRecDepth 100000 in
theorem lk_X5_9 : pq_Lk RX5 9 8 0 := ⟨RX5, TX5, 4, rfl, by decide, rfl, in_X5, Or.inl (pq_gt1 (i := 87) rfl rfl)⟩
set_option maxRecDepth 100000 in
theorem lf_X5_9 : pq_Lf RX5 9 8 0 (.array .long) := ⟨RX5, TX5, 4, tyX5, rfl, by decide, rfl, in_X5, pq_gt1 (i := 87) rfl rfl, tyX5_ok, nmX5, rfl, rfl, rfl⟩
set_option maxRecDepth 100000 in
theorem lk_X5_15 : pq_Lk RX5 15 8 1 := ⟨RX5, TX5, 4, rfl, by decide, rfl, in_X5, Or.inl (pq_gt1 (i := 89) rfl rfl)⟩
set_option maxRecDepth 100000 in
theorem lf_X5_15 : pq_Lf RX5 15 8 1 (.array .long) := ⟨RX5, TX5, 4, tyX5, rfl, by decide, rfl, in_X5, pq_gt1 (i := 89) rfl rfl, tyX5_ok, nmX5, rfl, rfl, rfl⟩
set_option maxRecDepth 100000 in
theorem lk_X5_21 : pq_Lk RX5 21 8 2 := ⟨RX5, TX5, 4, rfl, by decide, rfl, in_X5, Or.inl (pq_gt1 (i := 91) rfl rfl)⟩
set_option maxRecDepth 100000 in
theorem lf_X5_21 : pq_Lf RX5 21 8 2 (.object "PatternPairs$Ends") := ⟨RX5, TX5, 4, tyX5, rfl, by decide, rfl, in_X5, pq_gt1 (i := 91) rfl rfl, tyX5_ok, nmX5, rfl, rfl, rfl⟩
set_option maxRecDepth 100000 in
theorem lk_X5_31 : pq_Lk RX5 31 8 3 := ⟨RX5, TX5, 4, rfl, by decide, rfl, in_X5, Or.inl (pq_gt1 (i := 95) rfl rfl)⟩
set_option maxRecDepth 100000 in
theorem lp_X5_31 : pq_Lp RX5 31 8 3 (.int) := ⟨RX5, TX5, 4, tyX5, rfl, by decide, rfl, in_X5, Or.inl (pq_gt1 (i := 95) rfl rfl), tyX5_ok, nmX5, rfl, rfl⟩
set_option maxRecDepth 100000 in
theorem ow_X5_3 : pq_Ow RX5 3 := ⟨pq_gt1 (i := 63) rfl rfl, pq_gt1 (i := 39) rfl rfl, pq_gt1 (i := 40) rfl rfl⟩
set_option maxRecDepth 100000 in
theorem ml_X5_20 : pq_MI RX5 20 0 yX2_init cX2_init 1 := ⟨ca_I_X2_init.1, ca_I_X2_init.2.1, ca_I_X2_init.2.2.1, ca_I_X2_init.2.2.2.1, ca_I_X2_init.2.2.2.2, Or.inr ⟨"PatternPairs", pq_nt1 (i := 66) rfl rfl⟩⟩
set_option maxRecDepth 100000 in
theorem ml_X5_25 : pq_MS RX5 25 2 yJ7_fill_d0a16 cJ7_fill_d0a16 5 (none) := ⟨ca_S_J7_fill_d0a16.1, ca_S_J7_fill_d0a16.2.1, ca_S_J7_fill_d0a16.2.2.1, ca_S_J7_fill_d0a16.2.2.2, Or.inl (pq_gt3 (i := 14) rfl rfl)⟩
set_option maxRecDepth 100000 in
theorem ml_X5_42 : pq_MS RX5 42 3 yX10_hasBit cX10_hasBit 3 ((some .boolean)) := ⟨ca_S_X10_hasBit.1, ca_S_X10_hasBit.2.1, ca_S_X10_hasBit.2.2.1, ca_S_X10_hasBit.2.2.2, Or.inr ⟨"PatternPairs", pq_nt3 (i := 76) rfl rfl⟩⟩
set_option maxRecDepth 100000 in
theorem ml_X5_46 : pq_MS RX5 46 3 yX10_addAll cX10_addAll 4 (none) := ⟨ca_S_X10_addAll.1, ca_S_X10_addAll.2.1, ca_S_X10_addAll.2.2.1, ca_S_X10_addAll.2.2.2, Or.inr ⟨"PatternPairs", pq_nt3 (i := 79) rfl rfl⟩⟩
set_option maxRecDepth 100000 in
theorem ml_X5_35 : pq_MS RX5 35 4 yJ7_fill_bad5a cJ7_fill_bad5a 6 (none) := ⟨ca_S_J7_fill_bad5a.1, ca_S_J7_fill_bad5a.2.1, ca_S_J7_fill_bad5a.2.2.1, ca_S_J7_fill_bad5a.2.2.2, Or.inl (pq_gt3 (i := 219) rfl rfl)⟩
set_option maxRecDepth 100000 in
theorem ml_X5_38 : pq_MS RX5 38 3 yX10_addBit cX10_addBit 3 (none) := ⟨ca_S_X10_addBit.1, ca_S_X10_addBit.2.1, ca_S_X10_addBit.2.2.1, ca_S_X10_addBit.2.2.2, Or.inr ⟨"PatternPairs", pq_nt4 (i := 212) rfl rfl⟩⟩
set_option maxRecDepth 100000 in
theorem cl_X5_18 : Cond.classLink RX5 18 "PatternPairs$Ends" ∈ gtb := pq_gt1 (i := 64) rfl rfl
set_option maxRecDepth 100000 in
theorem nw_X5_18 : pq_Nw RX5 18 5 3 (fun k => defaultValue (tyX2 k)) := ⟨RX2, TX2, tyX2, rfl, rfl, in_X2, tyX2_ok, fun _ _ => rfl, pq_gt1 (i := 64) rfl rfl, pq_gt1 (i := 65) rfl rfl, pq_gt1 (i := 4) rfl rfl⟩
