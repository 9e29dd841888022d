set_option maxRecDepth 100000 in
theorem ml_J1_88 : pq_MS RJ1 88 1 yJ1_canEncode_9a6ad cJ1_canEncode_9a6ad 1 ((some .boolean)) := ⟨ca_S_J1_canEncode_9a6ad.1, ca_S_J1_canEncode_9a6ad.2.1, ca_S_J1_canEncode_9a6ad.2.2.1, ca_S_J1_canEncode_9a6ad.2.2.2, Or.inl (pq_gt3 (i := 134) rfl rfl)⟩
set_option maxRecDepth 100000 in
theorem mx_J1_92 : pq_Mx RJ1 92 := ⟨pq_gt3 (i := 137) rfl rfl, pq_gt3 (i := 138) rfl rfl, pq_gt1 (i := 14) rfl rfl, pq_gt3 (i := 139) rfl rfl⟩
set_option maxRecDepth 100000 in
theorem mn_J1_38 : pq_Mn RJ1 38 := ⟨pq_gt3 (i := 140) rfl rfl, pq_gt3 (i := 141) rfl rfl, pq_gt1 (i := 14) rfl rfl, pq_gt3 (i := 142) rfl rfl⟩
set_option maxRecDepth 100000 in
theorem ml_J1_95 : pq_MS RJ1 95 4 yJ1_indexOfChar_4cfef cJ1_indexOfChar_4cfef 6 ((some .int)) := ⟨ca_S_J1_indexOfChar_4cfef.1, ca_S_J1_indexOfChar_4cfef.2.1, ca_S_J1_indexOfChar_4cfef.2.2.1, ca_S_J1_indexOfChar_4cfef.2.2.2, Or.inl (pq_gt3 (i := 143) rfl rfl)⟩
set_option maxRecDepth 100000 in
theorem ml_J1_240 : pq_MS RJ1 240 5 yJ2_inflate_0e8fd cJ2_inflate_0e8fd 6 (none) := ⟨ca_S_J2_inflate_0e8fd.1, ca_S_J2_inflate_0e8fd.2.1, ca_S_J2_inflate_0e8fd.2.2.1, ca_S_J2_inflate_0e8fd.2.2.2, Or.inl (pq_gt4 (i := 85) rfl rfl)⟩
