set_option maxRecDepth 100000 in
theorem fl_J0_38 : Cond.fieldLink RJ0 38 "java/lang/String" "COMPACT_STRINGS" "Z" ∈ gtb := pq_gt3 (i := 121) rfl rfl
set_option maxRecDepth 100000 in
theorem fl_J0_9 : Cond.fieldLink RJ0 9 "java/lang/String" "value" "[B" ∈ gtb := pq_gt4 (i := 178) rfl rfl
set_option maxRecDepth 100000 in
theorem fl_J0_15 : Cond.fieldLink RJ0 15 "java/lang/String" "coder" "B" ∈ gtb := pq_gt4 (i := 179) rfl rfl
set_option maxRecDepth 100000 in
theorem ml_J0_633 : pq_MV RJ0 633 2 yJ0_indexOf_7cf53 cJ0_indexOf_7cf53 3 ((some .int)) := ⟨ca_V_J0_indexOf_7cf53.1, ca_V_J0_indexOf_7cf53.2.1, ca_V_J0_indexOf_7cf53.2.2.1, ca_V_J0_indexOf_7cf53.2.2.2.1, ca_V_J0_indexOf_7cf53.2.2.2.2, Or.inl (pq_gt3 (i := 113) rfl rfl)⟩
set_option maxRecDepth 100000 in
theorem ml_J0_492 : pq_MV RJ0 492 0 yJ0_isLatin1_aae02 cJ0_isLatin1_aae02 1 ((some .boolean)) := ⟨ca_V_J0_isLatin1_aae02.1, ca_V_J0_isLatin1_aae02.2.1, ca_V_J0_isLatin1_aae02.2.2.1, ca_V_J0_isLatin1_aae02.2.2.2.1, ca_V_J0_isLatin1_aae02.2.2.2.2, Or.inl (pq_gt3 (i := 117) rfl rfl)⟩
set_option maxRecDepth 100000 in
theorem ml_J0_505 : pq_MV RJ0 505 0 yJ0_length_8abf5 cJ0_length_8abf5 1 ((some .int)) := ⟨ca_V_J0_length_8abf5.1, ca_V_J0_length_8abf5.2.1, ca_V_J0_length_8abf5.2.2.1, ca_V_J0_length_8abf5.2.2.2.1, ca_V_J0_length_8abf5.2.2.2.2, Or.inl (pq_gt3 (i := 123) rfl rfl)⟩
set_option maxRecDepth 100000 in
theorem ml_J0_335 : pq_MV RJ0 335 0 yJ0_coder_7d493 cJ0_coder_7d493 1 ((some .byte)) := ⟨ca_V_J0_coder_7d493.1, ca_V_J0_coder_7d493.2.1, ca_V_J0_coder_7d493.2.2.1, ca_V_J0_coder_7d493.2.2.2.1, ca_V_J0_coder_7d493.2.2.2.2, Or.inl (pq_gt3 (i := 127) rfl rfl)⟩
set_option maxRecDepth 100000 in
theorem ml_J0_637 : pq_MS RJ0 637 4 yJ1_indexOf_4cfef cJ1_indexOf_4cfef 4 ((some .int)) := ⟨ca_S_J1_indexOf_4cfef.1, ca_S_J1_indexOf_4cfef.2.1, ca_S_J1_indexOf_4cfef.2.2.1, ca_S_J1_indexOf_4cfef.2.2.2, Or.inl (pq_gt3 (i := 131) rfl rfl)⟩
set_option maxRecDepth 100000 in
theorem ml_J0_640 : pq_MS RJ0 640 4 yJ2_indexOf_4cfef cJ2_indexOf_4cfef 4 ((some .int)) := ⟨ca_S_J2_indexOf_4cfef.1, ca_S_J2_indexOf_4cfef.2.1, ca_S_J2_indexOf_4cfef.2.2.1, ca_S_J2_indexOf_4cfef.2.2.2, Or.inl (pq_gt3 (i := 146) rfl rfl)⟩
set_option maxRecDepth 100000 in
theorem ml_J0_1062 : pq_MS RJ0 1062 4 yJ3_checkFromToIndex_8c36e cJ3_checkFromToIndex_8c36e 4 ((some .int)) := ⟨ca_S_J3_checkFromToIndex_8c36e.1, ca_S_J3_checkFromToIndex_8c36e.2.1, ca_S_J3_checkFromToIndex_8c36e.2.2.1, ca_S_J3_checkFromToIndex_8c36e.2.2.2, Or.inl (pq_gt3 (i := 166) rfl rfl)⟩
set_option maxRecDepth 100000 in
theorem ml_J0_1065 : pq_MS RJ0 1065 4 yJ3_checkFromIndexSize_8c36e cJ3_checkFromIndexSize_8c36e 4 ((some .int)) := ⟨ca_S_J3_checkFromIndexSize_8c36e.1, ca_S_J3_checkFromIndexSize_8c36e.2.1, ca_S_J3_checkFromIndexSize_8c36e.2.2.1, ca_S_J3_checkFromIndexSize_8c36e.2.2.2, Or.inl (pq_gt4 (i := 94) rfl rfl)⟩
set_option maxRecDepth 100000 in
theorem cw_J0_212 : pq_Cw RJ0 212 := ⟨pq_gt4 (i := 101) rfl rfl, pq_gt3 (i := 64) rfl rfl, pq_gt3 (i := 63) rfl rfl, pq_gt1 (i := 15) rfl rfl⟩
set_option maxRecDepth 100000 in
theorem ml_J0_106 : pq_MS RJ0 106 5 yJ1_inflate_0e8fd cJ1_inflate_0e8fd 5 (none) := ⟨ca_S_J1_inflate_0e8fd.1, ca_S_J1_inflate_0e8fd.2.1, ca_S_J1_inflate_0e8fd.2.2.1, ca_S_J1_inflate_0e8fd.2.2.2, Or.inl (pq_gt4 (i := 102) rfl rfl)⟩
set_option maxRecDepth 100000 in
theorem ml_J0_489 : pq_MI RJ0 489 2 yJ0_init_db425 cJ0_init_db425 5 := ⟨ca_I_J0_init_db425.1, ca_I_J0_init_db425.2.1, ca_I_J0_init_db425.2.2.1, ca_I_J0_init_db425.2.2.2.1, ca_I_J0_init_db425.2.2.2.2, Or.inl (pq_gt4 (i := 139) rfl rfl)⟩
set_option maxRecDepth 100000 in
theorem ow_J0_1 : pq_Ow RJ0 1 := ⟨pq_gt4 (i := 142) rfl rfl, pq_gt1 (i := 39) rfl rfl, pq_gt1 (i := 40) rfl rfl⟩
set_option maxRecDepth 100000 in
theorem ml_J0_54 : pq_MS RJ0 54 3 yJ7_copyOfRange_39247 cJ7_copyOfRange_39247 3 ((some (.array .byte))) := ⟨ca_S_J7_copyOfRange_39247.1, ca_S_J7_copyOfRange_39247.2.1, ca_S_J7_copyOfRange_39247.2.2.1, ca_S_J7_copyOfRange_39247.2.2.2, Or.inl (pq_gt4 (i := 157) rfl rfl)⟩
set_option maxRecDepth 100000 in
theorem ml_J0_1051 : pq_MS RJ0 1051 3 yJ2_compress_39247 cJ2_compress_39247 6 ((some (.array .byte))) := ⟨ca_S_J2_compress_39247.1, ca_S_J2_compress_39247.2.1, ca_S_J2_compress_39247.2.2.1, ca_S_J2_compress_39247.2.2.2, Or.inl (pq_gt4 (i := 168) rfl rfl)⟩
set_option maxRecDepth 100000 in
theorem ml_J0_47 : pq_MS RJ0 47 2 yJ2_coderFromArrayLen_85cad cJ2_coderFromArrayLen_85cad 2 ((some .byte)) := ⟨ca_S_J2_coderFromArrayLen_85cad.1, ca_S_J2_coderFromArrayLen_85cad.2.1, ca_S_J2_coderFromArrayLen_85cad.2.2.1, ca_S_J2_coderFromArrayLen_85cad.2.2.2, Or.inl (pq_gt4 (i := 175) rfl rfl)⟩
