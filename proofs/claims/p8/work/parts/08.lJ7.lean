set_option maxRecDepth 100000 in
theorem ml_J7_13 : pq_MS RJ7 13 3 yJ7_rangeCheck_23922 cJ7_rangeCheck_23922 3 (none) := ⟨ca_S_J7_rangeCheck_23922.1, ca_S_J7_rangeCheck_23922.2.1, ca_S_J7_rangeCheck_23922.2.2.1, ca_S_J7_rangeCheck_23922.2.2.2, Or.inl (pq_gt3 (i := 222) rfl rfl)⟩
set_option maxRecDepth 100000 in
theorem ml_J7_47 : pq_MI RJ7 47 0 yJ4_init_da8c8 cJ4_init_da8c8 1 := ⟨ca_I_J4_init_da8c8.1, ca_I_J4_init_da8c8.2.1, ca_I_J4_init_da8c8.2.2.1, ca_I_J4_init_da8c8.2.2.2.1, ca_I_J4_init_da8c8.2.2.2.2, Or.inl (pq_gt3 (i := 228) rfl rfl)⟩
set_option maxRecDepth 100000 in
theorem ml_J7_50 : pq_MV RJ7 50 1 yJ4_append_15ec4 cJ4_append_15ec4 2 ((some (.object "java/lang/StringBuilder"))) := ⟨ca_V_J4_append_15ec4.1, ca_V_J4_append_15ec4.2.1, ca_V_J4_append_15ec4.2.2.1, ca_V_J4_append_15ec4.2.2.2.1, ca_V_J4_append_15ec4.2.2.2.2, Or.inl (pq_gt4 (i := 17) rfl rfl)⟩
set_option maxRecDepth 100000 in
theorem mn_J7_304 : pq_Mn RJ7 304 := ⟨pq_gt4 (i := 55) rfl rfl, pq_gt3 (i := 141) rfl rfl, pq_gt1 (i := 14) rfl rfl, pq_gt3 (i := 142) rfl rfl⟩
set_option maxRecDepth 100000 in
theorem cw_J7_150 : pq_Cw RJ7 150 := ⟨pq_gt4 (i := 56) rfl rfl, pq_gt3 (i := 64) rfl rfl, pq_gt3 (i := 63) rfl rfl, pq_gt1 (i := 15) rfl rfl⟩
set_option maxRecDepth 100000 in
theorem ml_J7_54 : pq_MV RJ7 54 1 yJ4_append_bf812 cJ4_append_bf812 2 ((some (.object "java/lang/StringBuilder"))) := ⟨ca_V_J4_append_bf812.1, ca_V_J4_append_bf812.2.1, ca_V_J4_append_bf812.2.2.1, ca_V_J4_append_bf812.2.2.2.1, ca_V_J4_append_bf812.2.2.2.2, Or.inl (pq_gt4 (i := 103) rfl rfl)⟩
set_option maxRecDepth 100000 in
theorem ml_J7_61 : pq_MV RJ7 61 0 yJ4_toString_0e30d cJ4_toString_0e30d 1 ((some (.object "java/lang/String"))) := ⟨ca_V_J4_toString_0e30d.1, ca_V_J4_toString_0e30d.2.1, ca_V_J4_toString_0e30d.2.2.1, ca_V_J4_toString_0e30d.2.2.2.1, ca_V_J4_toString_0e30d.2.2.2.2, Or.inl (pq_gt4 (i := 130) rfl rfl)⟩
set_option maxRecDepth 100000 in
theorem ml_J7_339 : pq_MS RJ7 339 3 yJ7_copyOfRangeByte_39247 cJ7_copyOfRangeByte_39247 5 ((some (.array .byte))) := ⟨ca_S_J7_copyOfRangeByte_39247.1, ca_S_J7_copyOfRangeByte_39247.2.1, ca_S_J7_copyOfRangeByte_39247.2.2.1, ca_S_J7_copyOfRangeByte_39247.2.2.2, Or.inl (pq_gt4 (i := 160) rfl rfl)⟩
set_option maxRecDepth 100000 in
theorem ml_J7_343 : pq_MS RJ7 343 2 yJ7_checkLength_df160 cJ7_checkLength_df160 2 (none) := ⟨ca_S_J7_checkLength_df160.1, ca_S_J7_checkLength_df160.2.1, ca_S_J7_checkLength_df160.2.2.1, ca_S_J7_checkLength_df160.2.2.2, Or.inl (pq_gt4 (i := 163) rfl rfl)⟩
set_option maxRecDepth 100000 in
theorem ml_J7_70 : pq_MI RJ7 70 1 yJx00060_init_d00df cJx00060_init_d00df 2 := ⟨ca_I_Jx00060_init_d00df.1, ca_I_Jx00060_init_d00df.2.1, ca_I_Jx00060_init_d00df.2.2.1, ca_I_Jx00060_init_d00df.2.2.2.1, ca_I_Jx00060_init_d00df.2.2.2.2, Or.inl (pq_gt4 (i := 200) rfl rfl)⟩
set_option maxRecDepth 100000 in
theorem cl_J7_43 : Cond.classLink RJ7 43 "java/lang/IllegalArgumentException" ∈ gtb := pq_gt3 (i := 225) rfl rfl
set_option maxRecDepth 100000 in
theorem cl_J7_45 : Cond.classLink RJ7 45 "java/lang/StringBuilder" ∈ gtb := pq_gt3 (i := 226) rfl rfl
set_option maxRecDepth 100000 in
theorem cl_J7_311 : Cond.classLink RJ7 311 "[B" ∈ gtb := pq_gt4 (i := 54) rfl rfl
set_option maxRecDepth 100000 in
theorem cl_J7_68 : Cond.classLink RJ7 68 "java/lang/ArrayIndexOutOfBoundsException" ∈ gtb := pq_gt4 (i := 189) rfl rfl
set_option maxRecDepth 100000 in
theorem cl_J7_317 : Cond.classLink RJ7 317 "[I" ∈ gtb := pq_gt6 (i := 5) rfl rfl
