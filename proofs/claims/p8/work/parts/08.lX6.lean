set_option maxRecDepth 100000 in
theorem lk_X6_51 : pq_Lk RX6 51 12 1 := ⟨RX9, TX9, 2, rfl, by decide, rfl, in_X9, Or.inr ⟨"PatternPairs", pq_nt1 (i := 50) rfl rfl⟩⟩
set_option maxRecDepth 100000 in
theorem lp_X6_51 : pq_Lp RX6 51 12 1 (.int) := ⟨RX9, TX9, 2, tyX9, rfl, by decide, rfl, in_X9, Or.inr ⟨"PatternPairs", pq_nt1 (i := 50) rfl rfl⟩, tyX9_ok, nmX9, rfl, rfl⟩
set_option maxRecDepth 100000 in
theorem lk_X6_152 : pq_Lk RX6 152 5 0 := ⟨RX2, TX2, 3, rfl, by decide, rfl, in_X2, Or.inr ⟨"PatternPairs", pq_nt1 (i := 72) rfl rfl⟩⟩
set_option maxRecDepth 100000 in
theorem lk_X6_148 : pq_Lk RX6 148 5 1 := ⟨RX2, TX2, 3, rfl, by decide, rfl, in_X2, Or.inr ⟨"PatternPairs", pq_nt1 (i := 75) rfl rfl⟩⟩
set_option maxRecDepth 100000 in
theorem lk_X6_144 : pq_Lk RX6 144 5 2 := ⟨RX2, TX2, 3, rfl, by decide, rfl, in_X2, Or.inr ⟨"PatternPairs", pq_nt1 (i := 78) rfl rfl⟩⟩
set_option maxRecDepth 100000 in
theorem lp_X6_144 : pq_Lp RX6 144 5 2 (.boolean) := ⟨RX2, TX2, 3, tyX2, rfl, by decide, rfl, in_X2, Or.inr ⟨"PatternPairs", pq_nt1 (i := 78) rfl rfl⟩, tyX2_ok, nmX2, rfl, rfl⟩
set_option maxRecDepth 100000 in
theorem lk_X6_67 : pq_Lk RX6 67 8 2 := ⟨RX5, TX5, 4, rfl, by decide, rfl, in_X5, Or.inr ⟨"PatternPairs", pq_nt1 (i := 92) rfl rfl⟩⟩
set_option maxRecDepth 100000 in
theorem lk_X6_25 : pq_Lk RX6 25 9 0 := ⟨RX6, TX6, 10, rfl, by decide, rfl, in_X6, Or.inl (pq_gt1 (i := 115) rfl rfl)⟩
set_option maxRecDepth 100000 in
theorem lf_X6_25 : pq_Lf RX6 25 9 0 (.object "PatternPairs$Tape") := ⟨RX6, TX6, 10, tyX6, rfl, by decide, rfl, in_X6, pq_gt1 (i := 115) rfl rfl, tyX6_ok, nmX6, rfl, rfl, rfl⟩
set_option maxRecDepth 100000 in
theorem lk_X6_29 : pq_Lk RX6 29 9 1 := ⟨RX6, TX6, 10, rfl, by decide, rfl, in_X6, Or.inl (pq_gt1 (i := 116) rfl rfl)⟩
set_option maxRecDepth 100000 in
theorem lf_X6_29 : pq_Lf RX6 29 9 1 (.object "PatternPairs$Places") := ⟨RX6, TX6, 10, tyX6, rfl, by decide, rfl, in_X6, pq_gt1 (i := 116) rfl rfl, tyX6_ok, nmX6, rfl, rfl, rfl⟩
set_option maxRecDepth 100000 in
theorem lk_X6_11 : pq_Lk RX6 11 9 2 := ⟨RX6, TX6, 10, rfl, by decide, rfl, in_X6, Or.inl (pq_gt1 (i := 117) rfl rfl)⟩
set_option maxRecDepth 100000 in
theorem lf_X6_11 : pq_Lf RX6 11 9 2 (.array (.object "PatternPairs$Ends")) := ⟨RX6, TX6, 10, tyX6, rfl, by decide, rfl, in_X6, pq_gt1 (i := 117) rfl rfl, tyX6_ok, nmX6, rfl, rfl, rfl⟩
set_option maxRecDepth 100000 in
theorem lk_X6_17 : pq_Lk RX6 17 9 3 := ⟨RX6, TX6, 10, rfl, by decide, rfl, in_X6, Or.inl (pq_gt1 (i := 118) rfl rfl)⟩
set_option maxRecDepth 100000 in
theorem lf_X6_17 : pq_Lf RX6 17 9 3 (.array (.object "PatternPairs$Ends")) := ⟨RX6, TX6, 10, tyX6, rfl, by decide, rfl, in_X6, pq_gt1 (i := 118) rfl rfl, tyX6_ok, nmX6, rfl, rfl, rfl⟩
set_option maxRecDepth 100000 in
theorem lk_X6_21 : pq_Lk RX6 21 9 4 := ⟨RX6, TX6, 10, rfl, by decide, rfl, in_X6, Or.inl (pq_gt1 (i := 119) rfl rfl)⟩
set_option maxRecDepth 100000 in
theorem lf_X6_21 : pq_Lf RX6 21 9 4 (.object "PatternPairs$Ends") := ⟨RX6, TX6, 10, tyX6, rfl, by decide, rfl, in_X6, pq_gt1 (i := 119) rfl rfl, tyX6_ok, nmX6, rfl, rfl, rfl⟩
set_option maxRecDepth 100000 in
theorem lk_X6_38 : pq_Lk RX6 38 9 5 := ⟨RX6, TX6, 10, rfl, by decide, rfl, in_X6, Or.inl (pq_gt1 (i := 120) rfl rfl)⟩
set_option maxRecDepth 100000 in
theorem lp_X6_38 : pq_Lp RX6 38 9 5 (.int) := ⟨RX6, TX6, 10, tyX6, rfl, by decide, rfl, in_X6, Or.inl (pq_gt1 (i := 120) rfl rfl), tyX6_ok, nmX6, rfl, rfl⟩
set_option maxRecDepth 100000 in
theorem lk_X6_45 : pq_Lk RX6 45 9 6 := ⟨RX6, TX6, 10, rfl, by decide, rfl, in_X6, Or.inl (pq_gt1 (i := 121) rfl rfl)⟩
set_option maxRecDepth 100000 in
theorem lp_X6_45 : pq_Lp RX6 45 9 6 (.int) := ⟨RX6, TX6, 10, tyX6, rfl, by decide, rfl, in_X6, Or.inl (pq_gt1 (i := 121) rfl rfl), tyX6_ok, nmX6, rfl, rfl⟩
set_option maxRecDepth 100000 in
theorem lk_X6_42 : pq_Lk RX6 42 9 7 := ⟨RX6, TX6, 10, rfl, by decide, rfl, in_X6, Or.inl (pq_gt1 (i := 122) rfl rfl)⟩
set_option maxRecDepth 100000 in
theorem lp_X6_42 : pq_Lp RX6 42 9 7 (.int) := ⟨RX6, TX6, 10, tyX6, rfl, by decide, rfl, in_X6, Or.inl (pq_gt1 (i := 122) rfl rfl), tyX6_ok, nmX6, rfl, rfl⟩
set_option maxRecDepth 100000 in
theorem lk_X6_96 : pq_Lk RX6 96 9 8 := ⟨RX6, TX6, 10, rfl, by decide, rfl, in_X6, Or.inl (pq_gt1 (i := 123) rfl rfl)⟩
set_option maxRecDepth 100000 in
theorem lp_X6_96 : pq_Lp RX6 96 9 8 (.long) := ⟨RX6, TX6, 10, tyX6, rfl, by decide, rfl, in_X6, Or.inl (pq_gt1 (i := 123) rfl rfl), tyX6_ok, nmX6, rfl, rfl⟩
set_option maxRecDepth 100000 in
theorem lk_X6_100 : pq_Lk RX6 100 9 9 := ⟨RX6, TX6, 10, rfl, by decide, rfl, in_X6, Or.inl (pq_gt1 (i := 124) rfl rfl)⟩
set_option maxRecDepth 100000 in
theorem lp_X6_100 : pq_Lp RX6 100 9 9 (.long) := ⟨RX6, TX6, 10, tyX6, rfl, by decide, rfl, in_X6, Or.inl (pq_gt1 (i := 124) rfl rfl), tyX6_ok, nmX6, rfl, rfl⟩
set_option maxRecDepth 100000 in
theorem lc_X6_120 : Cond.constantLong RX6 120 (-1) ∈ gtb := pq_gt3 (i := 200) rfl rfl
set_option maxRecDepth 100000 in
theorem lc_X6_118 : Cond.constantLong RX6 118 (-1025) ∈ gtb := pq_gt3 (i := 205) rfl rfl
set_option maxRecDepth 100000 in
theorem ow_X6_3 : pq_Ow RX6 3 := ⟨pq_gt1 (i := 111) rfl rfl, pq_gt1 (i := 39) rfl rfl, pq_gt1 (i := 40) rfl rfl⟩
set_option maxRecDepth 100000 in
theorem ml_X6_20 : pq_MI RX6 20 0 yX2_init cX2_init 1 := ⟨ca_I_X2_init.1, ca_I_X2_init.2.1, ca_I_X2_init.2.2.1, ca_I_X2_init.2.2.2.1, ca_I_X2_init.2.2.2.2, Or.inr ⟨"PatternPairs", pq_nt1 (i := 114) rfl rfl⟩⟩
set_option maxRecDepth 100000 in
theorem ml_X6_33 : pq_MV RX6 33 0 yX5_clear cX5_clear 1 (none) := ⟨ca_V_X5_clear.1, ca_V_X5_clear.2.1, ca_V_X5_clear.2.2.1, ca_V_X5_clear.2.2.2.1, ca_V_X5_clear.2.2.2.2, Or.inr ⟨"PatternPairs", pq_nt3 (i := 10) rfl rfl⟩⟩
set_option maxRecDepth 100000 in
theorem ml_X6_48 : pq_MV RX6 48 0 yX6_beginLevel cX6_beginLevel 1 (none) := ⟨ca_V_X6_beginLevel.1, ca_V_X6_beginLevel.2.1, ca_V_X6_beginLevel.2.2.1, ca_V_X6_beginLevel.2.2.2.1, ca_V_X6_beginLevel.2.2.2.2, Or.inl (pq_gt3 (i := 17) rfl rfl)⟩
set_option maxRecDepth 100000 in
theorem ml_X6_59 : pq_MV RX6 59 1 yX6_here cX6_here 2 ((some (.object "PatternPairs$Ends"))) := ⟨ca_V_X6_here.1, ca_V_X6_here.2.1, ca_V_X6_here.2.2.1, ca_V_X6_here.2.2.2.1, ca_V_X6_here.2.2.2.2, Or.inl (pq_gt3 (i := 21) rfl rfl)⟩
set_option maxRecDepth 100000 in
theorem ml_X6_73 : pq_MV RX6 73 0 yX2_becomeNoText cX2_becomeNoText 1 (none) := ⟨ca_V_X2_becomeNoText.1, ca_V_X2_becomeNoText.2.1, ca_V_X2_becomeNoText.2.2.1, ca_V_X2_becomeNoText.2.2.2.1, ca_V_X2_becomeNoText.2.2.2.2, Or.inr ⟨"PatternPairs", pq_nt3 (i := 25) rfl rfl⟩⟩
set_option maxRecDepth 100000 in
theorem ml_X6_76 : pq_MV RX6 76 0 yX2_becomeEmptyText cX2_becomeEmptyText 1 (none) := ⟨ca_V_X2_becomeEmptyText.1, ca_V_X2_becomeEmptyText.2.1, ca_V_X2_becomeEmptyText.2.2.1, ca_V_X2_becomeEmptyText.2.2.2.1, ca_V_X2_becomeEmptyText.2.2.2.2, Or.inr ⟨"PatternPairs", pq_nt3 (i := 30) rfl rfl⟩⟩
set_option maxRecDepth 100000 in
theorem ml_X6_56 : pq_MV RX6 56 0 yX6_readNext cX6_readNext 2 (none) := ⟨ca_V_X6_readNext.1, ca_V_X6_readNext.2.1, ca_V_X6_readNext.2.2.1, ca_V_X6_readNext.2.2.2.1, ca_V_X6_readNext.2.2.2.2, Or.inl (pq_gt3 (i := 35) rfl rfl)⟩
set_option maxRecDepth 100000 in
theorem ml_X6_79 : pq_MV RX6 79 1 yX9_byteAt cX9_byteAt 2 ((some .int)) := ⟨ca_V_X9_byteAt.1, ca_V_X9_byteAt.2.1, ca_V_X9_byteAt.2.2.1, ca_V_X9_byteAt.2.2.2.1, ca_V_X9_byteAt.2.2.2.2, Or.inr ⟨"PatternPairs", pq_nt3 (i := 39) rfl rfl⟩⟩
set_option maxRecDepth 100000 in
theorem ml_X6_83 : pq_MV RX6 83 0 yX6_openGroup cX6_openGroup 1 (none) := ⟨ca_V_X6_openGroup.1, ca_V_X6_openGroup.2.1, ca_V_X6_openGroup.2.2.1, ca_V_X6_openGroup.2.2.2.1, ca_V_X6_openGroup.2.2.2.2, Or.inl (pq_gt3 (i := 43) rfl rfl)⟩
set_option maxRecDepth 100000 in
theorem ml_X6_86 : pq_MV RX6 86 0 yX6_closeGroup cX6_closeGroup 1 (none) := ⟨ca_V_X6_closeGroup.1, ca_V_X6_closeGroup.2.1, ca_V_X6_closeGroup.2.2.1, ca_V_X6_closeGroup.2.2.2.1, ca_V_X6_closeGroup.2.2.2.2, Or.inl (pq_gt3 (i := 47) rfl rfl)⟩
set_option maxRecDepth 100000 in
theorem ml_X6_63 : pq_MV RX6 63 1 yX2_addChoice cX2_addChoice 2 (none) := ⟨ca_V_X2_addChoice.1, ca_V_X2_addChoice.2.1, ca_V_X2_addChoice.2.2.1, ca_V_X2_addChoice.2.2.2.1, ca_V_X2_addChoice.2.2.2.2, Or.inr ⟨"PatternPairs", pq_nt3 (i := 51) rfl rfl⟩⟩
set_option maxRecDepth 100000 in
theorem ml_X6_70 : pq_MV RX6 70 1 yX2_become cX2_become 2 (none) := ⟨ca_V_X2_become.1, ca_V_X2_become.2.1, ca_V_X2_become.2.2.1, ca_V_X2_become.2.2.2.1, ca_V_X2_become.2.2.2.2, Or.inr ⟨"PatternPairs", pq_nt3 (i := 58) rfl rfl⟩⟩
set_option maxRecDepth 100000 in
theorem ml_X6_115 : pq_MV RX6 115 0 yX6_repeatAndAppend cX6_repeatAndAppend 2 (none) := ⟨ca_V_X6_repeatAndAppend.1, ca_V_X6_repeatAndAppend.2.1, ca_V_X6_repeatAndAppend.2.2.1, ca_V_X6_repeatAndAppend.2.2.2.1, ca_V_X6_repeatAndAppend.2.2.2.2, Or.inl (pq_gt3 (i := 65) rfl rfl)⟩
set_option maxRecDepth 100000 in
theorem ml_X6_140 : pq_MS RX6 140 1 yX6_isRepeat cX6_isRepeat 1 ((some .boolean)) := ⟨ca_S_X6_isRepeat.1, ca_S_X6_isRepeat.2.1, ca_S_X6_isRepeat.2.2.1, ca_S_X6_isRepeat.2.2.2, Or.inl (pq_gt3 (i := 69) rfl rfl)⟩
set_option maxRecDepth 100000 in
theorem ml_X6_155 : pq_MV RX6 155 2 yX5_link cX5_link 4 (none) := ⟨ca_V_X5_link.1, ca_V_X5_link.2.1, ca_V_X5_link.2.2.1, ca_V_X5_link.2.2.2.1, ca_V_X5_link.2.2.2.2, Or.inr ⟨"PatternPairs", pq_nt3 (i := 72) rfl rfl⟩⟩
set_option maxRecDepth 100000 in
theorem ml_X6_159 : pq_MV RX6 159 1 yX2_append cX2_append 2 (none) := ⟨ca_V_X2_append.1, ca_V_X2_append.2.1, ca_V_X2_append.2.2.1, ca_V_X2_append.2.2.2.1, ca_V_X2_append.2.2.2.2, Or.inr ⟨"PatternPairs", pq_nt3 (i := 80) rfl rfl⟩⟩
set_option maxRecDepth 100000 in
theorem ml_X6_89 : pq_MV RX6 89 0 yX6_nextChoice cX6_nextChoice 1 (none) := ⟨ca_V_X6_nextChoice.1, ca_V_X6_nextChoice.2.1, ca_V_X6_nextChoice.2.2.1, ca_V_X6_nextChoice.2.2.2.1, ca_V_X6_nextChoice.2.2.2.2, Or.inl (pq_gt3 (i := 84) rfl rfl)⟩
set_option maxRecDepth 100000 in
theorem ml_X6_92 : pq_MV RX6 92 0 yX5_isFull cX5_isFull 1 ((some .boolean)) := ⟨ca_V_X5_isFull.1, ca_V_X5_isFull.2.1, ca_V_X5_isFull.2.2.1, ca_V_X5_isFull.2.2.2.1, ca_V_X5_isFull.2.2.2.2, Or.inr ⟨"PatternPairs", pq_nt3 (i := 88) rfl rfl⟩⟩
set_option maxRecDepth 100000 in
theorem ml_X6_103 : pq_MV RX6 103 0 yX6_readClass cX6_readClass 3 (none) := ⟨ca_V_X6_readClass.1, ca_V_X6_readClass.2.1, ca_V_X6_readClass.2.2.1, ca_V_X6_readClass.2.2.2.1, ca_V_X6_readClass.2.2.2.2, Or.inl (pq_gt3 (i := 92) rfl rfl)⟩
set_option maxRecDepth 100000 in
theorem ml_X6_162 : pq_MV RX6 162 0 yX6_readPart cX6_readPart 4 (none) := ⟨ca_V_X6_readPart.1, ca_V_X6_readPart.2.1, ca_V_X6_readPart.2.2.1, ca_V_X6_readPart.2.2.2.1, ca_V_X6_readPart.2.2.2.2, Or.inl (pq_gt3 (i := 96) rfl rfl)⟩
set_option maxRecDepth 100000 in
theorem ml_X6_124 : pq_MV RX6 124 1 yX6_readSymbol cX6_readSymbol 3 ((some .int)) := ⟨ca_V_X6_readSymbol.1, ca_V_X6_readSymbol.2.1, ca_V_X6_readSymbol.2.2.1, ca_V_X6_readSymbol.2.2.2.1, ca_V_X6_readSymbol.2.2.2.2, Or.inl (pq_gt3 (i := 101) rfl rfl)⟩
set_option maxRecDepth 100000 in
theorem ml_X6_167 : pq_MS RX6 167 1 yX6_escaped cX6_escaped 1 ((some .int)) := ⟨ca_S_X6_escaped.1, ca_S_X6_escaped.2.1, ca_S_X6_escaped.2.2.1, ca_S_X6_escaped.2.2.2, Or.inl (pq_gt3 (i := 105) rfl rfl)⟩
set_option maxRecDepth 100000 in
theorem ml_X6_170 : pq_MV RX6 170 1 yJ0_indexOf_0f7a4 cJ0_indexOf_0f7a4 2 ((some .int)) := ⟨ca_V_J0_indexOf_0f7a4.1, ca_V_J0_indexOf_0f7a4.2.1, ca_V_J0_indexOf_0f7a4.2.2.1, ca_V_J0_indexOf_0f7a4.2.2.2.1, ca_V_J0_indexOf_0f7a4.2.2.2.2, Or.inl (pq_gt3 (i := 109) rfl rfl)⟩
set_option maxRecDepth 100000 in
theorem ml_X6_128 : pq_MV RX6 128 2 yX6_include cX6_include 4 (none) := ⟨ca_V_X6_include.1, ca_V_X6_include.2.1, ca_V_X6_include.2.2.1, ca_V_X6_include.2.2.2.1, ca_V_X6_include.2.2.2.2, Or.inl (pq_gt3 (i := 195) rfl rfl)⟩
set_option maxRecDepth 100000 in
theorem mx_X6_177 : pq_Mx RX6 177 := ⟨pq_gt3 (i := 199) rfl rfl, pq_gt3 (i := 138) rfl rfl, pq_gt1 (i := 14) rfl rfl, pq_gt3 (i := 139) rfl rfl⟩
set_option maxRecDepth 100000 in
theorem ml_X6_106 : pq_MV RX6 106 0 yX6_readAny cX6_readAny 1 (none) := ⟨ca_V_X6_readAny.1, ca_V_X6_readAny.2.1, ca_V_X6_readAny.2.2.1, ca_V_X6_readAny.2.2.2.1, ca_V_X6_readAny.2.2.2.2, Or.inl (pq_gt3 (i := 201) rfl rfl)⟩
set_option maxRecDepth 100000 in
theorem ml_X6_109 : pq_MV RX6 109 0 yX6_readCharacter cX6_readCharacter 2 (none) := ⟨ca_V_X6_readCharacter.1, ca_V_X6_readCharacter.2.1, ca_V_X6_readCharacter.2.2.1, ca_V_X6_readCharacter.2.2.2.1, ca_V_X6_readCharacter.2.2.2.2, Or.inl (pq_gt3 (i := 206) rfl rfl)⟩
set_option maxRecDepth 100000 in
theorem ml_X6_112 : pq_MV RX6 112 0 yX6_addPlace cX6_addPlace 1 (none) := ⟨ca_V_X6_addPlace.1, ca_V_X6_addPlace.2.1, ca_V_X6_addPlace.2.2.1, ca_V_X6_addPlace.2.2.2.1, ca_V_X6_addPlace.2.2.2.2, Or.inl (pq_gt3 (i := 211) rfl rfl)⟩
set_option maxRecDepth 100000 in
theorem ml_X6_132 : pq_MV RX6 132 2 yX5_add cX5_add 7 ((some .int)) := ⟨ca_V_X5_add.1, ca_V_X5_add.2.1, ca_V_X5_add.2.2.1, ca_V_X5_add.2.2.2.1, ca_V_X5_add.2.2.2.2, Or.inr ⟨"PatternPairs", pq_nt3 (i := 215) rfl rfl⟩⟩
set_option maxRecDepth 100000 in
theorem ml_X6_136 : pq_MV RX6 136 1 yX2_becomePlace cX2_becomePlace 2 (none) := ⟨ca_V_X2_becomePlace.1, ca_V_X2_becomePlace.2.1, ca_V_X2_becomePlace.2.2.1, ca_V_X2_becomePlace.2.2.2.1, ca_V_X2_becomePlace.2.2.2.2, Or.inr ⟨"PatternPairs", pq_nt4 (i := 215) rfl rfl⟩⟩
set_option maxRecDepth 100000 in
theorem cl_X6_9 : Cond.classLink RX6 9 "PatternPairs$Ends" ∈ gtb := pq_gt1 (i := 112) rfl rfl
set_option maxRecDepth 100000 in
theorem nw_X6_9 : pq_Nw RX6 9 5 3 (fun k => defaultValue (tyX2 k)) := ⟨RX2, TX2, tyX2, rfl, rfl, in_X2, tyX2_ok, fun _ _ => rfl, pq_gt1 (i := 112) rfl rfl, pq_gt1 (i := 65) rfl rfl, pq_gt1 (i := 4) rfl rfl⟩
