set_option maxRecDepth 100000 in
theorem lk_X11_30 : pq_Lk RX11 30 14 0 := ⟨RX11, TX11, 47, rfl, by decide, rfl, in_X11, Or.inl (pq_gt6 (i := 93) rfl rfl)⟩
set_option maxRecDepth 100000 in
theorem lf_X11_30 : pq_Lf RX11 30 14 0 (.array .byte) := ⟨RX11, TX11, 47, tyX11, rfl, by decide, rfl, in_X11, pq_gt6 (i := 93) rfl rfl, tyX11_ok, nmX11, rfl, rfl, rfl⟩
set_option maxRecDepth 100000 in
theorem lk_X11_264 : pq_Lk RX11 264 14 1 := ⟨RX11, TX11, 47, rfl, by decide, rfl, in_X11, Or.inl (pq_gt6 (i := 94) rfl rfl)⟩
set_option maxRecDepth 100000 in
theorem lp_X11_264 : pq_Lp RX11 264 14 1 (.int) := ⟨RX11, TX11, 47, tyX11, rfl, by decide, rfl, in_X11, Or.inl (pq_gt6 (i := 94) rfl rfl), tyX11_ok, nmX11, rfl, rfl⟩
set_option maxRecDepth 100000 in
theorem lk_X11_214 : pq_Lk RX11 214 14 2 := ⟨RX11, TX11, 47, rfl, by decide, rfl, in_X11, Or.inl (pq_gt6 (i := 95) rfl rfl)⟩
set_option maxRecDepth 100000 in
theorem lp_X11_214 : pq_Lp RX11 214 14 2 (.int) := ⟨RX11, TX11, 47, tyX11, rfl, by decide, rfl, in_X11, Or.inl (pq_gt6 (i := 95) rfl rfl), tyX11_ok, nmX11, rfl, rfl⟩
set_option maxRecDepth 100000 in
theorem lk_X11_3 : pq_Lk RX11 3 14 3 := ⟨RX11, TX11, 47, rfl, by decide, rfl, in_X11, Or.inl (pq_gt6 (i := 96) rfl rfl)⟩
set_option maxRecDepth 100000 in
theorem lp_X11_3 : pq_Lp RX11 3 14 3 (.int) := ⟨RX11, TX11, 47, tyX11, rfl, by decide, rfl, in_X11, Or.inl (pq_gt6 (i := 96) rfl rfl), tyX11_ok, nmX11, rfl, rfl⟩
set_option maxRecDepth 100000 in
theorem lk_X11_10 : pq_Lk RX11 10 14 4 := ⟨RX11, TX11, 47, rfl, by decide, rfl, in_X11, Or.inl (pq_gt6 (i := 97) rfl rfl)⟩
set_option maxRecDepth 100000 in
theorem lp_X11_10 : pq_Lp RX11 10 14 4 (.array .int) := ⟨RX11, TX11, 47, tyX11, rfl, by decide, rfl, in_X11, Or.inl (pq_gt6 (i := 97) rfl rfl), tyX11_ok, nmX11, rfl, rfl⟩
set_option maxRecDepth 100000 in
theorem lk_X11_20 : pq_Lk RX11 20 14 5 := ⟨RX11, TX11, 47, rfl, by decide, rfl, in_X11, Or.inl (pq_gt6 (i := 98) rfl rfl)⟩
set_option maxRecDepth 100000 in
theorem lp_X11_20 : pq_Lp RX11 20 14 5 (.array .int) := ⟨RX11, TX11, 47, tyX11, rfl, by decide, rfl, in_X11, Or.inl (pq_gt6 (i := 98) rfl rfl), tyX11_ok, nmX11, rfl, rfl⟩
set_option maxRecDepth 100000 in
theorem lk_X11_7 : pq_Lk RX11 7 14 6 := ⟨RX11, TX11, 47, rfl, by decide, rfl, in_X11, Or.inl (pq_gt6 (i := 99) rfl rfl)⟩
set_option maxRecDepth 100000 in
theorem lp_X11_7 : pq_Lp RX11 7 14 6 (.int) := ⟨RX11, TX11, 47, tyX11, rfl, by decide, rfl, in_X11, Or.inl (pq_gt6 (i := 99) rfl rfl), tyX11_ok, nmX11, rfl, rfl⟩
set_option maxRecDepth 100000 in
theorem lk_X11_108 : pq_Lk RX11 108 14 7 := ⟨RX11, TX11, 47, rfl, by decide, rfl, in_X11, Or.inl (pq_gt6 (i := 100) rfl rfl)⟩
set_option maxRecDepth 100000 in
theorem lp_X11_108 : pq_Lp RX11 108 14 7 (.array .long) := ⟨RX11, TX11, 47, tyX11, rfl, by decide, rfl, in_X11, Or.inl (pq_gt6 (i := 100) rfl rfl), tyX11_ok, nmX11, rfl, rfl⟩
set_option maxRecDepth 100000 in
theorem lk_X11_112 : pq_Lk RX11 112 14 8 := ⟨RX11, TX11, 47, rfl, by decide, rfl, in_X11, Or.inl (pq_gt6 (i := 101) rfl rfl)⟩
set_option maxRecDepth 100000 in
theorem lp_X11_112 : pq_Lp RX11 112 14 8 (.array .long) := ⟨RX11, TX11, 47, tyX11, rfl, by decide, rfl, in_X11, Or.inl (pq_gt6 (i := 101) rfl rfl), tyX11_ok, nmX11, rfl, rfl⟩
set_option maxRecDepth 100000 in
theorem lk_X11_102 : pq_Lk RX11 102 14 9 := ⟨RX11, TX11, 47, rfl, by decide, rfl, in_X11, Or.inl (pq_gt6 (i := 102) rfl rfl)⟩
set_option maxRecDepth 100000 in
theorem lp_X11_102 : pq_Lp RX11 102 14 9 (.int) := ⟨RX11, TX11, 47, tyX11, rfl, by decide, rfl, in_X11, Or.inl (pq_gt6 (i := 102) rfl rfl), tyX11_ok, nmX11, rfl, rfl⟩
set_option maxRecDepth 100000 in
theorem lk_X11_27 : pq_Lk RX11 27 14 10 := ⟨RX11, TX11, 47, rfl, by decide, rfl, in_X11, Or.inl (pq_gt6 (i := 103) rfl rfl)⟩
set_option maxRecDepth 100000 in
theorem lp_X11_27 : pq_Lp RX11 27 14 10 (.int) := ⟨RX11, TX11, 47, tyX11, rfl, by decide, rfl, in_X11, Or.inl (pq_gt6 (i := 103) rfl rfl), tyX11_ok, nmX11, rfl, rfl⟩
set_option maxRecDepth 100000 in
theorem lk_X11_49 : pq_Lk RX11 49 14 11 := ⟨RX11, TX11, 47, rfl, by decide, rfl, in_X11, Or.inl (pq_gt6 (i := 104) rfl rfl)⟩
set_option maxRecDepth 100000 in
theorem lp_X11_49 : pq_Lp RX11 49 14 11 (.long) := ⟨RX11, TX11, 47, tyX11, rfl, by decide, rfl, in_X11, Or.inl (pq_gt6 (i := 104) rfl rfl), tyX11_ok, nmX11, rfl, rfl⟩
set_option maxRecDepth 100000 in
theorem lk_X11_53 : pq_Lk RX11 53 14 12 := ⟨RX11, TX11, 47, rfl, by decide, rfl, in_X11, Or.inl (pq_gt6 (i := 105) rfl rfl)⟩
set_option maxRecDepth 100000 in
theorem lp_X11_53 : pq_Lp RX11 53 14 12 (.long) := ⟨RX11, TX11, 47, tyX11, rfl, by decide, rfl, in_X11, Or.inl (pq_gt6 (i := 105) rfl rfl), tyX11_ok, nmX11, rfl, rfl⟩
set_option maxRecDepth 100000 in
theorem lk_X11_85 : pq_Lk RX11 85 14 13 := ⟨RX11, TX11, 47, rfl, by decide, rfl, in_X11, Or.inl (pq_gt6 (i := 106) rfl rfl)⟩
set_option maxRecDepth 100000 in
theorem lf_X11_85 : pq_Lf RX11 85 14 13 (.array .int) := ⟨RX11, TX11, 47, tyX11, rfl, by decide, rfl, in_X11, pq_gt6 (i := 106) rfl rfl, tyX11_ok, nmX11, rfl, rfl, rfl⟩
set_option maxRecDepth 100000 in
theorem lk_X11_88 : pq_Lk RX11 88 14 14 := ⟨RX11, TX11, 47, rfl, by decide, rfl, in_X11, Or.inl (pq_gt6 (i := 107) rfl rfl)⟩
set_option maxRecDepth 100000 in
theorem lf_X11_88 : pq_Lf RX11 88 14 14 (.array .int) := ⟨RX11, TX11, 47, tyX11, rfl, by decide, rfl, in_X11, pq_gt6 (i := 107) rfl rfl, tyX11_ok, nmX11, rfl, rfl, rfl⟩
set_option maxRecDepth 100000 in
theorem lk_X11_78 : pq_Lk RX11 78 14 15 := ⟨RX11, TX11, 47, rfl, by decide, rfl, in_X11, Or.inl (pq_gt6 (i := 108) rfl rfl)⟩
set_option maxRecDepth 100000 in
theorem lf_X11_78 : pq_Lf RX11 78 14 15 (.array .int) := ⟨RX11, TX11, 47, tyX11, rfl, by decide, rfl, in_X11, pq_gt6 (i := 108) rfl rfl, tyX11_ok, nmX11, rfl, rfl, rfl⟩
set_option maxRecDepth 100000 in
theorem lk_X11_81 : pq_Lk RX11 81 14 16 := ⟨RX11, TX11, 47, rfl, by decide, rfl, in_X11, Or.inl (pq_gt6 (i := 109) rfl rfl)⟩
set_option maxRecDepth 100000 in
theorem lf_X11_81 : pq_Lf RX11 81 14 16 (.array .boolean) := ⟨RX11, TX11, 47, tyX11, rfl, by decide, rfl, in_X11, pq_gt6 (i := 109) rfl rfl, tyX11_ok, nmX11, rfl, rfl, rfl⟩
set_option maxRecDepth 100000 in
theorem lk_X11_136 : pq_Lk RX11 136 14 17 := ⟨RX11, TX11, 47, rfl, by decide, rfl, in_X11, Or.inl (pq_gt6 (i := 110) rfl rfl)⟩
set_option maxRecDepth 100000 in
theorem lf_X11_136 : pq_Lf RX11 136 14 17 (.array .long) := ⟨RX11, TX11, 47, tyX11, rfl, by decide, rfl, in_X11, pq_gt6 (i := 110) rfl rfl, tyX11_ok, nmX11, rfl, rfl, rfl⟩
set_option maxRecDepth 100000 in
theorem lk_X11_175 : pq_Lk RX11 175 14 18 := ⟨RX11, TX11, 47, rfl, by decide, rfl, in_X11, Or.inl (pq_gt6 (i := 111) rfl rfl)⟩
set_option maxRecDepth 100000 in
theorem lf_X11_175 : pq_Lf RX11 175 14 18 (.array .int) := ⟨RX11, TX11, 47, tyX11, rfl, by decide, rfl, in_X11, pq_gt6 (i := 111) rfl rfl, tyX11_ok, nmX11, rfl, rfl, rfl⟩
set_option maxRecDepth 100000 in
theorem lk_X11_181 : pq_Lk RX11 181 14 19 := ⟨RX11, TX11, 47, rfl, by decide, rfl, in_X11, Or.inl (pq_gt6 (i := 112) rfl rfl)⟩
set_option maxRecDepth 100000 in
theorem lf_X11_181 : pq_Lf RX11 181 14 19 (.array .int) := ⟨RX11, TX11, 47, tyX11, rfl, by decide, rfl, in_X11, pq_gt6 (i := 112) rfl rfl, tyX11_ok, nmX11, rfl, rfl, rfl⟩
set_option maxRecDepth 100000 in
theorem lk_X11_159 : pq_Lk RX11 159 14 20 := ⟨RX11, TX11, 47, rfl, by decide, rfl, in_X11, Or.inl (pq_gt6 (i := 113) rfl rfl)⟩
set_option maxRecDepth 100000 in
theorem lp_X11_159 : pq_Lp RX11 159 14 20 (.int) := ⟨RX11, TX11, 47, tyX11, rfl, by decide, rfl, in_X11, Or.inl (pq_gt6 (i := 113) rfl rfl), tyX11_ok, nmX11, rfl, rfl⟩
set_option maxRecDepth 100000 in
theorem lk_X11_115 : pq_Lk RX11 115 14 21 := ⟨RX11, TX11, 47, rfl, by decide, rfl, in_X11, Or.inl (pq_gt6 (i := 114) rfl rfl)⟩
set_option maxRecDepth 100000 in
theorem lp_X11_115 : pq_Lp RX11 115 14 21 (.array .int) := ⟨RX11, TX11, 47, tyX11, rfl, by decide, rfl, in_X11, Or.inl (pq_gt6 (i := 114) rfl rfl), tyX11_ok, nmX11, rfl, rfl⟩
set_option maxRecDepth 100000 in
theorem lk_X11_121 : pq_Lk RX11 121 14 22 := ⟨RX11, TX11, 47, rfl, by decide, rfl, in_X11, Or.inl (pq_gt6 (i := 115) rfl rfl)⟩
set_option maxRecDepth 100000 in
theorem lp_X11_121 : pq_Lp RX11 121 14 22 (.array .int) := ⟨RX11, TX11, 47, tyX11, rfl, by decide, rfl, in_X11, Or.inl (pq_gt6 (i := 115) rfl rfl), tyX11_ok, nmX11, rfl, rfl⟩
set_option maxRecDepth 100000 in
theorem lk_X11_118 : pq_Lk RX11 118 14 23 := ⟨RX11, TX11, 47, rfl, by decide, rfl, in_X11, Or.inl (pq_gt6 (i := 116) rfl rfl)⟩
set_option maxRecDepth 100000 in
theorem lp_X11_118 : pq_Lp RX11 118 14 23 (.int) := ⟨RX11, TX11, 47, tyX11, rfl, by decide, rfl, in_X11, Or.inl (pq_gt6 (i := 116) rfl rfl), tyX11_ok, nmX11, rfl, rfl⟩
set_option maxRecDepth 100000 in
theorem lk_X11_124 : pq_Lk RX11 124 14 24 := ⟨RX11, TX11, 47, rfl, by decide, rfl, in_X11, Or.inl (pq_gt6 (i := 117) rfl rfl)⟩
set_option maxRecDepth 100000 in
theorem lp_X11_124 : pq_Lp RX11 124 14 24 (.int) := ⟨RX11, TX11, 47, tyX11, rfl, by decide, rfl, in_X11, Or.inl (pq_gt6 (i := 117) rfl rfl), tyX11_ok, nmX11, rfl, rfl⟩
set_option maxRecDepth 100000 in
theorem lk_X11_130 : pq_Lk RX11 130 14 25 := ⟨RX11, TX11, 47, rfl, by decide, rfl, in_X11, Or.inl (pq_gt6 (i := 118) rfl rfl)⟩
set_option maxRecDepth 100000 in
theorem lf_X11_130 : pq_Lf RX11 130 14 25 (.array .int) := ⟨RX11, TX11, 47, tyX11, rfl, by decide, rfl, in_X11, pq_gt6 (i := 118) rfl rfl, tyX11_ok, nmX11, rfl, rfl, rfl⟩
set_option maxRecDepth 100000 in
theorem lk_X11_127 : pq_Lk RX11 127 14 26 := ⟨RX11, TX11, 47, rfl, by decide, rfl, in_X11, Or.inl (pq_gt6 (i := 119) rfl rfl)⟩
set_option maxRecDepth 100000 in
theorem lp_X11_127 : pq_Lp RX11 127 14 26 (.int) := ⟨RX11, TX11, 47, tyX11, rfl, by decide, rfl, in_X11, Or.inl (pq_gt6 (i := 119) rfl rfl), tyX11_ok, nmX11, rfl, rfl⟩
set_option maxRecDepth 100000 in
theorem lk_X11_162 : pq_Lk RX11 162 14 27 := ⟨RX11, TX11, 47, rfl, by decide, rfl, in_X11, Or.inl (pq_gt6 (i := 120) rfl rfl)⟩
set_option maxRecDepth 100000 in
theorem lf_X11_162 : pq_Lf RX11 162 14 27 (.array .int) := ⟨RX11, TX11, 47, tyX11, rfl, by decide, rfl, in_X11, pq_gt6 (i := 120) rfl rfl, tyX11_ok, nmX11, rfl, rfl, rfl⟩
set_option maxRecDepth 100000 in
theorem lk_X11_139 : pq_Lk RX11 139 14 28 := ⟨RX11, TX11, 47, rfl, by decide, rfl, in_X11, Or.inl (pq_gt6 (i := 121) rfl rfl)⟩
set_option maxRecDepth 100000 in
theorem lf_X11_139 : pq_Lf RX11 139 14 28 (.array .long) := ⟨RX11, TX11, 47, tyX11, rfl, by decide, rfl, in_X11, pq_gt6 (i := 121) rfl rfl, tyX11_ok, nmX11, rfl, rfl, rfl⟩
set_option maxRecDepth 100000 in
theorem lk_X11_150 : pq_Lk RX11 150 14 29 := ⟨RX11, TX11, 47, rfl, by decide, rfl, in_X11, Or.inl (pq_gt6 (i := 122) rfl rfl)⟩
set_option maxRecDepth 100000 in
theorem lf_X11_150 : pq_Lf RX11 150 14 29 (.array .int) := ⟨RX11, TX11, 47, tyX11, rfl, by decide, rfl, in_X11, pq_gt6 (i := 122) rfl rfl, tyX11_ok, nmX11, rfl, rfl, rfl⟩
set_option maxRecDepth 100000 in
theorem lk_X11_156 : pq_Lk RX11 156 14 30 := ⟨RX11, TX11, 47, rfl, by decide, rfl, in_X11, Or.inl (pq_gt6 (i := 123) rfl rfl)⟩
set_option maxRecDepth 100000 in
theorem lf_X11_156 : pq_Lf RX11 156 14 30 (.array .int) := ⟨RX11, TX11, 47, tyX11, rfl, by decide, rfl, in_X11, pq_gt6 (i := 123) rfl rfl, tyX11_ok, nmX11, rfl, rfl, rfl⟩
set_option maxRecDepth 100000 in
theorem lk_X11_171 : pq_Lk RX11 171 14 31 := ⟨RX11, TX11, 47, rfl, by decide, rfl, in_X11, Or.inl (pq_gt6 (i := 124) rfl rfl)⟩
set_option maxRecDepth 100000 in
theorem lp_X11_171 : pq_Lp RX11 171 14 31 (.boolean) := ⟨RX11, TX11, 47, tyX11, rfl, by decide, rfl, in_X11, Or.inl (pq_gt6 (i := 124) rfl rfl), tyX11_ok, nmX11, rfl, rfl⟩
set_option maxRecDepth 100000 in
theorem lk_X11_184 : pq_Lk RX11 184 14 32 := ⟨RX11, TX11, 47, rfl, by decide, rfl, in_X11, Or.inl (pq_gt6 (i := 125) rfl rfl)⟩
set_option maxRecDepth 100000 in
theorem lf_X11_184 : pq_Lf RX11 184 14 32 (.array .boolean) := ⟨RX11, TX11, 47, tyX11, rfl, by decide, rfl, in_X11, pq_gt6 (i := 125) rfl rfl, tyX11_ok, nmX11, rfl, rfl, rfl⟩
set_option maxRecDepth 100000 in
theorem lk_X11_187 : pq_Lk RX11 187 14 33 := ⟨RX11, TX11, 47, rfl, by decide, rfl, in_X11, Or.inl (pq_gt6 (i := 126) rfl rfl)⟩
set_option maxRecDepth 100000 in
theorem lf_X11_187 : pq_Lf RX11 187 14 33 (.array .int) := ⟨RX11, TX11, 47, tyX11, rfl, by decide, rfl, in_X11, pq_gt6 (i := 126) rfl rfl, tyX11_ok, nmX11, rfl, rfl, rfl⟩
set_option maxRecDepth 100000 in
theorem lk_X11_206 : pq_Lk RX11 206 14 34 := ⟨RX11, TX11, 47, rfl, by decide, rfl, in_X11, Or.inl (pq_gt6 (i := 127) rfl rfl)⟩
set_option maxRecDepth 100000 in
theorem lf_X11_206 : pq_Lf RX11 206 14 34 (.array .int) := ⟨RX11, TX11, 47, tyX11, rfl, by decide, rfl, in_X11, pq_gt6 (i := 127) rfl rfl, tyX11_ok, nmX11, rfl, rfl, rfl⟩
set_option maxRecDepth 100000 in
theorem lk_X11_199 : pq_Lk RX11 199 14 35 := ⟨RX11, TX11, 47, rfl, by decide, rfl, in_X11, Or.inl (pq_gt6 (i := 128) rfl rfl)⟩
set_option maxRecDepth 100000 in
theorem lf_X11_199 : pq_Lf RX11 199 14 35 (.array .int) := ⟨RX11, TX11, 47, tyX11, rfl, by decide, rfl, in_X11, pq_gt6 (i := 128) rfl rfl, tyX11_ok, nmX11, rfl, rfl, rfl⟩
set_option maxRecDepth 100000 in
theorem lk_X11_193 : pq_Lk RX11 193 14 36 := ⟨RX11, TX11, 47, rfl, by decide, rfl, in_X11, Or.inl (pq_gt6 (i := 129) rfl rfl)⟩
set_option maxRecDepth 100000 in
theorem lp_X11_193 : pq_Lp RX11 193 14 36 (.int) := ⟨RX11, TX11, 47, tyX11, rfl, by decide, rfl, in_X11, Or.inl (pq_gt6 (i := 129) rfl rfl), tyX11_ok, nmX11, rfl, rfl⟩
set_option maxRecDepth 100000 in
theorem lk_X11_219 : pq_Lk RX11 219 14 37 := ⟨RX11, TX11, 47, rfl, by decide, rfl, in_X11, Or.inl (pq_gt6 (i := 130) rfl rfl)⟩
set_option maxRecDepth 100000 in
theorem lf_X11_219 : pq_Lf RX11 219 14 37 (.array .int) := ⟨RX11, TX11, 47, tyX11, rfl, by decide, rfl, in_X11, pq_gt6 (i := 130) rfl rfl, tyX11_ok, nmX11, rfl, rfl, rfl⟩
set_option maxRecDepth 100000 in
theorem lk_X11_222 : pq_Lk RX11 222 14 38 := ⟨RX11, TX11, 47, rfl, by decide, rfl, in_X11, Or.inl (pq_gt6 (i := 131) rfl rfl)⟩
set_option maxRecDepth 100000 in
theorem lf_X11_222 : pq_Lf RX11 222 14 38 (.array .int) := ⟨RX11, TX11, 47, tyX11, rfl, by decide, rfl, in_X11, pq_gt6 (i := 131) rfl rfl, tyX11_ok, nmX11, rfl, rfl, rfl⟩
set_option maxRecDepth 100000 in
theorem lk_X11_225 : pq_Lk RX11 225 14 39 := ⟨RX11, TX11, 47, rfl, by decide, rfl, in_X11, Or.inl (pq_gt6 (i := 132) rfl rfl)⟩
set_option maxRecDepth 100000 in
theorem lf_X11_225 : pq_Lf RX11 225 14 39 (.array .boolean) := ⟨RX11, TX11, 47, tyX11, rfl, by decide, rfl, in_X11, pq_gt6 (i := 132) rfl rfl, tyX11_ok, nmX11, rfl, rfl, rfl⟩
set_option maxRecDepth 100000 in
theorem lk_X11_229 : pq_Lk RX11 229 14 40 := ⟨RX11, TX11, 47, rfl, by decide, rfl, in_X11, Or.inl (pq_gt6 (i := 133) rfl rfl)⟩
set_option maxRecDepth 100000 in
theorem lf_X11_229 : pq_Lf RX11 229 14 40 (.array .byte) := ⟨RX11, TX11, 47, tyX11, rfl, by decide, rfl, in_X11, pq_gt6 (i := 133) rfl rfl, tyX11_ok, nmX11, rfl, rfl, rfl⟩
set_option maxRecDepth 100000 in
theorem lk_X11_276 : pq_Lk RX11 276 14 41 := ⟨RX11, TX11, 47, rfl, by decide, rfl, in_X11, Or.inl (pq_gt6 (i := 134) rfl rfl)⟩
set_option maxRecDepth 100000 in
theorem lp_X11_276 : pq_Lp RX11 276 14 41 (.int) := ⟨RX11, TX11, 47, tyX11, rfl, by decide, rfl, in_X11, Or.inl (pq_gt6 (i := 134) rfl rfl), tyX11_ok, nmX11, rfl, rfl⟩
set_option maxRecDepth 100000 in
theorem lk_X11_232 : pq_Lk RX11 232 14 42 := ⟨RX11, TX11, 47, rfl, by decide, rfl, in_X11, Or.inl (pq_gt6 (i := 135) rfl rfl)⟩
set_option maxRecDepth 100000 in
theorem lf_X11_232 : pq_Lf RX11 232 14 42 (.array .int) := ⟨RX11, TX11, 47, tyX11, rfl, by decide, rfl, in_X11, pq_gt6 (i := 135) rfl rfl, tyX11_ok, nmX11, rfl, rfl, rfl⟩
set_option maxRecDepth 100000 in
theorem lk_X11_235 : pq_Lk RX11 235 14 43 := ⟨RX11, TX11, 47, rfl, by decide, rfl, in_X11, Or.inl (pq_gt6 (i := 136) rfl rfl)⟩
set_option maxRecDepth 100000 in
theorem lf_X11_235 : pq_Lf RX11 235 14 43 (.array .int) := ⟨RX11, TX11, 47, tyX11, rfl, by decide, rfl, in_X11, pq_gt6 (i := 136) rfl rfl, tyX11_ok, nmX11, rfl, rfl, rfl⟩
set_option maxRecDepth 100000 in
theorem lk_X11_238 : pq_Lk RX11 238 14 44 := ⟨RX11, TX11, 47, rfl, by decide, rfl, in_X11, Or.inl (pq_gt6 (i := 137) rfl rfl)⟩
set_option maxRecDepth 100000 in
theorem lf_X11_238 : pq_Lf RX11 238 14 44 (.array .byte) := ⟨RX11, TX11, 47, tyX11, rfl, by decide, rfl, in_X11, pq_gt6 (i := 137) rfl rfl, tyX11_ok, nmX11, rfl, rfl, rfl⟩
set_option maxRecDepth 100000 in
theorem lk_X11_241 : pq_Lk RX11 241 14 45 := ⟨RX11, TX11, 47, rfl, by decide, rfl, in_X11, Or.inl (pq_gt6 (i := 138) rfl rfl)⟩
set_option maxRecDepth 100000 in
theorem lf_X11_241 : pq_Lf RX11 241 14 45 (.array .long) := ⟨RX11, TX11, 47, tyX11, rfl, by decide, rfl, in_X11, pq_gt6 (i := 138) rfl rfl, tyX11_ok, nmX11, rfl, rfl, rfl⟩
set_option maxRecDepth 100000 in
theorem lk_X11_244 : pq_Lk RX11 244 14 46 := ⟨RX11, TX11, 47, rfl, by decide, rfl, in_X11, Or.inl (pq_gt6 (i := 139) rfl rfl)⟩
set_option maxRecDepth 100000 in
theorem lf_X11_244 : pq_Lf RX11 244 14 46 (.array .long) := ⟨RX11, TX11, 47, tyX11, rfl, by decide, rfl, in_X11, pq_gt6 (i := 139) rfl rfl, tyX11_ok, nmX11, rfl, rfl, rfl⟩
set_option maxRecDepth 100000 in
theorem lc_X11_217 : Cond.constant RX11 217 (51328) ∈ gtb := pq_gt5 (i := 215) rfl rfl
set_option maxRecDepth 100000 in
theorem lc_X11_218 : Cond.constant RX11 218 (102912) ∈ gtb := pq_gt5 (i := 216) rfl rfl
set_option maxRecDepth 100000 in
theorem lc_X11_228 : Cond.constant RX11 228 (161604) ∈ gtb := pq_gt5 (i := 217) rfl rfl
set_option maxRecDepth 100000 in
theorem lc_X11_68 : Cond.constantLong RX11 68 (-1) ∈ gtb := pq_gt6 (i := 40) rfl rfl
set_option maxRecDepth 100000 in
theorem lc_X11_74 : Cond.constantLong RX11 74 (-1025) ∈ gtb := pq_gt6 (i := 41) rfl rfl
set_option maxRecDepth 100000 in
theorem lc_X11_142 : Cond.constantLong RX11 142 (17) ∈ gtb := pq_gt6 (i := 67) rfl rfl
set_option maxRecDepth 100000 in
theorem lc_X11_144 : Cond.constantLong RX11 144 (31) ∈ gtb := pq_gt6 (i := 68) rfl rfl
set_option maxRecDepth 100000 in
theorem ow_X11_209 : pq_Ow RX11 209 := ⟨pq_gt5 (i := 214) rfl rfl, pq_gt1 (i := 39) rfl rfl, pq_gt1 (i := 40) rfl rfl⟩
set_option maxRecDepth 100000 in
theorem ml_X11_247 : pq_MV RX11 247 2 yX11_parsed cX11_parsed 9 ((some .int)) := ⟨ca_V_X11_parsed.1, ca_V_X11_parsed.2.1, ca_V_X11_parsed.2.2.1, ca_V_X11_parsed.2.2.2.1, ca_V_X11_parsed.2.2.2.2, Or.inl (pq_gt5 (i := 218) rfl rfl)⟩
set_option maxRecDepth 100000 in
theorem ml_X11_251 : pq_MV RX11 251 2 yX11_parse cX11_parse 8 ((some .int)) := ⟨ca_V_X11_parse.1, ca_V_X11_parse.2.1, ca_V_X11_parse.2.2.1, ca_V_X11_parse.2.2.2.1, ca_V_X11_parse.2.2.2.2, Or.inl (pq_gt5 (i := 222) rfl rfl)⟩
set_option maxRecDepth 100000 in
theorem ml_X11_91 : pq_MV RX11 91 1 yX11_land cX11_land 4 (none) := ⟨ca_V_X11_land.1, ca_V_X11_land.2.1, ca_V_X11_land.2.2.1, ca_V_X11_land.2.2.2.1, ca_V_X11_land.2.2.2.2, Or.inl (pq_gt5 (i := 226) rfl rfl)⟩
set_option maxRecDepth 100000 in
theorem ml_X11_94 : pq_MV RX11 94 3 yX11_insert cX11_insert 5 (none) := ⟨ca_V_X11_insert.1, ca_V_X11_insert.2.1, ca_V_X11_insert.2.2.1, ca_V_X11_insert.2.2.2.1, ca_V_X11_insert.2.2.2.2, Or.inl (pq_gt5 (i := 230) rfl rfl)⟩
set_option maxRecDepth 100000 in
theorem ml_X11_23 : pq_MV RX11 23 0 yX11_grow cX11_grow 1 (none) := ⟨ca_V_X11_grow.1, ca_V_X11_grow.2.1, ca_V_X11_grow.2.2.1, ca_V_X11_grow.2.2.2.1, ca_V_X11_grow.2.2.2.2, Or.inl (pq_gt5 (i := 234) rfl rfl)⟩
set_option maxRecDepth 100000 in
theorem ml_X11_14 : pq_MS RX11 14 2 yJ7_copyOf_59c91 cJ7_copyOf_59c91 3 ((some (.array .int))) := ⟨ca_S_J7_copyOf_59c91.1, ca_S_J7_copyOf_59c91.2.1, ca_S_J7_copyOf_59c91.2.2.1, ca_S_J7_copyOf_59c91.2.2.2, Or.inl (pq_gt5 (i := 238) rfl rfl)⟩
set_option maxRecDepth 100000 in
theorem ml_X11_98 : pq_MV RX11 98 2 yX11_lay cX11_lay 3 (none) := ⟨ca_V_X11_lay.1, ca_V_X11_lay.2.1, ca_V_X11_lay.2.2.1, ca_V_X11_lay.2.2.2.1, ca_V_X11_lay.2.2.2.2, Or.inl (pq_gt6 (i := 6) rfl rfl)⟩
set_option maxRecDepth 100000 in
theorem ml_X11_105 : pq_MV RX11 105 1 yX11_single cX11_single 3 ((some .boolean)) := ⟨ca_V_X11_single.1, ca_V_X11_single.2.1, ca_V_X11_single.2.2.1, ca_V_X11_single.2.2.2.1, ca_V_X11_single.2.2.2.2, Or.inl (pq_gt6 (i := 10) rfl rfl)⟩
set_option maxRecDepth 100000 in
theorem ml_X11_40 : pq_MV RX11 40 1 yX11_byteAt cX11_byteAt 2 ((some .int)) := ⟨ca_V_X11_byteAt.1, ca_V_X11_byteAt.2.1, ca_V_X11_byteAt.2.2.1, ca_V_X11_byteAt.2.2.2.1, ca_V_X11_byteAt.2.2.2.2, Or.inl (pq_gt6 (i := 14) rfl rfl)⟩
set_option maxRecDepth 100000 in
theorem ml_X11_70 : pq_MV RX11 70 1 yX11_bracket cX11_bracket 6 ((some .boolean)) := ⟨ca_V_X11_bracket.1, ca_V_X11_bracket.2.1, ca_V_X11_bracket.2.2.1, ca_V_X11_bracket.2.2.2.1, ca_V_X11_bracket.2.2.2.2, Or.inl (pq_gt6 (i := 18) rfl rfl)⟩
set_option maxRecDepth 100000 in
theorem ml_X11_61 : pq_MV RX11 61 1 yX11_member cX11_member 3 ((some .int)) := ⟨ca_V_X11_member.1, ca_V_X11_member.2.1, ca_V_X11_member.2.2.1, ca_V_X11_member.2.2.2.1, ca_V_X11_member.2.2.2.2, Or.inl (pq_gt6 (i := 22) rfl rfl)⟩
set_option maxRecDepth 100000 in
theorem ml_X11_56 : pq_MV RX11 56 1 yX11_escaped cX11_escaped 3 ((some .int)) := ⟨ca_V_X11_escaped.1, ca_V_X11_escaped.2.1, ca_V_X11_escaped.2.2.1, ca_V_X11_escaped.2.2.2.1, ca_V_X11_escaped.2.2.2.2, Or.inl (pq_gt6 (i := 26) rfl rfl)⟩
set_option maxRecDepth 100000 in
theorem ml_X11_45 : pq_MS RX11 45 2 yX11_isIn cX11_isIn 2 ((some .boolean)) := ⟨ca_S_X11_isIn.1, ca_S_X11_isIn.2.1, ca_S_X11_isIn.2.2.1, ca_S_X11_isIn.2.2.2, Or.inl (pq_gt6 (i := 31) rfl rfl)⟩
set_option maxRecDepth 100000 in
theorem ml_X11_34 : pq_MV RX11 34 1 yJ0_indexOf_0f7a4 cJ0_indexOf_0f7a4 2 ((some .int)) := ⟨ca_V_J0_indexOf_0f7a4.1, ca_V_J0_indexOf_0f7a4.2.1, ca_V_J0_indexOf_0f7a4.2.2.1, ca_V_J0_indexOf_0f7a4.2.2.2.1, ca_V_J0_indexOf_0f7a4.2.2.2.2, Or.inl (pq_gt6 (i := 34) rfl rfl)⟩
set_option maxRecDepth 100000 in
theorem ml_X11_64 : pq_MV RX11 64 1 yX11_put cX11_put 2 (none) := ⟨ca_V_X11_put.1, ca_V_X11_put.2.1, ca_V_X11_put.2.2.1, ca_V_X11_put.2.2.2.1, ca_V_X11_put.2.2.2.2, Or.inl (pq_gt6 (i := 36) rfl rfl)⟩
set_option maxRecDepth 100000 in
theorem ml_X11_254 : pq_MV RX11 254 0 yX11_build cX11_build 6 ((some .boolean)) := ⟨ca_V_X11_build.1, ca_V_X11_build.2.1, ca_V_X11_build.2.2.1, ca_V_X11_build.2.2.2.1, ca_V_X11_build.2.2.2.2, Or.inl (pq_gt6 (i := 43) rfl rfl)⟩
set_option maxRecDepth 100000 in
theorem ml_X11_165 : pq_MV RX11 165 0 yX11_begin cX11_begin 1 (none) := ⟨ca_V_X11_begin.1, ca_V_X11_begin.2.1, ca_V_X11_begin.2.2.1, ca_V_X11_begin.2.2.2.1, ca_V_X11_begin.2.2.2.2, Or.inl (pq_gt6 (i := 47) rfl rfl)⟩
set_option maxRecDepth 100000 in
theorem ml_X11_133 : pq_MV RX11 133 1 yX11_reach cX11_reach 2 (none) := ⟨ca_V_X11_reach.1, ca_V_X11_reach.2.1, ca_V_X11_reach.2.2.1, ca_V_X11_reach.2.2.2.1, ca_V_X11_reach.2.2.2.2, Or.inl (pq_gt6 (i := 51) rfl rfl)⟩
set_option maxRecDepth 100000 in
theorem ml_X11_168 : pq_MV RX11 168 0 yX11_closure cX11_closure 3 ((some .int)) := ⟨ca_V_X11_closure.1, ca_V_X11_closure.2.1, ca_V_X11_closure.2.2.1, ca_V_X11_closure.2.2.2.1, ca_V_X11_closure.2.2.2.2, Or.inl (pq_gt6 (i := 55) rfl rfl)⟩
set_option maxRecDepth 100000 in
theorem ml_X11_178 : pq_MV RX11 178 0 yX11_stateOf cX11_stateOf 3 ((some .int)) := ⟨ca_V_X11_stateOf.1, ca_V_X11_stateOf.2.1, ca_V_X11_stateOf.2.2.1, ca_V_X11_stateOf.2.2.2.1, ca_V_X11_stateOf.2.2.2.2, Or.inl (pq_gt6 (i := 59) rfl rfl)⟩
set_option maxRecDepth 100000 in
theorem ml_X11_146 : pq_MV RX11 146 0 yX11_mixture cX11_mixture 4 ((some .int)) := ⟨ca_V_X11_mixture.1, ca_V_X11_mixture.2.1, ca_V_X11_mixture.2.2.1, ca_V_X11_mixture.2.2.2.1, ca_V_X11_mixture.2.2.2.2, Or.inl (pq_gt6 (i := 63) rfl rfl)⟩
set_option maxRecDepth 100000 in
theorem ml_X11_153 : pq_MV RX11 153 1 yX11_isSet cX11_isSet 3 ((some .boolean)) := ⟨ca_V_X11_isSet.1, ca_V_X11_isSet.2.1, ca_V_X11_isSet.2.2.1, ca_V_X11_isSet.2.2.2.1, ca_V_X11_isSet.2.2.2.2, Or.inl (pq_gt6 (i := 69) rfl rfl)⟩
set_option maxRecDepth 100000 in
theorem ml_X11_258 : pq_MV RX11 258 0 yX11_findLiving cX11_findLiving 4 (none) := ⟨ca_V_X11_findLiving.1, ca_V_X11_findLiving.2.1, ca_V_X11_findLiving.2.2.1, ca_V_X11_findLiving.2.2.2.1, ca_V_X11_findLiving.2.2.2.2, Or.inl (pq_gt6 (i := 73) rfl rfl)⟩
set_option maxRecDepth 100000 in
theorem ml_X11_261 : pq_MV RX11 261 0 yX11_findKinds cX11_findKinds 5 (none) := ⟨ca_V_X11_findKinds.1, ca_V_X11_findKinds.2.1, ca_V_X11_findKinds.2.2.1, ca_V_X11_findKinds.2.2.2.1, ca_V_X11_findKinds.2.2.2.2, Or.inl (pq_gt6 (i := 77) rfl rfl)⟩
set_option maxRecDepth 100000 in
theorem ml_X11_196 : pq_MV RX11 196 1 yX11_mixtureOf cX11_mixtureOf 4 ((some .int)) := ⟨ca_V_X11_mixtureOf.1, ca_V_X11_mixtureOf.2.1, ca_V_X11_mixtureOf.2.2.1, ca_V_X11_mixtureOf.2.2.2.1, ca_V_X11_mixtureOf.2.2.2.2, Or.inl (pq_gt6 (i := 81) rfl rfl)⟩
set_option maxRecDepth 100000 in
theorem ml_X11_190 : pq_MV RX11 190 1 yX11_kindOf cX11_kindOf 2 ((some .int)) := ⟨ca_V_X11_kindOf.1, ca_V_X11_kindOf.2.1, ca_V_X11_kindOf.2.2.1, ca_V_X11_kindOf.2.2.2.1, ca_V_X11_kindOf.2.2.2.2, Or.inl (pq_gt6 (i := 85) rfl rfl)⟩
set_option maxRecDepth 100000 in
theorem ml_X11_202 : pq_MV RX11 202 2 yX11_isAlike cX11_isAlike 4 ((some .boolean)) := ⟨ca_V_X11_isAlike.1, ca_V_X11_isAlike.2.1, ca_V_X11_isAlike.2.2.1, ca_V_X11_isAlike.2.2.2.1, ca_V_X11_isAlike.2.2.2.2, Or.inl (pq_gt6 (i := 89) rfl rfl)⟩
set_option maxRecDepth 100000 in
theorem ml_X11_267 : pq_MV RX11 267 1 yX11_refuse cX11_refuse 2 ((some .int)) := ⟨ca_V_X11_refuse.1, ca_V_X11_refuse.2.1, ca_V_X11_refuse.2.2.1, ca_V_X11_refuse.2.2.2.1, ca_V_X11_refuse.2.2.2.2, Or.inl (pq_gt6 (i := 239) rfl rfl)⟩
set_option maxRecDepth 100000 in
theorem ml_X11_270 : pq_MV RX11 270 1 yX11_four cX11_four 3 (none) := ⟨ca_V_X11_four.1, ca_V_X11_four.2.1, ca_V_X11_four.2.2.1, ca_V_X11_four.2.2.2.1, ca_V_X11_four.2.2.2.2, Or.inl (pq_gt7 (i := 3) rfl rfl)⟩
set_option maxRecDepth 100000 in
theorem ml_X11_273 : pq_MV RX11 273 0 yX11_take cX11_take 2 ((some .int)) := ⟨ca_V_X11_take.1, ca_V_X11_take.2.1, ca_V_X11_take.2.2.1, ca_V_X11_take.2.2.2.1, ca_V_X11_take.2.2.2.2, Or.inl (pq_gt7 (i := 15) rfl rfl)⟩
set_option maxRecDepth 100000 in
theorem ml_X11_279 : pq_MV RX11 279 2 yX11_is cX11_is 5 ((some .boolean)) := ⟨ca_V_X11_is.1, ca_V_X11_is.2.1, ca_V_X11_is.2.2.1, ca_V_X11_is.2.2.2.1, ca_V_X11_is.2.2.2.2, Or.inl (pq_gt7 (i := 31) rfl rfl)⟩
set_option maxRecDepth 100000 in
theorem ml_X11_282 : pq_MV RX11 282 1 yX11_tell cX11_tell 4 ((some .int)) := ⟨ca_V_X11_tell.1, ca_V_X11_tell.2.1, ca_V_X11_tell.2.2.1, ca_V_X11_tell.2.2.2.1, ca_V_X11_tell.2.2.2.2, Or.inl (pq_gt7 (i := 35) rfl rfl)⟩
