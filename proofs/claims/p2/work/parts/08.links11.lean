theorem pq_gt1 {i : Nat} {w : Cond} (h : tables_1_1[i]? = some w) (hg : goodWord w = true) : w ∈ gtb := by
  have h1 : w ∈ tables_1_1 := List.mem_of_getElem? h
  exact List.mem_filter.mpr ⟨List.mem_append_right _ (List.mem_append_left _ h1), hg⟩
theorem pq_nt1 {i : Nat} {w : Cond} (h : tables_1_1[i]? = some w) (hg : pq_nest w = true) : w ∈ ntb := by
  have h1 : w ∈ tables_1_1 := List.mem_of_getElem? h
  exact List.mem_filter.mpr ⟨List.mem_append_right _ (List.mem_append_left _ h1), hg⟩
theorem pq_gt2 {i : Nat} {w : Cond} (h : tables_1_2[i]? = some w) (hg : goodWord w = true) : w ∈ gtb := by
  have h1 : w ∈ tables_1_2 := List.mem_of_getElem? h
  exact List.mem_filter.mpr ⟨List.mem_append_right _ (List.mem_append_right _ (List.mem_append_left _ h1)), hg⟩
theorem pq_nt2 {i : Nat} {w : Cond} (h : tables_1_2[i]? = some w) (hg : pq_nest w = true) : w ∈ ntb := by
  have h1 : w ∈ tables_1_2 := List.mem_of_getElem? h
  exact List.mem_filter.mpr ⟨List.mem_append_right _ (List.mem_append_right _ (List.mem_append_left _ h1)), hg⟩
theorem pq_gt3 {i : Nat} {w : Cond} (h : tables_1_3[i]? = some w) (hg : goodWord w = true) : w ∈ gtb := by
  have h1 : w ∈ tables_1_3 := List.mem_of_getElem? h
  exact List.mem_filter.mpr ⟨List.mem_append_right _ (List.mem_append_right _ (List.mem_append_right _ (List.mem_append_left _ h1))), hg⟩
theorem pq_nt3 {i : Nat} {w : Cond} (h : tables_1_3[i]? = some w) (hg : pq_nest w = true) : w ∈ ntb := by
  have h1 : w ∈ tables_1_3 := List.mem_of_getElem? h
  exact List.mem_filter.mpr ⟨List.mem_append_right _ (List.mem_append_right _ (List.mem_append_right _ (List.mem_append_left _ h1))), hg⟩
theorem pq_gt4 {i : Nat} {w : Cond} (h : tables_1_4[i]? = some w) (hg : goodWord w = true) : w ∈ gtb := by
  have h1 : w ∈ tables_1_4 := List.mem_of_getElem? h
  exact List.mem_filter.mpr ⟨List.mem_append_right _ (List.mem_append_right _ (List.mem_append_right _ (List.mem_append_right _ (List.mem_append_left _ h1)))), hg⟩
theorem pq_nt4 {i : Nat} {w : Cond} (h : tables_1_4[i]? = some w) (hg : pq_nest w = true) : w ∈ ntb := by
  have h1 : w ∈ tables_1_4 := List.mem_of_getElem? h
  exact List.mem_filter.mpr ⟨List.mem_append_right _ (List.mem_append_right _ (List.mem_append_right _ (List.mem_append_right _ (List.mem_append_left _ h1)))), hg⟩
theorem pq_gt5 {i : Nat} {w : Cond} (h : tables_1_5[i]? = some w) (hg : goodWord w = true) : w ∈ gtb := by
  have h1 : w ∈ tables_1_5 := List.mem_of_getElem? h
  exact List.mem_filter.mpr ⟨List.mem_append_right _ (List.mem_append_right _ (List.mem_append_right _ (List.mem_append_right _ (List.mem_append_right _ (List.mem_append_left _ h1))))), hg⟩
theorem pq_nt5 {i : Nat} {w : Cond} (h : tables_1_5[i]? = some w) (hg : pq_nest w = true) : w ∈ ntb := by
  have h1 : w ∈ tables_1_5 := List.mem_of_getElem? h
  exact List.mem_filter.mpr ⟨List.mem_append_right _ (List.mem_append_right _ (List.mem_append_right _ (List.mem_append_right _ (List.mem_append_right _ (List.mem_append_left _ h1))))), hg⟩
theorem pq_gt6 {i : Nat} {w : Cond} (h : tables_1_6[i]? = some w) (hg : goodWord w = true) : w ∈ gtb := by
  have h1 : w ∈ tables_1_6 := List.mem_of_getElem? h
  exact List.mem_filter.mpr ⟨List.mem_append_right _ (List.mem_append_right _ (List.mem_append_right _ (List.mem_append_right _ (List.mem_append_right _ (List.mem_append_right _ (List.mem_append_left _ h1)))))), hg⟩
theorem pq_nt6 {i : Nat} {w : Cond} (h : tables_1_6[i]? = some w) (hg : pq_nest w = true) : w ∈ ntb := by
  have h1 : w ∈ tables_1_6 := List.mem_of_getElem? h
  exact List.mem_filter.mpr ⟨List.mem_append_right _ (List.mem_append_right _ (List.mem_append_right _ (List.mem_append_right _ (List.mem_append_right _ (List.mem_append_right _ (List.mem_append_left _ h1)))))), hg⟩
theorem pq_gt7 {i : Nat} {w : Cond} (h : tables_1_7[i]? = some w) (hg : goodWord w = true) : w ∈ gtb := by
  have h1 : w ∈ tables_1_7 := List.mem_of_getElem? h
  exact List.mem_filter.mpr ⟨List.mem_append_right _ (List.mem_append_right _ (List.mem_append_right _ (List.mem_append_right _ (List.mem_append_right _ (List.mem_append_right _ (List.mem_append_right _ h1)))))), hg⟩
theorem pq_nt7 {i : Nat} {w : Cond} (h : tables_1_7[i]? = some w) (hg : pq_nest w = true) : w ∈ ntb := by
  have h1 : w ∈ tables_1_7 := List.mem_of_getElem? h
  exact List.mem_filter.mpr ⟨List.mem_append_right _ (List.mem_append_right _ (List.mem_append_right _ (List.mem_append_right _ (List.mem_append_right _ (List.mem_append_right _ (List.mem_append_right _ h1)))))), hg⟩
set_option maxRecDepth 100000 in
theorem ac_byte : Cond.arrayClass .byte ∈ gtb := pq_gt1 (i := 57) rfl rfl
set_option maxRecDepth 100000 in
theorem ac_int : Cond.arrayClass .int ∈ gtb := pq_gt1 (i := 177) rfl rfl
set_option maxRecDepth 100000 in
theorem ac_long : Cond.arrayClass .long ∈ gtb := pq_gt1 (i := 86) rfl rfl
set_option maxRecDepth 100000 in
theorem ac_boolean : Cond.arrayClass .boolean ∈ gtb := pq_gt2 (i := 51) rfl rfl
def ix_X11 : List Nat := [1340, 1342, 1344, 1346, 1348, 1350, 1352, 1354, 1356, 1358, 1360, 1362, 1364, 1366, 1368, 1370, 1372, 1374, 1376, 1378, 1380, 1382, 1384, 1386, 1388, 1390, 1392, 1394, 1396, 1398, 1400, 1402, 1404, 1406, 1408, 1410, 1412, 1414, 1416, 1418, 1420, 1422, 1424, 1426, 1428, 1430, 1432]
set_option maxRecDepth 100000 in
theorem ixa_X11 : ∀ k, k < 47 → tables_1[ix_X11.getD k 0]? = some (u_lay RX11 TX11 k) := by decide +kernel
set_option maxRecDepth 100000 in
theorem ixg_X11 : ∀ k, k < 47 → goodWord (u_lay RX11 TX11 k) = true := by decide +kernel
theorem in_X11 : ∀ w ∈ u_ws RX11 TX11 47, w ∈ gtb := by
  intro w hw
  obtain ⟨k, hk, rfl⟩ := List.mem_map.mp hw
  exact pq_g1 (ixa_X11 k (List.mem_range.mp hk)) (ixg_X11 k (List.mem_range.mp hk))
set_option maxRecDepth 100000 in
theorem lk_X11_30 : pq_Lk RX11 30 14 0 := ⟨RX11, TX11, 47, rfl, by decide, rfl, in_X11, Or.inl (pq_gt6 (i := 93) rfl rfl)⟩
set_option maxRecDepth 100000 in
theorem lf_X11_30 : pq_Lf RX11 30 14 0 (.array .byte) := ⟨RX11, TX11, 47, tyX11, rfl, by decide, rfl, in_X11, pq_gt6 (i := 93) rfl rfl, tyX11_ok, nmX11, rfl, rfl, rfl⟩
set_option maxRecDepth 100000 in
theorem lk_X11_264 : pq_Lk RX11 264 14 1 := ⟨RX11, TX11, 47, rfl, by decide, rfl, in_X11, Or.inl (pq_gt6 (i := 94) rfl rfl)⟩
set_option maxRecDepth 100000 in
theorem lp_X11_264 : pq_Lp RX11 264 14 1 (.int) := ⟨RX11, TX11, 47, tyX11, rfl, by decide, rfl, in_X11, Or.inl (pq_gt6 (i := 94) rfl rfl), tyX11_ok, nmX11, rfl, rfl⟩
set_option maxRecDepth 100000 in
theorem lk_X11_214 : pq_Lk RX11 214 14 2 := ⟨RX11, TX11, 47, rfl, by decide, rfl, in_X11, Or.inl (pq_gt6 (i := 95) rfl rfl)⟩
set_option maxRecDepth 100000 in
theorem lp_X11_214 : pq_Lp RX11 214 14 2 (.int) := ⟨RX11, TX11, 47, tyX11, rfl, by decide, rfl, in_X11, Or.inl (pq_gt6 (i := 95) rfl rfl), tyX11_ok, nmX11, rfl, rfl⟩
set_option maxRecDepth 100000 in
theorem lk_X11_3 : pq_Lk RX11 3 14 3 := ⟨RX11, TX11, 47, rfl, by decide, rfl, in_X11, Or.inl (pq_gt6 (i := 96) rfl rfl)⟩
set_option maxRecDepth 100000 in
theorem lp_X11_3 : pq_Lp RX11 3 14 3 (.int) := ⟨RX11, TX11, 47, tyX11, rfl, by decide, rfl, in_X11, Or.inl (pq_gt6 (i := 96) rfl rfl), tyX11_ok, nmX11, rfl, rfl⟩
set_option maxRecDepth 100000 in
theorem lk_X11_10 : pq_Lk RX11 10 14 4 := ⟨RX11, TX11, 47, rfl, by decide, rfl, in_X11, Or.inl (pq_gt6 (i := 97) rfl rfl)⟩
set_option maxRecDepth 100000 in
theorem lp_X11_10 : pq_Lp RX11 10 14 4 (.array .int) := ⟨RX11, TX11, 47, tyX11, rfl, by decide, rfl, in_X11, Or.inl (pq_gt6 (i := 97) rfl rfl), tyX11_ok, nmX11, rfl, rfl⟩
set_option maxRecDepth 100000 in
theorem lk_X11_20 : pq_Lk RX11 20 14 5 := ⟨RX11, TX11, 47, rfl, by decide, rfl, in_X11, Or.inl (pq_gt6 (i := 98) rfl rfl)⟩
set_option maxRecDepth 100000 in
theorem lp_X11_20 : pq_Lp RX11 20 14 5 (.array .int) := ⟨RX11, TX11, 47, tyX11, rfl, by decide, rfl, in_X11, Or.inl (pq_gt6 (i := 98) rfl rfl), tyX11_ok, nmX11, rfl, rfl⟩
set_option maxRecDepth 100000 in
theorem lk_X11_7 : pq_Lk RX11 7 14 6 := ⟨RX11, TX11, 47, rfl, by decide, rfl, in_X11, Or.inl (pq_gt6 (i := 99) rfl rfl)⟩
set_option maxRecDepth 100000 in
theorem lp_X11_7 : pq_Lp RX11 7 14 6 (.int) := ⟨RX11, TX11, 47, tyX11, rfl, by decide, rfl, in_X11, Or.inl (pq_gt6 (i := 99) rfl rfl), tyX11_ok, nmX11, rfl, rfl⟩
set_option maxRecDepth 100000 in
theorem lk_X11_108 : pq_Lk RX11 108 14 7 := ⟨RX11, TX11, 47, rfl, by decide, rfl, in_X11, Or.inl (pq_gt6 (i := 100) rfl rfl)⟩
set_option maxRecDepth 100000 in
theorem lp_X11_108 : pq_Lp RX11 108 14 7 (.array .long) := ⟨RX11, TX11, 47, tyX11, rfl, by decide, rfl, in_X11, Or.inl (pq_gt6 (i := 100) rfl rfl), tyX11_ok, nmX11, rfl, rfl⟩
set_option maxRecDepth 100000 in
theorem lk_X11_112 : pq_Lk RX11 112 14 8 := ⟨RX11, TX11, 47, rfl, by decide, rfl, in_X11, Or.inl (pq_gt6 (i := 101) rfl rfl)⟩
set_option maxRecDepth 100000 in
theorem lp_X11_112 : pq_Lp RX11 112 14 8 (.array .long) := ⟨RX11, TX11, 47, tyX11, rfl, by decide, rfl, in_X11, Or.inl (pq_gt6 (i := 101) rfl rfl), tyX11_ok, nmX11, rfl, rfl⟩
set_option maxRecDepth 100000 in
theorem lk_X11_102 : pq_Lk RX11 102 14 9 := ⟨RX11, TX11, 47, rfl, by decide, rfl, in_X11, Or.inl (pq_gt6 (i := 102) rfl rfl)⟩
set_option maxRecDepth 100000 in
theorem lp_X11_102 : pq_Lp RX11 102 14 9 (.int) := ⟨RX11, TX11, 47, tyX11, rfl, by decide, rfl, in_X11, Or.inl (pq_gt6 (i := 102) rfl rfl), tyX11_ok, nmX11, rfl, rfl⟩
set_option maxRecDepth 100000 in
theorem lk_X11_27 : pq_Lk RX11 27 14 10 := ⟨RX11, TX11, 47, rfl, by decide, rfl, in_X11, Or.inl (pq_gt6 (i := 103) rfl rfl)⟩
set_option maxRecDepth 100000 in
theorem lp_X11_27 : pq_Lp RX11 27 14 10 (.int) := ⟨RX11, TX11, 47, tyX11, rfl, by decide, rfl, in_X11, Or.inl (pq_gt6 (i := 103) rfl rfl), tyX11_ok, nmX11, rfl, rfl⟩
set_option maxRecDepth 100000 in
theorem lk_X11_49 : pq_Lk RX11 49 14 11 := ⟨RX11, TX11, 47, rfl, by decide, rfl, in_X11, Or.inl (pq_gt6 (i := 104) rfl rfl)⟩
set_option maxRecDepth 100000 in
theorem lp_X11_49 : pq_Lp RX11 49 14 11 (.long) := ⟨RX11, TX11, 47, tyX11, rfl, by decide, rfl, in_X11, Or.inl (pq_gt6 (i := 104) rfl rfl), tyX11_ok, nmX11, rfl, rfl⟩
set_option maxRecDepth 100000 in
theorem lk_X11_53 : pq_Lk RX11 53 14 12 := ⟨RX11, TX11, 47, rfl, by decide, rfl, in_X11, Or.inl (pq_gt6 (i := 105) rfl rfl)⟩
set_option maxRecDepth 100000 in
theorem lp_X11_53 : pq_Lp RX11 53 14 12 (.long) := ⟨RX11, TX11, 47, tyX11, rfl, by decide, rfl, in_X11, Or.inl (pq_gt6 (i := 105) rfl rfl), tyX11_ok, nmX11, rfl, rfl⟩
set_option maxRecDepth 100000 in
theorem lk_X11_85 : pq_Lk RX11 85 14 13 := ⟨RX11, TX11, 47, rfl, by decide, rfl, in_X11, Or.inl (pq_gt6 (i := 106) rfl rfl)⟩
set_option maxRecDepth 100000 in
theorem lf_X11_85 : pq_Lf RX11 85 14 13 (.array .int) := ⟨RX11, TX11, 47, tyX11, rfl, by decide, rfl, in_X11, pq_gt6 (i := 106) rfl rfl, tyX11_ok, nmX11, rfl, rfl, rfl⟩
set_option maxRecDepth 100000 in
theorem lk_X11_88 : pq_Lk RX11 88 14 14 := ⟨RX11, TX11, 47, rfl, by decide, rfl, in_X11, Or.inl (pq_gt6 (i := 107) rfl rfl)⟩
set_option maxRecDepth 100000 in
theorem lf_X11_88 : pq_Lf RX11 88 14 14 (.array .int) := ⟨RX11, TX11, 47, tyX11, rfl, by decide, rfl, in_X11, pq_gt6 (i := 107) rfl rfl, tyX11_ok, nmX11, rfl, rfl, rfl⟩
set_option maxRecDepth 100000 in
theorem lk_X11_78 : pq_Lk RX11 78 14 15 := ⟨RX11, TX11, 47, rfl, by decide, rfl, in_X11, Or.inl (pq_gt6 (i := 108) rfl rfl)⟩
set_option maxRecDepth 100000 in
theorem lf_X11_78 : pq_Lf RX11 78 14 15 (.array .int) := ⟨RX11, TX11, 47, tyX11, rfl, by decide, rfl, in_X11, pq_gt6 (i := 108) rfl rfl, tyX11_ok, nmX11, rfl, rfl, rfl⟩
set_option maxRecDepth 100000 in
theorem lk_X11_81 : pq_Lk RX11 81 14 16 := ⟨RX11, TX11, 47, rfl, by decide, rfl, in_X11, Or.inl (pq_gt6 (i := 109) rfl rfl)⟩
set_option maxRecDepth 100000 in
theorem lf_X11_81 : pq_Lf RX11 81 14 16 (.array .boolean) := ⟨RX11, TX11, 47, tyX11, rfl, by decide, rfl, in_X11, pq_gt6 (i := 109) rfl rfl, tyX11_ok, nmX11, rfl, rfl, rfl⟩
set_option maxRecDepth 100000 in
theorem lk_X11_136 : pq_Lk RX11 136 14 17 := ⟨RX11, TX11, 47, rfl, by decide, rfl, in_X11, Or.inl (pq_gt6 (i := 110) rfl rfl)⟩
set_option maxRecDepth 100000 in
theorem lf_X11_136 : pq_Lf RX11 136 14 17 (.array .long) := ⟨RX11, TX11, 47, tyX11, rfl, by decide, rfl, in_X11, pq_gt6 (i := 110) rfl rfl, tyX11_ok, nmX11, rfl, rfl, rfl⟩
set_option maxRecDepth 100000 in
theorem lk_X11_175 : pq_Lk RX11 175 14 18 := ⟨RX11, TX11, 47, rfl, by decide, rfl, in_X11, Or.inl (pq_gt6 (i := 111) rfl rfl)⟩
set_option maxRecDepth 100000 in
theorem lf_X11_175 : pq_Lf RX11 175 14 18 (.array .int) := ⟨RX11, TX11, 47, tyX11, rfl, by decide, rfl, in_X11, pq_gt6 (i := 111) rfl rfl, tyX11_ok, nmX11, rfl, rfl, rfl⟩
set_option maxRecDepth 100000 in
theorem lk_X11_181 : pq_Lk RX11 181 14 19 := ⟨RX11, TX11, 47, rfl, by decide, rfl, in_X11, Or.inl (pq_gt6 (i := 112) rfl rfl)⟩
set_option maxRecDepth 100000 in
theorem lf_X11_181 : pq_Lf RX11 181 14 19 (.array .int) := ⟨RX11, TX11, 47, tyX11, rfl, by decide, rfl, in_X11, pq_gt6 (i := 112) rfl rfl, tyX11_ok, nmX11, rfl, rfl, rfl⟩
set_option maxRecDepth 100000 in
theorem lk_X11_159 : pq_Lk RX11 159 14 20 := ⟨RX11, TX11, 47, rfl, by decide, rfl, in_X11, Or.inl (pq_gt6 (i := 113) rfl rfl)⟩
set_option maxRecDepth 100000 in
theorem lp_X11_159 : pq_Lp RX11 159 14 20 (.int) := ⟨RX11, TX11, 47, tyX11, rfl, by decide, rfl, in_X11, Or.inl (pq_gt6 (i := 113) rfl rfl), tyX11_ok, nmX11, rfl, rfl⟩
set_option maxRecDepth 100000 in
theorem lk_X11_115 : pq_Lk RX11 115 14 21 := ⟨RX11, TX11, 47, rfl, by decide, rfl, in_X11, Or.inl (pq_gt6 (i := 114) rfl rfl)⟩
set_option maxRecDepth 100000 in
theorem lp_X11_115 : pq_Lp RX11 115 14 21 (.array .int) := ⟨RX11, TX11, 47, tyX11, rfl, by decide, rfl, in_X11, Or.inl (pq_gt6 (i := 114) rfl rfl), tyX11_ok, nmX11, rfl, rfl⟩
set_option maxRecDepth 100000 in
theorem lk_X11_121 : pq_Lk RX11 121 14 22 := ⟨RX11, TX11, 47, rfl, by decide, rfl, in_X11, Or.inl (pq_gt6 (i := 115) rfl rfl)⟩
set_option maxRecDepth 100000 in
theorem lp_X11_121 : pq_Lp RX11 121 14 22 (.array .int) := ⟨RX11, TX11, 47, tyX11, rfl, by decide, rfl, in_X11, Or.inl (pq_gt6 (i := 115) rfl rfl), tyX11_ok, nmX11, rfl, rfl⟩
set_option maxRecDepth 100000 in
theorem lk_X11_118 : pq_Lk RX11 118 14 23 := ⟨RX11, TX11, 47, rfl, by decide, rfl, in_X11, Or.inl (pq_gt6 (i := 116) rfl rfl)⟩
set_option maxRecDepth 100000 in
theorem lp_X11_118 : pq_Lp RX11 118 14 23 (.int) := ⟨RX11, TX11, 47, tyX11, rfl, by decide, rfl, in_X11, Or.inl (pq_gt6 (i := 116) rfl rfl), tyX11_ok, nmX11, rfl, rfl⟩
set_option maxRecDepth 100000 in
theorem lk_X11_124 : pq_Lk RX11 124 14 24 := ⟨RX11, TX11, 47, rfl, by decide, rfl, in_X11, Or.inl (pq_gt6 (i := 117) rfl rfl)⟩
set_option maxRecDepth 100000 in
theorem lp_X11_124 : pq_Lp RX11 124 14 24 (.int) := ⟨RX11, TX11, 47, tyX11, rfl, by decide, rfl, in_X11, Or.inl (pq_gt6 (i := 117) rfl rfl), tyX11_ok, nmX11, rfl, rfl⟩
set_option maxRecDepth 100000 in
theorem lk_X11_130 : pq_Lk RX11 130 14 25 := ⟨RX11, TX11, 47, rfl, by decide, rfl, in_X11, Or.inl (pq_gt6 (i := 118) rfl rfl)⟩
set_option maxRecDepth 100000 in
theorem lf_X11_130 : pq_Lf RX11 130 14 25 (.array .int) := ⟨RX11, TX11, 47, tyX11, rfl, by decide, rfl, in_X11, pq_gt6 (i := 118) rfl rfl, tyX11_ok, nmX11, rfl, rfl, rfl⟩
set_option maxRecDepth 100000 in
theorem lk_X11_127 : pq_Lk RX11 127 14 26 := ⟨RX11, TX11, 47, rfl, by decide, rfl, in_X11, Or.inl (pq_gt6 (i := 119) rfl rfl)⟩
set_option maxRecDepth 100000 in
theorem lp_X11_127 : pq_Lp RX11 127 14 26 (.int) := ⟨RX11, TX11, 47, tyX11, rfl, by decide, rfl, in_X11, Or.inl (pq_gt6 (i := 119) rfl rfl), tyX11_ok, nmX11, rfl, rfl⟩
set_option maxRecDepth 100000 in
theorem lk_X11_162 : pq_Lk RX11 162 14 27 := ⟨RX11, TX11, 47, rfl, by decide, rfl, in_X11, Or.inl (pq_gt6 (i := 120) rfl rfl)⟩
set_option maxRecDepth 100000 in
theorem lf_X11_162 : pq_Lf RX11 162 14 27 (.array .int) := ⟨RX11, TX11, 47, tyX11, rfl, by decide, rfl, in_X11, pq_gt6 (i := 120) rfl rfl, tyX11_ok, nmX11, rfl, rfl, rfl⟩
set_option maxRecDepth 100000 in
theorem lk_X11_139 : pq_Lk RX11 139 14 28 := ⟨RX11, TX11, 47, rfl, by decide, rfl, in_X11, Or.inl (pq_gt6 (i := 121) rfl rfl)⟩
set_option maxRecDepth 100000 in
theorem lf_X11_139 : pq_Lf RX11 139 14 28 (.array .long) := ⟨RX11, TX11, 47, tyX11, rfl, by decide, rfl, in_X11, pq_gt6 (i := 121) rfl rfl, tyX11_ok, nmX11, rfl, rfl, rfl⟩
set_option maxRecDepth 100000 in
theorem lk_X11_150 : pq_Lk RX11 150 14 29 := ⟨RX11, TX11, 47, rfl, by decide, rfl, in_X11, Or.inl (pq_gt6 (i := 122) rfl rfl)⟩
set_option maxRecDepth 100000 in
theorem lf_X11_150 : pq_Lf RX11 150 14 29 (.array .int) := ⟨RX11, TX11, 47, tyX11, rfl, by decide, rfl, in_X11, pq_gt6 (i := 122) rfl rfl, tyX11_ok, nmX11, rfl, rfl, rfl⟩
set_option maxRecDepth 100000 in
theorem lk_X11_156 : pq_Lk RX11 156 14 30 := ⟨RX11, TX11, 47, rfl, by decide, rfl, in_X11, Or.inl (pq_gt6 (i := 123) rfl rfl)⟩
set_option maxRecDepth 100000 in
theorem lf_X11_156 : pq_Lf RX11 156 14 30 (.array .int) := ⟨RX11, TX11, 47, tyX11, rfl, by decide, rfl, in_X11, pq_gt6 (i := 123) rfl rfl, tyX11_ok, nmX11, rfl, rfl, rfl⟩
set_option maxRecDepth 100000 in
theorem lk_X11_171 : pq_Lk RX11 171 14 31 := ⟨RX11, TX11, 47, rfl, by decide, rfl, in_X11, Or.inl (pq_gt6 (i := 124) rfl rfl)⟩
set_option maxRecDepth 100000 in
theorem lp_X11_171 : pq_Lp RX11 171 14 31 (.boolean) := ⟨RX11, TX11, 47, tyX11, rfl, by decide, rfl, in_X11, Or.inl (pq_gt6 (i := 124) rfl rfl), tyX11_ok, nmX11, rfl, rfl⟩
set_option maxRecDepth 100000 in
theorem lk_X11_184 : pq_Lk RX11 184 14 32 := ⟨RX11, TX11, 47, rfl, by decide, rfl, in_X11, Or.inl (pq_gt6 (i := 125) rfl rfl)⟩
set_option maxRecDepth 100000 in
theorem lf_X11_184 : pq_Lf RX11 184 14 32 (.array .boolean) := ⟨RX11, TX11, 47, tyX11, rfl, by decide, rfl, in_X11, pq_gt6 (i := 125) rfl rfl, tyX11_ok, nmX11, rfl, rfl, rfl⟩
set_option maxRecDepth 100000 in
theorem lk_X11_187 : pq_Lk RX11 187 14 33 := ⟨RX11, TX11, 47, rfl, by decide, rfl, in_X11, Or.inl (pq_gt6 (i := 126) rfl rfl)⟩
set_option maxRecDepth 100000 in
theorem lf_X11_187 : pq_Lf RX11 187 14 33 (.array .int) := ⟨RX11, TX11, 47, tyX11, rfl, by decide, rfl, in_X11, pq_gt6 (i := 126) rfl rfl, tyX11_ok, nmX11, rfl, rfl, rfl⟩
set_option maxRecDepth 100000 in
theorem lk_X11_206 : pq_Lk RX11 206 14 34 := ⟨RX11, TX11, 47, rfl, by decide, rfl, in_X11, Or.inl (pq_gt6 (i := 127) rfl rfl)⟩
set_option maxRecDepth 100000 in
theorem lf_X11_206 : pq_Lf RX11 206 14 34 (.array .int) := ⟨RX11, TX11, 47, tyX11, rfl, by decide, rfl, in_X11, pq_gt6 (i := 127) rfl rfl, tyX11_ok, nmX11, rfl, rfl, rfl⟩
set_option maxRecDepth 100000 in
theorem lk_X11_199 : pq_Lk RX11 199 14 35 := ⟨RX11, TX11, 47, rfl, by decide, rfl, in_X11, Or.inl (pq_gt6 (i := 128) rfl rfl)⟩
set_option maxRecDepth 100000 in
theorem lf_X11_199 : pq_Lf RX11 199 14 35 (.array .int) := ⟨RX11, TX11, 47, tyX11, rfl, by decide, rfl, in_X11, pq_gt6 (i := 128) rfl rfl, tyX11_ok, nmX11, rfl, rfl, rfl⟩
set_option maxRecDepth 100000 in
theorem lk_X11_193 : pq_Lk RX11 193 14 36 := ⟨RX11, TX11, 47, rfl, by decide, rfl, in_X11, Or.inl (pq_gt6 (i := 129) rfl rfl)⟩
set_option maxRecDepth 100000 in
theorem lp_X11_193 : pq_Lp RX11 193 14 36 (.int) := ⟨RX11, TX11, 47, tyX11, rfl, by decide, rfl, in_X11, Or.inl (pq_gt6 (i := 129) rfl rfl), tyX11_ok, nmX11, rfl, rfl⟩
set_option maxRecDepth 100000 in
theorem lk_X11_219 : pq_Lk RX11 219 14 37 := ⟨RX11, TX11, 47, rfl, by decide, rfl, in_X11, Or.inl (pq_gt6 (i := 130) rfl rfl)⟩
set_option maxRecDepth 100000 in
theorem lf_X11_219 : pq_Lf RX11 219 14 37 (.array .int) := ⟨RX11, TX11, 47, tyX11, rfl, by decide, rfl, in_X11, pq_gt6 (i := 130) rfl rfl, tyX11_ok, nmX11, rfl, rfl, rfl⟩
set_option maxRecDepth 100000 in
theorem lk_X11_222 : pq_Lk RX11 222 14 38 := ⟨RX11, TX11, 47, rfl, by decide, rfl, in_X11, Or.inl (pq_gt6 (i := 131) rfl rfl)⟩
set_option maxRecDepth 100000 in
theorem lf_X11_222 : pq_Lf RX11 222 14 38 (.array .int) := ⟨RX11, TX11, 47, tyX11, rfl, by decide, rfl, in_X11, pq_gt6 (i := 131) rfl rfl, tyX11_ok, nmX11, rfl, rfl, rfl⟩
set_option maxRecDepth 100000 in
theorem lk_X11_225 : pq_Lk RX11 225 14 39 := ⟨RX11, TX11, 47, rfl, by decide, rfl, in_X11, Or.inl (pq_gt6 (i := 132) rfl rfl)⟩
set_option maxRecDepth 100000 in
theorem lf_X11_225 : pq_Lf RX11 225 14 39 (.array .boolean) := ⟨RX11, TX11, 47, tyX11, rfl, by decide, rfl, in_X11, pq_gt6 (i := 132) rfl rfl, tyX11_ok, nmX11, rfl, rfl, rfl⟩
set_option maxRecDepth 100000 in
theorem lk_X11_229 : pq_Lk RX11 229 14 40 := ⟨RX11, TX11, 47, rfl, by decide, rfl, in_X11, Or.inl (pq_gt6 (i := 133) rfl rfl)⟩
set_option maxRecDepth 100000 in
theorem lf_X11_229 : pq_Lf RX11 229 14 40 (.array .byte) := ⟨RX11, TX11, 47, tyX11, rfl, by decide, rfl, in_X11, pq_gt6 (i := 133) rfl rfl, tyX11_ok, nmX11, rfl, rfl, rfl⟩
set_option maxRecDepth 100000 in
theorem lk_X11_276 : pq_Lk RX11 276 14 41 := ⟨RX11, TX11, 47, rfl, by decide, rfl, in_X11, Or.inl (pq_gt6 (i := 134) rfl rfl)⟩
set_option maxRecDepth 100000 in
theorem lp_X11_276 : pq_Lp RX11 276 14 41 (.int) := ⟨RX11, TX11, 47, tyX11, rfl, by decide, rfl, in_X11, Or.inl (pq_gt6 (i := 134) rfl rfl), tyX11_ok, nmX11, rfl, rfl⟩
set_option maxRecDepth 100000 in
theorem lk_X11_232 : pq_Lk RX11 232 14 42 := ⟨RX11, TX11, 47, rfl, by decide, rfl, in_X11, Or.inl (pq_gt6 (i := 135) rfl rfl)⟩
set_option maxRecDepth 100000 in
theorem lf_X11_232 : pq_Lf RX11 232 14 42 (.array .int) := ⟨RX11, TX11, 47, tyX11, rfl, by decide, rfl, in_X11, pq_gt6 (i := 135) rfl rfl, tyX11_ok, nmX11, rfl, rfl, rfl⟩
set_option maxRecDepth 100000 in
theorem lk_X11_235 : pq_Lk RX11 235 14 43 := ⟨RX11, TX11, 47, rfl, by decide, rfl, in_X11, Or.inl (pq_gt6 (i := 136) rfl rfl)⟩
set_option maxRecDepth 100000 in
theorem lf_X11_235 : pq_Lf RX11 235 14 43 (.array .int) := ⟨RX11, TX11, 47, tyX11, rfl, by decide, rfl, in_X11, pq_gt6 (i := 136) rfl rfl, tyX11_ok, nmX11, rfl, rfl, rfl⟩
set_option maxRecDepth 100000 in
theorem lk_X11_238 : pq_Lk RX11 238 14 44 := ⟨RX11, TX11, 47, rfl, by decide, rfl, in_X11, Or.inl (pq_gt6 (i := 137) rfl rfl)⟩
set_option maxRecDepth 100000 in
theorem lf_X11_238 : pq_Lf RX11 238 14 44 (.array .byte) := ⟨RX11, TX11, 47, tyX11, rfl, by decide, rfl, in_X11, pq_gt6 (i := 137) rfl rfl, tyX11_ok, nmX11, rfl, rfl, rfl⟩
set_option maxRecDepth 100000 in
theorem lk_X11_241 : pq_Lk RX11 241 14 45 := ⟨RX11, TX11, 47, rfl, by decide, rfl, in_X11, Or.inl (pq_gt6 (i := 138) rfl rfl)⟩
set_option maxRecDepth 100000 in
theorem lf_X11_241 : pq_Lf RX11 241 14 45 (.array .long) := ⟨RX11, TX11, 47, tyX11, rfl, by decide, rfl, in_X11, pq_gt6 (i := 138) rfl rfl, tyX11_ok, nmX11, rfl, rfl, rfl⟩
set_option maxRecDepth 100000 in
theorem lk_X11_244 : pq_Lk RX11 244 14 46 := ⟨RX11, TX11, 47, rfl, by decide, rfl, in_X11, Or.inl (pq_gt6 (i := 139) rfl rfl)⟩
set_option maxRecDepth 100000 in
theorem lf_X11_244 : pq_Lf RX11 244 14 46 (.array .long) := ⟨RX11, TX11, 47, tyX11, rfl, by decide, rfl, in_X11, pq_gt6 (i := 139) rfl rfl, tyX11_ok, nmX11, rfl, rfl, rfl⟩
set_option maxRecDepth 100000 in
theorem lc_X11_217 : Cond.constant RX11 217 (51328) ∈ gtb := pq_gt5 (i := 215) rfl rfl
set_option maxRecDepth 100000 in
theorem lc_X11_218 : Cond.constant RX11 218 (102912) ∈ gtb := pq_gt5 (i := 216) rfl rfl
set_option maxRecDepth 100000 in
theorem lc_X11_228 : Cond.constant RX11 228 (161604) ∈ gtb := pq_gt5 (i := 217) rfl rfl
set_option maxRecDepth 100000 in
theorem lc_X11_68 : Cond.constantLong RX11 68 (-1) ∈ gtb := pq_gt6 (i := 40) rfl rfl
set_option maxRecDepth 100000 in
theorem lc_X11_74 : Cond.constantLong RX11 74 (-1025) ∈ gtb := pq_gt6 (i := 41) rfl rfl
set_option maxRecDepth 100000 in
theorem lc_X11_142 : Cond.constantLong RX11 142 (17) ∈ gtb := pq_gt6 (i := 67) rfl rfl
set_option maxRecDepth 100000 in
theorem lc_X11_144 : Cond.constantLong RX11 144 (31) ∈ gtb := pq_gt6 (i := 68) rfl rfl
set_option maxRecDepth 100000 in
theorem ca_V_X11_parsed : Cond.code yX11_parsed cX11_parsed 9 ((some .int)) ∈ gtb ∧ Cond.initialized yX11_parsed.cls ∈ gtb ∧ Cond.instanceMethod yX11_parsed ∈ gtb ∧ Cond.selects yX11_parsed.cls yX11_parsed yX11_parsed ∈ gtb ∧ (yX11_parsed.cls ≠ "java/lang/invoke/MethodHandle" ∧ yX11_parsed.cls ≠ "java/lang/invoke/VarHandle" ∧ (parseMethodDescriptor yX11_parsed.desc).map (fun d => d.parameters.length) = some 2) := ⟨pq_gt5 (i := 221) rfl rfl, pq_gt1 (i := 12) rfl rfl, pq_gt5 (i := 220) rfl rfl, pq_g2 (i := 57) rfl rfl, ⟨by decide +kernel, by decide +kernel, by decide +kernel⟩⟩
set_option maxRecDepth 100000 in
theorem ml_X11_247 : pq_MV RX11 247 2 yX11_parsed cX11_parsed 9 ((some .int)) := ⟨ca_V_X11_parsed.1, ca_V_X11_parsed.2.1, ca_V_X11_parsed.2.2.1, ca_V_X11_parsed.2.2.2.1, ca_V_X11_parsed.2.2.2.2, Or.inl (pq_gt5 (i := 218) rfl rfl)⟩
set_option maxRecDepth 100000 in
theorem ca_V_X11_parse : Cond.code yX11_parse cX11_parse 8 ((some .int)) ∈ gtb ∧ Cond.initialized yX11_parse.cls ∈ gtb ∧ Cond.instanceMethod yX11_parse ∈ gtb ∧ Cond.selects yX11_parse.cls yX11_parse yX11_parse ∈ gtb ∧ (yX11_parse.cls ≠ "java/lang/invoke/MethodHandle" ∧ yX11_parse.cls ≠ "java/lang/invoke/VarHandle" ∧ (parseMethodDescriptor yX11_parse.desc).map (fun d => d.parameters.length) = some 2) := ⟨pq_gt5 (i := 225) rfl rfl, pq_gt1 (i := 12) rfl rfl, pq_gt5 (i := 224) rfl rfl, pq_g2 (i := 58) rfl rfl, ⟨by decide +kernel, by decide +kernel, by decide +kernel⟩⟩
set_option maxRecDepth 100000 in
theorem ml_X11_251 : pq_MV RX11 251 2 yX11_parse cX11_parse 8 ((some .int)) := ⟨ca_V_X11_parse.1, ca_V_X11_parse.2.1, ca_V_X11_parse.2.2.1, ca_V_X11_parse.2.2.2.1, ca_V_X11_parse.2.2.2.2, Or.inl (pq_gt5 (i := 222) rfl rfl)⟩
set_option maxRecDepth 100000 in
theorem ca_V_X11_land : Cond.code yX11_land cX11_land 4 (none) ∈ gtb ∧ Cond.initialized yX11_land.cls ∈ gtb ∧ Cond.instanceMethod yX11_land ∈ gtb ∧ Cond.selects yX11_land.cls yX11_land yX11_land ∈ gtb ∧ (yX11_land.cls ≠ "java/lang/invoke/MethodHandle" ∧ yX11_land.cls ≠ "java/lang/invoke/VarHandle" ∧ (parseMethodDescriptor yX11_land.desc).map (fun d => d.parameters.length) = some 1) := ⟨pq_gt5 (i := 229) rfl rfl, pq_gt1 (i := 12) rfl rfl, pq_gt5 (i := 228) rfl rfl, pq_g2 (i := 59) rfl rfl, ⟨by decide +kernel, by decide +kernel, by decide +kernel⟩⟩
set_option maxRecDepth 100000 in
theorem ml_X11_91 : pq_MV RX11 91 1 yX11_land cX11_land 4 (none) := ⟨ca_V_X11_land.1, ca_V_X11_land.2.1, ca_V_X11_land.2.2.1, ca_V_X11_land.2.2.2.1, ca_V_X11_land.2.2.2.2, Or.inl (pq_gt5 (i := 226) rfl rfl)⟩
set_option maxRecDepth 100000 in
theorem ca_V_X11_insert : Cond.code yX11_insert cX11_insert 5 (none) ∈ gtb ∧ Cond.initialized yX11_insert.cls ∈ gtb ∧ Cond.instanceMethod yX11_insert ∈ gtb ∧ Cond.selects yX11_insert.cls yX11_insert yX11_insert ∈ gtb ∧ (yX11_insert.cls ≠ "java/lang/invoke/MethodHandle" ∧ yX11_insert.cls ≠ "java/lang/invoke/VarHandle" ∧ (parseMethodDescriptor yX11_insert.desc).map (fun d => d.parameters.length) = some 3) := ⟨pq_gt5 (i := 233) rfl rfl, pq_gt1 (i := 12) rfl rfl, pq_gt5 (i := 232) rfl rfl, pq_g2 (i := 60) rfl rfl, ⟨by decide +kernel, by decide +kernel, by decide +kernel⟩⟩
set_option maxRecDepth 100000 in
theorem ml_X11_94 : pq_MV RX11 94 3 yX11_insert cX11_insert 5 (none) := ⟨ca_V_X11_insert.1, ca_V_X11_insert.2.1, ca_V_X11_insert.2.2.1, ca_V_X11_insert.2.2.2.1, ca_V_X11_insert.2.2.2.2, Or.inl (pq_gt5 (i := 230) rfl rfl)⟩
set_option maxRecDepth 100000 in
theorem ca_V_X11_grow : Cond.code yX11_grow cX11_grow 1 (none) ∈ gtb ∧ Cond.initialized yX11_grow.cls ∈ gtb ∧ Cond.instanceMethod yX11_grow ∈ gtb ∧ Cond.selects yX11_grow.cls yX11_grow yX11_grow ∈ gtb ∧ (yX11_grow.cls ≠ "java/lang/invoke/MethodHandle" ∧ yX11_grow.cls ≠ "java/lang/invoke/VarHandle" ∧ (parseMethodDescriptor yX11_grow.desc).map (fun d => d.parameters.length) = some 0) := ⟨pq_gt5 (i := 237) rfl rfl, pq_gt1 (i := 12) rfl rfl, pq_gt5 (i := 236) rfl rfl, pq_g2 (i := 61) rfl rfl, ⟨by decide +kernel, by decide +kernel, by decide +kernel⟩⟩
set_option maxRecDepth 100000 in
theorem ml_X11_23 : pq_MV RX11 23 0 yX11_grow cX11_grow 1 (none) := ⟨ca_V_X11_grow.1, ca_V_X11_grow.2.1, ca_V_X11_grow.2.2.1, ca_V_X11_grow.2.2.2.1, ca_V_X11_grow.2.2.2.2, Or.inl (pq_gt5 (i := 234) rfl rfl)⟩
set_option maxRecDepth 100000 in
theorem ca_S_J7_copyOf_59c91 : Cond.code yJ7_copyOf_59c91 cJ7_copyOf_59c91 3 ((some (.array .int))) ∈ gtb ∧ Cond.initialized yJ7_copyOf_59c91.cls ∈ gtb ∧ Cond.static yJ7_copyOf_59c91 ∈ gtb ∧ (yJ7_copyOf_59c91.cls ≠ "java/lang/invoke/MethodHandle" ∧ yJ7_copyOf_59c91.cls ≠ "java/lang/invoke/VarHandle" ∧ (parseMethodDescriptor yJ7_copyOf_59c91.desc).map (fun d => d.parameters.length) = some 2) := ⟨pq_gt6 (i := 0) rfl rfl, pq_gt1 (i := 13) rfl rfl, pq_gt5 (i := 239) rfl rfl, ⟨by decide +kernel, by decide +kernel, by decide +kernel⟩⟩
set_option maxRecDepth 100000 in
theorem ml_X11_14 : pq_MS RX11 14 2 yJ7_copyOf_59c91 cJ7_copyOf_59c91 3 ((some (.array .int))) := ⟨ca_S_J7_copyOf_59c91.1, ca_S_J7_copyOf_59c91.2.1, ca_S_J7_copyOf_59c91.2.2.1, ca_S_J7_copyOf_59c91.2.2.2, Or.inl (pq_gt5 (i := 238) rfl rfl)⟩
set_option maxRecDepth 100000 in
theorem ca_V_X11_lay : Cond.code yX11_lay cX11_lay 3 (none) ∈ gtb ∧ Cond.initialized yX11_lay.cls ∈ gtb ∧ Cond.instanceMethod yX11_lay ∈ gtb ∧ Cond.selects yX11_lay.cls yX11_lay yX11_lay ∈ gtb ∧ (yX11_lay.cls ≠ "java/lang/invoke/MethodHandle" ∧ yX11_lay.cls ≠ "java/lang/invoke/VarHandle" ∧ (parseMethodDescriptor yX11_lay.desc).map (fun d => d.parameters.length) = some 2) := ⟨pq_gt6 (i := 9) rfl rfl, pq_gt1 (i := 12) rfl rfl, pq_gt6 (i := 8) rfl rfl, pq_g2 (i := 62) rfl rfl, ⟨by decide +kernel, by decide +kernel, by decide +kernel⟩⟩
set_option maxRecDepth 100000 in
theorem ml_X11_98 : pq_MV RX11 98 2 yX11_lay cX11_lay 3 (none) := ⟨ca_V_X11_lay.1, ca_V_X11_lay.2.1, ca_V_X11_lay.2.2.1, ca_V_X11_lay.2.2.2.1, ca_V_X11_lay.2.2.2.2, Or.inl (pq_gt6 (i := 6) rfl rfl)⟩
set_option maxRecDepth 100000 in
theorem ca_V_X11_single : Cond.code yX11_single cX11_single 3 ((some .boolean)) ∈ gtb ∧ Cond.initialized yX11_single.cls ∈ gtb ∧ Cond.instanceMethod yX11_single ∈ gtb ∧ Cond.selects yX11_single.cls yX11_single yX11_single ∈ gtb ∧ (yX11_single.cls ≠ "java/lang/invoke/MethodHandle" ∧ yX11_single.cls ≠ "java/lang/invoke/VarHandle" ∧ (parseMethodDescriptor yX11_single.desc).map (fun d => d.parameters.length) = some 1) := ⟨pq_gt6 (i := 13) rfl rfl, pq_gt1 (i := 12) rfl rfl, pq_gt6 (i := 12) rfl rfl, pq_g2 (i := 63) rfl rfl, ⟨by decide +kernel, by decide +kernel, by decide +kernel⟩⟩
set_option maxRecDepth 100000 in
theorem ml_X11_105 : pq_MV RX11 105 1 yX11_single cX11_single 3 ((some .boolean)) := ⟨ca_V_X11_single.1, ca_V_X11_single.2.1, ca_V_X11_single.2.2.1, ca_V_X11_single.2.2.2.1, ca_V_X11_single.2.2.2.2, Or.inl (pq_gt6 (i := 10) rfl rfl)⟩
set_option maxRecDepth 100000 in
theorem ca_V_X11_byteAt : Cond.code yX11_byteAt cX11_byteAt 2 ((some .int)) ∈ gtb ∧ Cond.initialized yX11_byteAt.cls ∈ gtb ∧ Cond.instanceMethod yX11_byteAt ∈ gtb ∧ Cond.selects yX11_byteAt.cls yX11_byteAt yX11_byteAt ∈ gtb ∧ (yX11_byteAt.cls ≠ "java/lang/invoke/MethodHandle" ∧ yX11_byteAt.cls ≠ "java/lang/invoke/VarHandle" ∧ (parseMethodDescriptor yX11_byteAt.desc).map (fun d => d.parameters.length) = some 1) := ⟨pq_gt6 (i := 17) rfl rfl, pq_gt1 (i := 12) rfl rfl, pq_gt6 (i := 16) rfl rfl, pq_g2 (i := 64) rfl rfl, ⟨by decide +kernel, by decide +kernel, by decide +kernel⟩⟩
set_option maxRecDepth 100000 in
theorem ml_X11_40 : pq_MV RX11 40 1 yX11_byteAt cX11_byteAt 2 ((some .int)) := ⟨ca_V_X11_byteAt.1, ca_V_X11_byteAt.2.1, ca_V_X11_byteAt.2.2.1, ca_V_X11_byteAt.2.2.2.1, ca_V_X11_byteAt.2.2.2.2, Or.inl (pq_gt6 (i := 14) rfl rfl)⟩
set_option maxRecDepth 100000 in
theorem ca_V_X11_bracket : Cond.code yX11_bracket cX11_bracket 6 ((some .boolean)) ∈ gtb ∧ Cond.initialized yX11_bracket.cls ∈ gtb ∧ Cond.instanceMethod yX11_bracket ∈ gtb ∧ Cond.selects yX11_bracket.cls yX11_bracket yX11_bracket ∈ gtb ∧ (yX11_bracket.cls ≠ "java/lang/invoke/MethodHandle" ∧ yX11_bracket.cls ≠ "java/lang/invoke/VarHandle" ∧ (parseMethodDescriptor yX11_bracket.desc).map (fun d => d.parameters.length) = some 1) := ⟨pq_gt6 (i := 21) rfl rfl, pq_gt1 (i := 12) rfl rfl, pq_gt6 (i := 20) rfl rfl, pq_g2 (i := 65) rfl rfl, ⟨by decide +kernel, by decide +kernel, by decide +kernel⟩⟩
set_option maxRecDepth 100000 in
theorem ml_X11_70 : pq_MV RX11 70 1 yX11_bracket cX11_bracket 6 ((some .boolean)) := ⟨ca_V_X11_bracket.1, ca_V_X11_bracket.2.1, ca_V_X11_bracket.2.2.1, ca_V_X11_bracket.2.2.2.1, ca_V_X11_bracket.2.2.2.2, Or.inl (pq_gt6 (i := 18) rfl rfl)⟩
set_option maxRecDepth 100000 in
theorem ca_V_X11_member : Cond.code yX11_member cX11_member 3 ((some .int)) ∈ gtb ∧ Cond.initialized yX11_member.cls ∈ gtb ∧ Cond.instanceMethod yX11_member ∈ gtb ∧ Cond.selects yX11_member.cls yX11_member yX11_member ∈ gtb ∧ (yX11_member.cls ≠ "java/lang/invoke/MethodHandle" ∧ yX11_member.cls ≠ "java/lang/invoke/VarHandle" ∧ (parseMethodDescriptor yX11_member.desc).map (fun d => d.parameters.length) = some 1) := ⟨pq_gt6 (i := 25) rfl rfl, pq_gt1 (i := 12) rfl rfl, pq_gt6 (i := 24) rfl rfl, pq_g2 (i := 66) rfl rfl, ⟨by decide +kernel, by decide +kernel, by decide +kernel⟩⟩
set_option maxRecDepth 100000 in
theorem ml_X11_61 : pq_MV RX11 61 1 yX11_member cX11_member 3 ((some .int)) := ⟨ca_V_X11_member.1, ca_V_X11_member.2.1, ca_V_X11_member.2.2.1, ca_V_X11_member.2.2.2.1, ca_V_X11_member.2.2.2.2, Or.inl (pq_gt6 (i := 22) rfl rfl)⟩
set_option maxRecDepth 100000 in
theorem ca_V_X11_escaped : Cond.code yX11_escaped cX11_escaped 3 ((some .int)) ∈ gtb ∧ Cond.initialized yX11_escaped.cls ∈ gtb ∧ Cond.instanceMethod yX11_escaped ∈ gtb ∧ Cond.selects yX11_escaped.cls yX11_escaped yX11_escaped ∈ gtb ∧ (yX11_escaped.cls ≠ "java/lang/invoke/MethodHandle" ∧ yX11_escaped.cls ≠ "java/lang/invoke/VarHandle" ∧ (parseMethodDescriptor yX11_escaped.desc).map (fun d => d.parameters.length) = some 1) := ⟨pq_gt6 (i := 29) rfl rfl, pq_gt1 (i := 12) rfl rfl, pq_gt6 (i := 28) rfl rfl, pq_g2 (i := 67) rfl rfl, ⟨by decide +kernel, by decide +kernel, by decide +kernel⟩⟩
set_option maxRecDepth 100000 in
theorem ml_X11_56 : pq_MV RX11 56 1 yX11_escaped cX11_escaped 3 ((some .int)) := ⟨ca_V_X11_escaped.1, ca_V_X11_escaped.2.1, ca_V_X11_escaped.2.2.1, ca_V_X11_escaped.2.2.2.1, ca_V_X11_escaped.2.2.2.2, Or.inl (pq_gt6 (i := 26) rfl rfl)⟩
set_option maxRecDepth 100000 in
theorem ca_S_X11_isIn : Cond.code yX11_isIn cX11_isIn 2 ((some .boolean)) ∈ gtb ∧ Cond.initialized yX11_isIn.cls ∈ gtb ∧ Cond.static yX11_isIn ∈ gtb ∧ (yX11_isIn.cls ≠ "java/lang/invoke/MethodHandle" ∧ yX11_isIn.cls ≠ "java/lang/invoke/VarHandle" ∧ (parseMethodDescriptor yX11_isIn.desc).map (fun d => d.parameters.length) = some 2) := ⟨pq_gt6 (i := 33) rfl rfl, pq_gt1 (i := 12) rfl rfl, pq_gt6 (i := 32) rfl rfl, ⟨by decide +kernel, by decide +kernel, by decide +kernel⟩⟩
set_option maxRecDepth 100000 in
theorem ml_X11_45 : pq_MS RX11 45 2 yX11_isIn cX11_isIn 2 ((some .boolean)) := ⟨ca_S_X11_isIn.1, ca_S_X11_isIn.2.1, ca_S_X11_isIn.2.2.1, ca_S_X11_isIn.2.2.2, Or.inl (pq_gt6 (i := 31) rfl rfl)⟩
set_option maxRecDepth 100000 in
theorem ca_V_J0_indexOf_0f7a4 : Cond.code yJ0_indexOf_0f7a4 cJ0_indexOf_0f7a4 2 ((some .int)) ∈ gtb ∧ Cond.initialized yJ0_indexOf_0f7a4.cls ∈ gtb ∧ Cond.instanceMethod yJ0_indexOf_0f7a4 ∈ gtb ∧ Cond.selects yJ0_indexOf_0f7a4.cls yJ0_indexOf_0f7a4 yJ0_indexOf_0f7a4 ∈ gtb ∧ (yJ0_indexOf_0f7a4.cls ≠ "java/lang/invoke/MethodHandle" ∧ yJ0_indexOf_0f7a4.cls ≠ "java/lang/invoke/VarHandle" ∧ (parseMethodDescriptor yJ0_indexOf_0f7a4.desc).map (fun d => d.parameters.length) = some 1) := ⟨pq_gt3 (i := 112) rfl rfl, pq_gt1 (i := 16) rfl rfl, pq_gt3 (i := 110) rfl rfl, pq_gt3 (i := 111) rfl rfl, ⟨by decide +kernel, by decide +kernel, by decide +kernel⟩⟩
set_option maxRecDepth 100000 in
theorem ml_X11_34 : pq_MV RX11 34 1 yJ0_indexOf_0f7a4 cJ0_indexOf_0f7a4 2 ((some .int)) := ⟨ca_V_J0_indexOf_0f7a4.1, ca_V_J0_indexOf_0f7a4.2.1, ca_V_J0_indexOf_0f7a4.2.2.1, ca_V_J0_indexOf_0f7a4.2.2.2.1, ca_V_J0_indexOf_0f7a4.2.2.2.2, Or.inl (pq_gt6 (i := 34) rfl rfl)⟩
set_option maxRecDepth 100000 in
theorem ca_V_X11_put : Cond.code yX11_put cX11_put 2 (none) ∈ gtb ∧ Cond.initialized yX11_put.cls ∈ gtb ∧ Cond.instanceMethod yX11_put ∈ gtb ∧ Cond.selects yX11_put.cls yX11_put yX11_put ∈ gtb ∧ (yX11_put.cls ≠ "java/lang/invoke/MethodHandle" ∧ yX11_put.cls ≠ "java/lang/invoke/VarHandle" ∧ (parseMethodDescriptor yX11_put.desc).map (fun d => d.parameters.length) = some 1) := ⟨pq_gt6 (i := 39) rfl rfl, pq_gt1 (i := 12) rfl rfl, pq_gt6 (i := 38) rfl rfl, pq_g2 (i := 68) rfl rfl, ⟨by decide +kernel, by decide +kernel, by decide +kernel⟩⟩
set_option maxRecDepth 100000 in
theorem ml_X11_64 : pq_MV RX11 64 1 yX11_put cX11_put 2 (none) := ⟨ca_V_X11_put.1, ca_V_X11_put.2.1, ca_V_X11_put.2.2.1, ca_V_X11_put.2.2.2.1, ca_V_X11_put.2.2.2.2, Or.inl (pq_gt6 (i := 36) rfl rfl)⟩
set_option maxRecDepth 100000 in
theorem ca_V_X11_build : Cond.code yX11_build cX11_build 6 ((some .boolean)) ∈ gtb ∧ Cond.initialized yX11_build.cls ∈ gtb ∧ Cond.instanceMethod yX11_build ∈ gtb ∧ Cond.selects yX11_build.cls yX11_build yX11_build ∈ gtb ∧ (yX11_build.cls ≠ "java/lang/invoke/MethodHandle" ∧ yX11_build.cls ≠ "java/lang/invoke/VarHandle" ∧ (parseMethodDescriptor yX11_build.desc).map (fun d => d.parameters.length) = some 0) := ⟨pq_gt6 (i := 46) rfl rfl, pq_gt1 (i := 12) rfl rfl, pq_gt6 (i := 45) rfl rfl, pq_g2 (i := 69) rfl rfl, ⟨by decide +kernel, by decide +kernel, by decide +kernel⟩⟩
set_option maxRecDepth 100000 in
theorem ml_X11_254 : pq_MV RX11 254 0 yX11_build cX11_build 6 ((some .boolean)) := ⟨ca_V_X11_build.1, ca_V_X11_build.2.1, ca_V_X11_build.2.2.1, ca_V_X11_build.2.2.2.1, ca_V_X11_build.2.2.2.2, Or.inl (pq_gt6 (i := 43) rfl rfl)⟩
set_option maxRecDepth 100000 in
theorem ca_V_X11_begin : Cond.code yX11_begin cX11_begin 1 (none) ∈ gtb ∧ Cond.initialized yX11_begin.cls ∈ gtb ∧ Cond.instanceMethod yX11_begin ∈ gtb ∧ Cond.selects yX11_begin.cls yX11_begin yX11_begin ∈ gtb ∧ (yX11_begin.cls ≠ "java/lang/invoke/MethodHandle" ∧ yX11_begin.cls ≠ "java/lang/invoke/VarHandle" ∧ (parseMethodDescriptor yX11_begin.desc).map (fun d => d.parameters.length) = some 0) := ⟨pq_gt6 (i := 50) rfl rfl, pq_gt1 (i := 12) rfl rfl, pq_gt6 (i := 49) rfl rfl, pq_g2 (i := 70) rfl rfl, ⟨by decide +kernel, by decide +kernel, by decide +kernel⟩⟩
set_option maxRecDepth 100000 in
theorem ml_X11_165 : pq_MV RX11 165 0 yX11_begin cX11_begin 1 (none) := ⟨ca_V_X11_begin.1, ca_V_X11_begin.2.1, ca_V_X11_begin.2.2.1, ca_V_X11_begin.2.2.2.1, ca_V_X11_begin.2.2.2.2, Or.inl (pq_gt6 (i := 47) rfl rfl)⟩
set_option maxRecDepth 100000 in
theorem ca_V_X11_reach : Cond.code yX11_reach cX11_reach 2 (none) ∈ gtb ∧ Cond.initialized yX11_reach.cls ∈ gtb ∧ Cond.instanceMethod yX11_reach ∈ gtb ∧ Cond.selects yX11_reach.cls yX11_reach yX11_reach ∈ gtb ∧ (yX11_reach.cls ≠ "java/lang/invoke/MethodHandle" ∧ yX11_reach.cls ≠ "java/lang/invoke/VarHandle" ∧ (parseMethodDescriptor yX11_reach.desc).map (fun d => d.parameters.length) = some 1) := ⟨pq_gt6 (i := 54) rfl rfl, pq_gt1 (i := 12) rfl rfl, pq_gt6 (i := 53) rfl rfl, pq_g2 (i := 71) rfl rfl, ⟨by decide +kernel, by decide +kernel, by decide +kernel⟩⟩
set_option maxRecDepth 100000 in
theorem ml_X11_133 : pq_MV RX11 133 1 yX11_reach cX11_reach 2 (none) := ⟨ca_V_X11_reach.1, ca_V_X11_reach.2.1, ca_V_X11_reach.2.2.1, ca_V_X11_reach.2.2.2.1, ca_V_X11_reach.2.2.2.2, Or.inl (pq_gt6 (i := 51) rfl rfl)⟩
set_option maxRecDepth 100000 in
theorem ca_V_X11_closure : Cond.code yX11_closure cX11_closure 3 ((some .int)) ∈ gtb ∧ Cond.initialized yX11_closure.cls ∈ gtb ∧ Cond.instanceMethod yX11_closure ∈ gtb ∧ Cond.selects yX11_closure.cls yX11_closure yX11_closure ∈ gtb ∧ (yX11_closure.cls ≠ "java/lang/invoke/MethodHandle" ∧ yX11_closure.cls ≠ "java/lang/invoke/VarHandle" ∧ (parseMethodDescriptor yX11_closure.desc).map (fun d => d.parameters.length) = some 0) := ⟨pq_gt6 (i := 58) rfl rfl, pq_gt1 (i := 12) rfl rfl, pq_gt6 (i := 57) rfl rfl, pq_g2 (i := 72) rfl rfl, ⟨by decide +kernel, by decide +kernel, by decide +kernel⟩⟩
set_option maxRecDepth 100000 in
theorem ml_X11_168 : pq_MV RX11 168 0 yX11_closure cX11_closure 3 ((some .int)) := ⟨ca_V_X11_closure.1, ca_V_X11_closure.2.1, ca_V_X11_closure.2.2.1, ca_V_X11_closure.2.2.2.1, ca_V_X11_closure.2.2.2.2, Or.inl (pq_gt6 (i := 55) rfl rfl)⟩
set_option maxRecDepth 100000 in
theorem ca_V_X11_stateOf : Cond.code yX11_stateOf cX11_stateOf 3 ((some .int)) ∈ gtb ∧ Cond.initialized yX11_stateOf.cls ∈ gtb ∧ Cond.instanceMethod yX11_stateOf ∈ gtb ∧ Cond.selects yX11_stateOf.cls yX11_stateOf yX11_stateOf ∈ gtb ∧ (yX11_stateOf.cls ≠ "java/lang/invoke/MethodHandle" ∧ yX11_stateOf.cls ≠ "java/lang/invoke/VarHandle" ∧ (parseMethodDescriptor yX11_stateOf.desc).map (fun d => d.parameters.length) = some 0) := ⟨pq_gt6 (i := 62) rfl rfl, pq_gt1 (i := 12) rfl rfl, pq_gt6 (i := 61) rfl rfl, pq_g2 (i := 73) rfl rfl, ⟨by decide +kernel, by decide +kernel, by decide +kernel⟩⟩
set_option maxRecDepth 100000 in
theorem ml_X11_178 : pq_MV RX11 178 0 yX11_stateOf cX11_stateOf 3 ((some .int)) := ⟨ca_V_X11_stateOf.1, ca_V_X11_stateOf.2.1, ca_V_X11_stateOf.2.2.1, ca_V_X11_stateOf.2.2.2.1, ca_V_X11_stateOf.2.2.2.2, Or.inl (pq_gt6 (i := 59) rfl rfl)⟩
set_option maxRecDepth 100000 in
theorem ca_V_X11_mixture : Cond.code yX11_mixture cX11_mixture 4 ((some .int)) ∈ gtb ∧ Cond.initialized yX11_mixture.cls ∈ gtb ∧ Cond.instanceMethod yX11_mixture ∈ gtb ∧ Cond.selects yX11_mixture.cls yX11_mixture yX11_mixture ∈ gtb ∧ (yX11_mixture.cls ≠ "java/lang/invoke/MethodHandle" ∧ yX11_mixture.cls ≠ "java/lang/invoke/VarHandle" ∧ (parseMethodDescriptor yX11_mixture.desc).map (fun d => d.parameters.length) = some 0) := ⟨pq_gt6 (i := 66) rfl rfl, pq_gt1 (i := 12) rfl rfl, pq_gt6 (i := 65) rfl rfl, pq_g2 (i := 74) rfl rfl, ⟨by decide +kernel, by decide +kernel, by decide +kernel⟩⟩
set_option maxRecDepth 100000 in
theorem ml_X11_146 : pq_MV RX11 146 0 yX11_mixture cX11_mixture 4 ((some .int)) := ⟨ca_V_X11_mixture.1, ca_V_X11_mixture.2.1, ca_V_X11_mixture.2.2.1, ca_V_X11_mixture.2.2.2.1, ca_V_X11_mixture.2.2.2.2, Or.inl (pq_gt6 (i := 63) rfl rfl)⟩
set_option maxRecDepth 100000 in
theorem ca_V_X11_isSet : Cond.code yX11_isSet cX11_isSet 3 ((some .boolean)) ∈ gtb ∧ Cond.initialized yX11_isSet.cls ∈ gtb ∧ Cond.instanceMethod yX11_isSet ∈ gtb ∧ Cond.selects yX11_isSet.cls yX11_isSet yX11_isSet ∈ gtb ∧ (yX11_isSet.cls ≠ "java/lang/invoke/MethodHandle" ∧ yX11_isSet.cls ≠ "java/lang/invoke/VarHandle" ∧ (parseMethodDescriptor yX11_isSet.desc).map (fun d => d.parameters.length) = some 1) := ⟨pq_gt6 (i := 72) rfl rfl, pq_gt1 (i := 12) rfl rfl, pq_gt6 (i := 71) rfl rfl, pq_g2 (i := 75) rfl rfl, ⟨by decide +kernel, by decide +kernel, by decide +kernel⟩⟩
set_option maxRecDepth 100000 in
theorem ml_X11_153 : pq_MV RX11 153 1 yX11_isSet cX11_isSet 3 ((some .boolean)) := ⟨ca_V_X11_isSet.1, ca_V_X11_isSet.2.1, ca_V_X11_isSet.2.2.1, ca_V_X11_isSet.2.2.2.1, ca_V_X11_isSet.2.2.2.2, Or.inl (pq_gt6 (i := 69) rfl rfl)⟩
set_option maxRecDepth 100000 in
theorem ca_V_X11_findLiving : Cond.code yX11_findLiving cX11_findLiving 4 (none) ∈ gtb ∧ Cond.initialized yX11_findLiving.cls ∈ gtb ∧ Cond.instanceMethod yX11_findLiving ∈ gtb ∧ Cond.selects yX11_findLiving.cls yX11_findLiving yX11_findLiving ∈ gtb ∧ (yX11_findLiving.cls ≠ "java/lang/invoke/MethodHandle" ∧ yX11_findLiving.cls ≠ "java/lang/invoke/VarHandle" ∧ (parseMethodDescriptor yX11_findLiving.desc).map (fun d => d.parameters.length) = some 0) := ⟨pq_gt6 (i := 76) rfl rfl, pq_gt1 (i := 12) rfl rfl, pq_gt6 (i := 75) rfl rfl, pq_g2 (i := 76) rfl rfl, ⟨by decide +kernel, by decide +kernel, by decide +kernel⟩⟩
set_option maxRecDepth 100000 in
theorem ml_X11_258 : pq_MV RX11 258 0 yX11_findLiving cX11_findLiving 4 (none) := ⟨ca_V_X11_findLiving.1, ca_V_X11_findLiving.2.1, ca_V_X11_findLiving.2.2.1, ca_V_X11_findLiving.2.2.2.1, ca_V_X11_findLiving.2.2.2.2, Or.inl (pq_gt6 (i := 73) rfl rfl)⟩
set_option maxRecDepth 100000 in
theorem ca_V_X11_findKinds : Cond.code yX11_findKinds cX11_findKinds 5 (none) ∈ gtb ∧ Cond.initialized yX11_findKinds.cls ∈ gtb ∧ Cond.instanceMethod yX11_findKinds ∈ gtb ∧ Cond.selects yX11_findKinds.cls yX11_findKinds yX11_findKinds ∈ gtb ∧ (yX11_findKinds.cls ≠ "java/lang/invoke/MethodHandle" ∧ yX11_findKinds.cls ≠ "java/lang/invoke/VarHandle" ∧ (parseMethodDescriptor yX11_findKinds.desc).map (fun d => d.parameters.length) = some 0) := ⟨pq_gt6 (i := 80) rfl rfl, pq_gt1 (i := 12) rfl rfl, pq_gt6 (i := 79) rfl rfl, pq_g2 (i := 77) rfl rfl, ⟨by decide +kernel, by decide +kernel, by decide +kernel⟩⟩
set_option maxRecDepth 100000 in
theorem ml_X11_261 : pq_MV RX11 261 0 yX11_findKinds cX11_findKinds 5 (none) := ⟨ca_V_X11_findKinds.1, ca_V_X11_findKinds.2.1, ca_V_X11_findKinds.2.2.1, ca_V_X11_findKinds.2.2.2.1, ca_V_X11_findKinds.2.2.2.2, Or.inl (pq_gt6 (i := 77) rfl rfl)⟩
set_option maxRecDepth 100000 in
theorem ca_V_X11_mixtureOf : Cond.code yX11_mixtureOf cX11_mixtureOf 4 ((some .int)) ∈ gtb ∧ Cond.initialized yX11_mixtureOf.cls ∈ gtb ∧ Cond.instanceMethod yX11_mixtureOf ∈ gtb ∧ Cond.selects yX11_mixtureOf.cls yX11_mixtureOf yX11_mixtureOf ∈ gtb ∧ (yX11_mixtureOf.cls ≠ "java/lang/invoke/MethodHandle" ∧ yX11_mixtureOf.cls ≠ "java/lang/invoke/VarHandle" ∧ (parseMethodDescriptor yX11_mixtureOf.desc).map (fun d => d.parameters.length) = some 1) := ⟨pq_gt6 (i := 84) rfl rfl, pq_gt1 (i := 12) rfl rfl, pq_gt6 (i := 83) rfl rfl, pq_g2 (i := 78) rfl rfl, ⟨by decide +kernel, by decide +kernel, by decide +kernel⟩⟩
set_option maxRecDepth 100000 in
theorem ml_X11_196 : pq_MV RX11 196 1 yX11_mixtureOf cX11_mixtureOf 4 ((some .int)) := ⟨ca_V_X11_mixtureOf.1, ca_V_X11_mixtureOf.2.1, ca_V_X11_mixtureOf.2.2.1, ca_V_X11_mixtureOf.2.2.2.1, ca_V_X11_mixtureOf.2.2.2.2, Or.inl (pq_gt6 (i := 81) rfl rfl)⟩
set_option maxRecDepth 100000 in
theorem ca_V_X11_kindOf : Cond.code yX11_kindOf cX11_kindOf 2 ((some .int)) ∈ gtb ∧ Cond.initialized yX11_kindOf.cls ∈ gtb ∧ Cond.instanceMethod yX11_kindOf ∈ gtb ∧ Cond.selects yX11_kindOf.cls yX11_kindOf yX11_kindOf ∈ gtb ∧ (yX11_kindOf.cls ≠ "java/lang/invoke/MethodHandle" ∧ yX11_kindOf.cls ≠ "java/lang/invoke/VarHandle" ∧ (parseMethodDescriptor yX11_kindOf.desc).map (fun d => d.parameters.length) = some 1) := ⟨pq_gt6 (i := 88) rfl rfl, pq_gt1 (i := 12) rfl rfl, pq_gt6 (i := 87) rfl rfl, pq_g2 (i := 79) rfl rfl, ⟨by decide +kernel, by decide +kernel, by decide +kernel⟩⟩
set_option maxRecDepth 100000 in
theorem ml_X11_190 : pq_MV RX11 190 1 yX11_kindOf cX11_kindOf 2 ((some .int)) := ⟨ca_V_X11_kindOf.1, ca_V_X11_kindOf.2.1, ca_V_X11_kindOf.2.2.1, ca_V_X11_kindOf.2.2.2.1, ca_V_X11_kindOf.2.2.2.2, Or.inl (pq_gt6 (i := 85) rfl rfl)⟩
set_option maxRecDepth 100000 in
theorem ca_V_X11_isAlike : Cond.code yX11_isAlike cX11_isAlike 4 ((some .boolean)) ∈ gtb ∧ Cond.initialized yX11_isAlike.cls ∈ gtb ∧ Cond.instanceMethod yX11_isAlike ∈ gtb ∧ Cond.selects yX11_isAlike.cls yX11_isAlike yX11_isAlike ∈ gtb ∧ (yX11_isAlike.cls ≠ "java/lang/invoke/MethodHandle" ∧ yX11_isAlike.cls ≠ "java/lang/invoke/VarHandle" ∧ (parseMethodDescriptor yX11_isAlike.desc).map (fun d => d.parameters.length) = some 2) := ⟨pq_gt6 (i := 92) rfl rfl, pq_gt1 (i := 12) rfl rfl, pq_gt6 (i := 91) rfl rfl, pq_g2 (i := 80) rfl rfl, ⟨by decide +kernel, by decide +kernel, by decide +kernel⟩⟩
set_option maxRecDepth 100000 in
theorem ml_X11_202 : pq_MV RX11 202 2 yX11_isAlike cX11_isAlike 4 ((some .boolean)) := ⟨ca_V_X11_isAlike.1, ca_V_X11_isAlike.2.1, ca_V_X11_isAlike.2.2.1, ca_V_X11_isAlike.2.2.2.1, ca_V_X11_isAlike.2.2.2.2, Or.inl (pq_gt6 (i := 89) rfl rfl)⟩
set_option maxRecDepth 100000 in
theorem ca_V_X11_refuse : Cond.code yX11_refuse cX11_refuse 2 ((some .int)) ∈ gtb ∧ Cond.initialized yX11_refuse.cls ∈ gtb ∧ Cond.instanceMethod yX11_refuse ∈ gtb ∧ Cond.selects yX11_refuse.cls yX11_refuse yX11_refuse ∈ gtb ∧ (yX11_refuse.cls ≠ "java/lang/invoke/MethodHandle" ∧ yX11_refuse.cls ≠ "java/lang/invoke/VarHandle" ∧ (parseMethodDescriptor yX11_refuse.desc).map (fun d => d.parameters.length) = some 1) := ⟨pq_gt7 (i := 2) rfl rfl, pq_gt1 (i := 12) rfl rfl, pq_gt7 (i := 1) rfl rfl, pq_g2 (i := 81) rfl rfl, ⟨by decide +kernel, by decide +kernel, by decide +kernel⟩⟩
set_option maxRecDepth 100000 in
theorem ml_X11_267 : pq_MV RX11 267 1 yX11_refuse cX11_refuse 2 ((some .int)) := ⟨ca_V_X11_refuse.1, ca_V_X11_refuse.2.1, ca_V_X11_refuse.2.2.1, ca_V_X11_refuse.2.2.2.1, ca_V_X11_refuse.2.2.2.2, Or.inl (pq_gt6 (i := 239) rfl rfl)⟩
set_option maxRecDepth 100000 in
theorem ca_V_X11_four : Cond.code yX11_four cX11_four 3 (none) ∈ gtb ∧ Cond.initialized yX11_four.cls ∈ gtb ∧ Cond.instanceMethod yX11_four ∈ gtb ∧ Cond.selects yX11_four.cls yX11_four yX11_four ∈ gtb ∧ (yX11_four.cls ≠ "java/lang/invoke/MethodHandle" ∧ yX11_four.cls ≠ "java/lang/invoke/VarHandle" ∧ (parseMethodDescriptor yX11_four.desc).map (fun d => d.parameters.length) = some 1) := ⟨pq_gt7 (i := 6) rfl rfl, pq_gt1 (i := 12) rfl rfl, pq_gt7 (i := 5) rfl rfl, pq_g2 (i := 82) rfl rfl, ⟨by decide +kernel, by decide +kernel, by decide +kernel⟩⟩
set_option maxRecDepth 100000 in
theorem ml_X11_270 : pq_MV RX11 270 1 yX11_four cX11_four 3 (none) := ⟨ca_V_X11_four.1, ca_V_X11_four.2.1, ca_V_X11_four.2.2.1, ca_V_X11_four.2.2.2.1, ca_V_X11_four.2.2.2.2, Or.inl (pq_gt7 (i := 3) rfl rfl)⟩
set_option maxRecDepth 100000 in
theorem ca_V_X11_take : Cond.code yX11_take cX11_take 2 ((some .int)) ∈ gtb ∧ Cond.initialized yX11_take.cls ∈ gtb ∧ Cond.instanceMethod yX11_take ∈ gtb ∧ Cond.selects yX11_take.cls yX11_take yX11_take ∈ gtb ∧ (yX11_take.cls ≠ "java/lang/invoke/MethodHandle" ∧ yX11_take.cls ≠ "java/lang/invoke/VarHandle" ∧ (parseMethodDescriptor yX11_take.desc).map (fun d => d.parameters.length) = some 0) := ⟨pq_gt7 (i := 18) rfl rfl, pq_gt1 (i := 12) rfl rfl, pq_gt7 (i := 17) rfl rfl, pq_g2 (i := 83) rfl rfl, ⟨by decide +kernel, by decide +kernel, by decide +kernel⟩⟩
set_option maxRecDepth 100000 in
theorem ml_X11_273 : pq_MV RX11 273 0 yX11_take cX11_take 2 ((some .int)) := ⟨ca_V_X11_take.1, ca_V_X11_take.2.1, ca_V_X11_take.2.2.1, ca_V_X11_take.2.2.2.1, ca_V_X11_take.2.2.2.2, Or.inl (pq_gt7 (i := 15) rfl rfl)⟩
set_option maxRecDepth 100000 in
theorem ca_V_X11_is : Cond.code yX11_is cX11_is 5 ((some .boolean)) ∈ gtb ∧ Cond.initialized yX11_is.cls ∈ gtb ∧ Cond.instanceMethod yX11_is ∈ gtb ∧ Cond.selects yX11_is.cls yX11_is yX11_is ∈ gtb ∧ (yX11_is.cls ≠ "java/lang/invoke/MethodHandle" ∧ yX11_is.cls ≠ "java/lang/invoke/VarHandle" ∧ (parseMethodDescriptor yX11_is.desc).map (fun d => d.parameters.length) = some 2) := ⟨pq_gt7 (i := 34) rfl rfl, pq_gt1 (i := 12) rfl rfl, pq_gt7 (i := 33) rfl rfl, pq_g2 (i := 84) rfl rfl, ⟨by decide +kernel, by decide +kernel, by decide +kernel⟩⟩
set_option maxRecDepth 100000 in
theorem ml_X11_279 : pq_MV RX11 279 2 yX11_is cX11_is 5 ((some .boolean)) := ⟨ca_V_X11_is.1, ca_V_X11_is.2.1, ca_V_X11_is.2.2.1, ca_V_X11_is.2.2.2.1, ca_V_X11_is.2.2.2.2, Or.inl (pq_gt7 (i := 31) rfl rfl)⟩
set_option maxRecDepth 100000 in
theorem ca_V_X11_tell : Cond.code yX11_tell cX11_tell 4 ((some .int)) ∈ gtb ∧ Cond.initialized yX11_tell.cls ∈ gtb ∧ Cond.instanceMethod yX11_tell ∈ gtb ∧ Cond.selects yX11_tell.cls yX11_tell yX11_tell ∈ gtb ∧ (yX11_tell.cls ≠ "java/lang/invoke/MethodHandle" ∧ yX11_tell.cls ≠ "java/lang/invoke/VarHandle" ∧ (parseMethodDescriptor yX11_tell.desc).map (fun d => d.parameters.length) = some 1) := ⟨pq_gt7 (i := 38) rfl rfl, pq_gt1 (i := 12) rfl rfl, pq_gt7 (i := 37) rfl rfl, pq_g2 (i := 85) rfl rfl, ⟨by decide +kernel, by decide +kernel, by decide +kernel⟩⟩
set_option maxRecDepth 100000 in
theorem ml_X11_282 : pq_MV RX11 282 1 yX11_tell cX11_tell 4 ((some .int)) := ⟨ca_V_X11_tell.1, ca_V_X11_tell.2.1, ca_V_X11_tell.2.2.1, ca_V_X11_tell.2.2.2.1, ca_V_X11_tell.2.2.2.2, Or.inl (pq_gt7 (i := 35) rfl rfl)⟩
