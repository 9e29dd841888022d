set_option maxRecDepth 100000 in
theorem ml_L_45 : pq_MI RL 45 0 yX10_init cX10_init 1 := ⟨ca_I_X10_init.1, ca_I_X10_init.2.1, ca_I_X10_init.2.2.1, ca_I_X10_init.2.2.2.1, ca_I_X10_init.2.2.2.2, Or.inl (pq_gt1 (i := 35) rfl rfl)⟩
set_option maxRecDepth 100000 in
theorem ml_L_82 : pq_MV RL 82 0 yX10_place cX10_place 1 ((some .int)) := ⟨ca_V_X10_place.1, ca_V_X10_place.2.1, ca_V_X10_place.2.2.1, ca_V_X10_place.2.2.2.1, ca_V_X10_place.2.2.2.2, Or.inl (pq_gt2 (i := 126) rfl rfl)⟩
set_option maxRecDepth 100000 in
theorem ml_L_7 : pq_MV RL 7 5 yX10_feed cX10_feed 6 ((some .int)) := ⟨ca_V_X10_feed.1, ca_V_X10_feed.2.1, ca_V_X10_feed.2.2.1, ca_V_X10_feed.2.2.2.1, ca_V_X10_feed.2.2.2.2, Or.inl (pq_gt2 (i := 134) rfl rfl)⟩
set_option maxRecDepth 100000 in
theorem ml_L_15 : pq_MV RL 15 1 yX10_end cX10_end 2 ((some .int)) := ⟨ca_V_X10_end.1, ca_V_X10_end.2.1, ca_V_X10_end.2.2.1, ca_V_X10_end.2.2.2.1, ca_V_X10_end.2.2.2.2, Or.inl (pq_gt2 (i := 215) rfl rfl)⟩
set_option maxRecDepth 100000 in
theorem ml_L_21 : pq_MV RL 21 1 yX10_set cX10_set 3 ((some .int)) := ⟨ca_V_X10_set.1, ca_V_X10_set.2.1, ca_V_X10_set.2.2.1, ca_V_X10_set.2.2.2.1, ca_V_X10_set.2.2.2.2, Or.inl (pq_gt2 (i := 239) rfl rfl)⟩
set_option maxRecDepth 100000 in
theorem ml_L_26 : pq_MV RL 26 1 yX10_empty cX10_empty 2 ((some .boolean)) := ⟨ca_V_X10_empty.1, ca_V_X10_empty.2.1, ca_V_X10_empty.2.2.1, ca_V_X10_empty.2.2.2.1, ca_V_X10_empty.2.2.2.2, Or.inl (pq_gt5 (i := 107) rfl rfl)⟩
set_option maxRecDepth 100000 in
theorem ml_L_30 : pq_MV RL 30 1 yX10_fits cX10_fits 4 ((some .boolean)) := ⟨ca_V_X10_fits.1, ca_V_X10_fits.2.1, ca_V_X10_fits.2.2.1, ca_V_X10_fits.2.2.2.1, ca_V_X10_fits.2.2.2.2, Or.inl (pq_gt5 (i := 114) rfl rfl)⟩
set_option maxRecDepth 100000 in
theorem ml_L_33 : pq_MV RL 33 1 yX10_first cX10_first 2 ((some .int)) := ⟨ca_V_X10_first.1, ca_V_X10_first.2.1, ca_V_X10_first.2.2.1, ca_V_X10_first.2.2.2.1, ca_V_X10_first.2.2.2.2, Or.inl (pq_gt5 (i := 130) rfl rfl)⟩
set_option maxRecDepth 100000 in
theorem ml_L_36 : pq_MV RL 36 1 yX10_octet cX10_octet 2 ((some .int)) := ⟨ca_V_X10_octet.1, ca_V_X10_octet.2.1, ca_V_X10_octet.2.2.1, ca_V_X10_octet.2.2.2.1, ca_V_X10_octet.2.2.2.2, Or.inl (pq_gt5 (i := 168) rfl rfl)⟩
set_option maxRecDepth 100000 in
theorem ml_L_41 : pq_MV RL 41 2 yX10_count cX10_count 3 ((some .long)) := ⟨ca_V_X10_count.1, ca_V_X10_count.2.1, ca_V_X10_count.2.2.1, ca_V_X10_count.2.2.2.1, ca_V_X10_count.2.2.2.2, Or.inl (pq_gt5 (i := 191) rfl rfl)⟩
set_option maxRecDepth 100000 in
theorem ml_L_74 : pq_MV RL 74 0 yX11_thrown cX11_thrown 1 ((some .int)) := ⟨ca_V_X11_thrown.1, ca_V_X11_thrown.2.1, ca_V_X11_thrown.2.2.1, ca_V_X11_thrown.2.2.2.1, ca_V_X11_thrown.2.2.2.2, Or.inl (pq_gt5 (i := 205) rfl rfl)⟩
set_option maxRecDepth 100000 in
theorem ml_L_48 : pq_MI RL 48 0 yX11_init cX11_init 1 := ⟨ca_I_X11_init.1, ca_I_X11_init.2.1, ca_I_X11_init.2.2.1, ca_I_X11_init.2.2.2.1, ca_I_X11_init.2.2.2.2, Or.inl (pq_gt5 (i := 211) rfl rfl)⟩
set_option maxRecDepth 100000 in
theorem ml_L_54 : pq_MV RL 54 5 yX11_feed cX11_feed 6 ((some .int)) := ⟨ca_V_X11_feed.1, ca_V_X11_feed.2.1, ca_V_X11_feed.2.2.1, ca_V_X11_feed.2.2.2.1, ca_V_X11_feed.2.2.2.2, Or.inl (pq_gt6 (i := 235) rfl rfl)⟩
set_option maxRecDepth 100000 in
theorem ml_L_58 : pq_MV RL 58 1 yX11_end cX11_end 2 ((some .int)) := ⟨ca_V_X11_end.1, ca_V_X11_end.2.1, ca_V_X11_end.2.2.1, ca_V_X11_end.2.2.2.1, ca_V_X11_end.2.2.2.2, Or.inl (pq_gt7 (i := 7) rfl rfl)⟩
set_option maxRecDepth 100000 in
theorem ml_L_61 : pq_MV RL 61 1 yX11_set cX11_set 4 ((some .int)) := ⟨ca_V_X11_set.1, ca_V_X11_set.2.1, ca_V_X11_set.2.2.1, ca_V_X11_set.2.2.2.1, ca_V_X11_set.2.2.2.2, Or.inl (pq_gt7 (i := 11) rfl rfl)⟩
set_option maxRecDepth 100000 in
theorem ml_L_64 : pq_MV RL 64 1 yX11_empty cX11_empty 3 ((some .boolean)) := ⟨ca_V_X11_empty.1, ca_V_X11_empty.2.1, ca_V_X11_empty.2.2.1, ca_V_X11_empty.2.2.2.1, ca_V_X11_empty.2.2.2.2, Or.inl (pq_gt7 (i := 19) rfl rfl)⟩
set_option maxRecDepth 100000 in
theorem ml_L_67 : pq_MV RL 67 1 yX11_fits cX11_fits 5 ((some .boolean)) := ⟨ca_V_X11_fits.1, ca_V_X11_fits.2.1, ca_V_X11_fits.2.2.1, ca_V_X11_fits.2.2.2.1, ca_V_X11_fits.2.2.2.2, Or.inl (pq_gt7 (i := 23) rfl rfl)⟩
set_option maxRecDepth 100000 in
theorem ml_L_70 : pq_MV RL 70 1 yX11_first cX11_first 7 ((some .int)) := ⟨ca_V_X11_first.1, ca_V_X11_first.2.1, ca_V_X11_first.2.2.1, ca_V_X11_first.2.2.2.1, ca_V_X11_first.2.2.2.2, Or.inl (pq_gt7 (i := 27) rfl rfl)⟩
set_option maxRecDepth 100000 in
theorem ml_L_73 : pq_MV RL 73 1 yX11_octet cX11_octet 2 ((some .int)) := ⟨ca_V_X11_octet.1, ca_V_X11_octet.2.1, ca_V_X11_octet.2.2.1, ca_V_X11_octet.2.2.2.1, ca_V_X11_octet.2.2.2.2, Or.inl (pq_gt7 (i := 39) rfl rfl)⟩
set_option maxRecDepth 100000 in
theorem ml_L_81 : pq_MV RL 81 2 yX11_count cX11_count 7 ((some .long)) := ⟨ca_V_X11_count.1, ca_V_X11_count.2.1, ca_V_X11_count.2.2.1, ca_V_X11_count.2.2.2.1, ca_V_X11_count.2.2.2.2, Or.inl (pq_gt7 (i := 43) rfl rfl)⟩
set_option maxRecDepth 100000 in
theorem ml_L_85 : pq_MV RL 85 0 yX11_place cX11_place 1 ((some .int)) := ⟨ca_V_X11_place.1, ca_V_X11_place.2.1, ca_V_X11_place.2.2.1, ca_V_X11_place.2.2.2.1, ca_V_X11_place.2.2.2.2, Or.inl (pq_gt7 (i := 47) rfl rfl)⟩
set_option maxRecDepth 100000 in
theorem cl_L_8 : Cond.classLink RL 8 "PatternPairs" ∈ gtb := pq_gt1 (i := 33) rfl rfl
set_option maxRecDepth 100000 in
theorem nw_L_8 : pq_Nw RL 8 13 9 (fun k => defaultValue (tyX10 k)) := ⟨RX10, TX10, tyX10, rfl, rfl, in_X10, tyX10_ok, fun _ _ => rfl, pq_gt1 (i := 33) rfl rfl, pq_gt1 (i := 34) rfl rfl, pq_gt1 (i := 1) rfl rfl⟩
set_option maxRecDepth 100000 in
theorem cl_L_13 : Cond.classLink RL 13 "java/lang/IndexOutOfBoundsException" ∈ gtb := pq_gt2 (i := 133) rfl rfl
set_option maxRecDepth 100000 in
theorem cl_L_19 : Cond.classLink RL 19 "java/lang/IllegalArgumentException" ∈ gtb := pq_gt2 (i := 214) rfl rfl
set_option maxRecDepth 100000 in
theorem cl_L_24 : Cond.classLink RL 24 "java/lang/UnsupportedOperationException" ∈ gtb := pq_gt2 (i := 238) rfl rfl
set_option maxRecDepth 100000 in
theorem cl_L_39 : Cond.classLink RL 39 "java/util/NoSuchElementException" ∈ gtb := pq_gt5 (i := 167) rfl rfl
set_option maxRecDepth 100000 in
theorem cl_L_46 : Cond.classLink RL 46 "PatternPairsModel" ∈ gtb := pq_gt5 (i := 209) rfl rfl
set_option maxRecDepth 100000 in
theorem nw_L_46 : pq_Nw RL 46 14 47 (fun k => defaultValue (tyX11 k)) := ⟨RX11, TX11, tyX11, rfl, rfl, in_X11, tyX11_ok, fun _ _ => rfl, pq_gt5 (i := 209) rfl rfl, pq_gt5 (i := 210) rfl rfl, pq_gt1 (i := 12) rfl rfl⟩
