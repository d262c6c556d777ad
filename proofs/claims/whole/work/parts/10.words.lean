/-! THE TABLES' WORDS, by their places (printed by wip/whole/gen/words.py) -/
theorem kin_0 : ∀ w ∈ u_ws RX0 TX0 3, w ∈ zTB := fun w hw => zTB_of ((by decide +kernel : ∀ w ∈ u_ws RX0 TX0 3, w ∈ lw_tbl) w hw) (List.all_eq_true.mp (by decide +kernel : (u_ws RX0 TX0 3).all goodWord = true) w hw)
theorem kd_0 : z_kd 0 3 RX0 TX0 := ⟨rfl, by decide, kin_0, tyX0_ok, nmX0⟩
theorem inst_0 : Cond.instantiable RX0 3 ∈ zTB := zTB_of (List.mem_of_getElem? (i := 114) (by decide +kernel)) rfl
theorem kin_1 : ∀ w ∈ u_ws RX1 TX1 6, w ∈ zTB := fun w hw => zTB_of ((by decide +kernel : ∀ w ∈ u_ws RX1 TX1 6, w ∈ lw_tbl) w hw) (List.all_eq_true.mp (by decide +kernel : (u_ws RX1 TX1 6).all goodWord = true) w hw)
theorem kd_1 : z_kd 1 6 RX1 TX1 := ⟨rfl, by decide, kin_1, tyX1_ok, nmX1⟩
theorem inst_1 : Cond.instantiable RX1 6 ∈ zTB := zTB_of (List.mem_of_getElem? (i := 204) (by decide +kernel)) rfl
theorem kin_2 : ∀ w ∈ u_ws RX2 TX2 3, w ∈ zTB := fun w hw => zTB_of ((by decide +kernel : ∀ w ∈ u_ws RX2 TX2 3, w ∈ lw_tbl) w hw) (List.all_eq_true.mp (by decide +kernel : (u_ws RX2 TX2 3).all goodWord = true) w hw)
theorem kd_2 : z_kd 2 3 RX2 TX2 := ⟨rfl, by decide, kin_2, tyX2_ok, nmX2⟩
theorem inst_2 : Cond.instantiable RX2 3 ∈ zTB := zTB_of (List.mem_of_getElem? (i := 455) (by decide +kernel)) rfl
theorem kin_3 : ∀ w ∈ u_ws RX3 TX3 3, w ∈ zTB := fun w hw => zTB_of ((by decide +kernel : ∀ w ∈ u_ws RX3 TX3 3, w ∈ lw_tbl) w hw) (List.all_eq_true.mp (by decide +kernel : (u_ws RX3 TX3 3).all goodWord = true) w hw)
theorem kd_3 : z_kd 3 3 RX3 TX3 := ⟨rfl, by decide, kin_3, tyX3_ok, nmX3⟩
theorem inst_3 : Cond.instantiable RX3 3 ∈ zTB := zTB_of (List.mem_of_getElem? (i := 157) (by decide +kernel)) rfl
theorem kin_4 : ∀ w ∈ u_ws RX4 TX4 10, w ∈ zTB := fun w hw => zTB_of ((by decide +kernel : ∀ w ∈ u_ws RX4 TX4 10, w ∈ lw_tbl) w hw) (List.all_eq_true.mp (by decide +kernel : (u_ws RX4 TX4 10).all goodWord = true) w hw)
theorem kd_4 : z_kd 4 10 RX4 TX4 := ⟨rfl, by decide, kin_4, tyX4_ok, nmX4⟩
theorem inst_4 : Cond.instantiable RX4 10 ∈ zTB := zTB_of (List.mem_of_getElem? (i := 342) (by decide +kernel)) rfl
theorem kin_5 : ∀ w ∈ u_ws RX5 TX5 9, w ∈ zTB := fun w hw => zTB_of ((by decide +kernel : ∀ w ∈ u_ws RX5 TX5 9, w ∈ lw_tbl) w hw) (List.all_eq_true.mp (by decide +kernel : (u_ws RX5 TX5 9).all goodWord = true) w hw)
theorem kd_5 : z_kd 5 9 RX5 TX5 := ⟨rfl, by decide, kin_5, tyX5_ok, nmX5⟩
theorem inst_5 : Cond.instantiable RX5 9 ∈ zTB := zTB_of (List.mem_of_getElem? (i := 897) (by decide +kernel)) rfl
theorem kin_6 : ∀ w ∈ u_ws RX6 TX6 4, w ∈ zTB := fun w hw => zTB_of ((by decide +kernel : ∀ w ∈ u_ws RX6 TX6 4, w ∈ lw_tbl) w hw) (List.all_eq_true.mp (by decide +kernel : (u_ws RX6 TX6 4).all goodWord = true) w hw)
theorem kd_6 : z_kd 6 4 RX6 TX6 := ⟨rfl, by decide, kin_6, tyX6_ok, nmX6⟩
theorem inst_6 : Cond.instantiable RX6 4 ∈ zTB := zTB_of (List.mem_of_getElem? (i := 181) (by decide +kernel)) rfl
theorem kin_7 : ∀ w ∈ u_ws RX7 TX7 3, w ∈ zTB := fun w hw => zTB_of ((by decide +kernel : ∀ w ∈ u_ws RX7 TX7 3, w ∈ lw_tbl) w hw) (List.all_eq_true.mp (by decide +kernel : (u_ws RX7 TX7 3).all goodWord = true) w hw)
theorem kd_7 : z_kd 7 3 RX7 TX7 := ⟨rfl, by decide, kin_7, tyX7_ok, nmX7⟩
theorem inst_7 : Cond.instantiable RX7 3 ∈ zTB := zTB_of (List.mem_of_getElem? (i := 235) (by decide +kernel)) rfl
theorem kin_8 : ∀ w ∈ u_ws RX8 TX8 4, w ∈ zTB := fun w hw => zTB_of ((by decide +kernel : ∀ w ∈ u_ws RX8 TX8 4, w ∈ lw_tbl) w hw) (List.all_eq_true.mp (by decide +kernel : (u_ws RX8 TX8 4).all goodWord = true) w hw)
theorem kd_8 : z_kd 8 4 RX8 TX8 := ⟨rfl, by decide, kin_8, tyX8_ok, nmX8⟩
theorem inst_8 : Cond.instantiable RX8 4 ∈ zTB := zTB_of (List.mem_of_getElem? (i := 686) (by decide +kernel)) rfl
theorem kin_9 : ∀ w ∈ u_ws RX9 TX9 4, w ∈ zTB := fun w hw => zTB_of ((by decide +kernel : ∀ w ∈ u_ws RX9 TX9 4, w ∈ lw_tbl) w hw) (List.all_eq_true.mp (by decide +kernel : (u_ws RX9 TX9 4).all goodWord = true) w hw)
theorem kd_9 : z_kd 9 4 RX9 TX9 := ⟨rfl, by decide, kin_9, tyX9_ok, nmX9⟩
theorem inst_9 : Cond.instantiable RX9 4 ∈ zTB := zTB_of (List.mem_of_getElem? (i := 756) (by decide +kernel)) rfl
theorem kin_10 : ∀ w ∈ u_ws RX10 TX10 4, w ∈ zTB := fun w hw => zTB_of ((by decide +kernel : ∀ w ∈ u_ws RX10 TX10 4, w ∈ lw_tbl) w hw) (List.all_eq_true.mp (by decide +kernel : (u_ws RX10 TX10 4).all goodWord = true) w hw)
theorem kd_10 : z_kd 10 4 RX10 TX10 := ⟨rfl, by decide, kin_10, tyX10_ok, nmX10⟩
theorem inst_10 : Cond.instantiable RX10 4 ∈ zTB := zTB_of (List.mem_of_getElem? (i := 136) (by decide +kernel)) rfl
theorem kin_11 : ∀ w ∈ u_ws RX11 TX11 20, w ∈ zTB := fun w hw => zTB_of ((by decide +kernel : ∀ w ∈ u_ws RX11 TX11 20, w ∈ lw_tbl) w hw) (List.all_eq_true.mp (by decide +kernel : (u_ws RX11 TX11 20).all goodWord = true) w hw)
theorem kd_11 : z_kd 11 20 RX11 TX11 := ⟨rfl, by decide, kin_11, tyX11_ok, nmX11⟩
theorem inst_11 : Cond.instantiable RX11 20 ∈ zTB := zTB_of (List.mem_of_getElem? (i := 104) (by decide +kernel)) rfl
theorem kin_12 : ∀ w ∈ u_ws RX12 TX12 67, w ∈ zTB := fun w hw => zTB_of ((by decide +kernel : ∀ w ∈ u_ws RX12 TX12 67, w ∈ lw_tbl) w hw) (List.all_eq_true.mp (by decide +kernel : (u_ws RX12 TX12 67).all goodWord = true) w hw)
theorem kd_12 : z_kd 12 67 RX12 TX12 := ⟨rfl, by decide, kin_12, tyX12_ok, nmX12⟩
theorem inst_12 : Cond.instantiable RX12 67 ∈ zTB := zTB_of (List.mem_of_getElem? (i := 1059) (by decide +kernel)) rfl
theorem ini_X11 : Cond.initialized RX11 ∈ zTB := zTB_of (List.mem_of_getElem? (i := 83) (by decide +kernel)) rfl
theorem ini_X0 : Cond.initialized RX0 ∈ zTB := zTB_of (List.mem_of_getElem? (i := 84) (by decide +kernel)) rfl
theorem ini_X10 : Cond.initialized RX10 ∈ zTB := zTB_of (List.mem_of_getElem? (i := 85) (by decide +kernel)) rfl
theorem ini_X3 : Cond.initialized RX3 ∈ zTB := zTB_of (List.mem_of_getElem? (i := 86) (by decide +kernel)) rfl
theorem ini_X6 : Cond.initialized RX6 ∈ zTB := zTB_of (List.mem_of_getElem? (i := 87) (by decide +kernel)) rfl
theorem ini_X1 : Cond.initialized RX1 ∈ zTB := zTB_of (List.mem_of_getElem? (i := 88) (by decide +kernel)) rfl
theorem ini_X7 : Cond.initialized RX7 ∈ zTB := zTB_of (List.mem_of_getElem? (i := 89) (by decide +kernel)) rfl
theorem ini_X12 : Cond.initialized RX12 ∈ zTB := zTB_of (List.mem_of_getElem? (i := 90) (by decide +kernel)) rfl
theorem ini_X4 : Cond.initialized RX4 ∈ zTB := zTB_of (List.mem_of_getElem? (i := 91) (by decide +kernel)) rfl
theorem ini_J9 : Cond.initialized RJ9 ∈ zTB := zTB_of (List.mem_of_getElem? (i := 92) (by decide +kernel)) rfl
theorem ini_X2 : Cond.initialized RX2 ∈ zTB := zTB_of (List.mem_of_getElem? (i := 93) (by decide +kernel)) rfl
theorem ini_J0 : Cond.initialized RJ0 ∈ zTB := zTB_of (List.mem_of_getElem? (i := 94) (by decide +kernel)) rfl
theorem ini_J1 : Cond.initialized RJ1 ∈ zTB := zTB_of (List.mem_of_getElem? (i := 95) (by decide +kernel)) rfl
theorem ini_X8 : Cond.initialized RX8 ∈ zTB := zTB_of (List.mem_of_getElem? (i := 99) (by decide +kernel)) rfl
theorem ini_X9 : Cond.initialized RX9 ∈ zTB := zTB_of (List.mem_of_getElem? (i := 100) (by decide +kernel)) rfl
theorem ini_J6 : Cond.initialized RJ6 ∈ zTB := zTB_of (List.mem_of_getElem? (i := 101) (by decide +kernel)) rfl
theorem ini_X5 : Cond.initialized RX5 ∈ zTB := zTB_of (List.mem_of_getElem? (i := 102) (by decide +kernel)) rfl
theorem fl_X0_9 : z_fld RX0 9 0 0 true (.array .int) := ⟨3, RX0, TX0, kd_0, by decide, zTB_of (List.mem_of_getElem? (i := 119) (by decide +kernel)) rfl, rfl, rfl, rfl⟩
theorem fl_X0_15 : z_fld RX0 15 0 1 true (.array .int) := ⟨3, RX0, TX0, kd_0, by decide, zTB_of (List.mem_of_getElem? (i := 120) (by decide +kernel)) rfl, rfl, rfl, rfl⟩
theorem fl_X0_18 : z_fld RX0 18 0 2 false (.int) := ⟨3, RX0, TX0, kd_0, by decide, zTB_of (List.mem_of_getElem? (i := 121) (by decide +kernel)) rfl, rfl, rfl, rfl⟩
theorem fl_X11_209 : z_fld RX11 209 0 2 false (.int) := ⟨3, RX0, TX0, kd_0, by decide, zTB_of (List.mem_of_getElem? (i := 122) (by decide +kernel)) rfl, rfl, rfl, rfl⟩
theorem fl_X10_9 : z_fld RX10 9 10 0 true (.array .byte) := ⟨4, RX10, TX10, kd_10, by decide, zTB_of (List.mem_of_getElem? (i := 141) (by decide +kernel)) rfl, rfl, rfl, rfl⟩
theorem fl_X10_15 : z_fld RX10 15 10 1 false (.int) := ⟨4, RX10, TX10, kd_10, by decide, zTB_of (List.mem_of_getElem? (i := 142) (by decide +kernel)) rfl, rfl, rfl, rfl⟩
theorem fl_X11_192 : z_fld RX11 192 10 1 false (.int) := ⟨4, RX10, TX10, kd_10, by decide, zTB_of (List.mem_of_getElem? (i := 143) (by decide +kernel)) rfl, rfl, rfl, rfl⟩
theorem fl_X10_19 : z_fld RX10 19 10 2 false (.int) := ⟨4, RX10, TX10, kd_10, by decide, zTB_of (List.mem_of_getElem? (i := 144) (by decide +kernel)) rfl, rfl, rfl, rfl⟩
theorem fl_X10_26 : z_fld RX10 26 10 3 false (.int) := ⟨4, RX10, TX10, kd_10, by decide, zTB_of (List.mem_of_getElem? (i := 145) (by decide +kernel)) rfl, rfl, rfl, rfl⟩
theorem fl_X3_9 : z_fld RX3 9 3 0 true (.array .int) := ⟨3, RX3, TX3, kd_3, by decide, zTB_of (List.mem_of_getElem? (i := 166) (by decide +kernel)) rfl, rfl, rfl, rfl⟩
theorem fl_X3_15 : z_fld RX3 15 3 1 true (.array .int) := ⟨3, RX3, TX3, kd_3, by decide, zTB_of (List.mem_of_getElem? (i := 167) (by decide +kernel)) rfl, rfl, rfl, rfl⟩
theorem fl_X11_85 : z_fld RX11 85 3 2 false (.int) := ⟨3, RX3, TX3, kd_3, by decide, zTB_of (List.mem_of_getElem? (i := 168) (by decide +kernel)) rfl, rfl, rfl, rfl⟩
theorem fl_X3_21 : z_fld RX3 21 3 2 false (.int) := ⟨3, RX3, TX3, kd_3, by decide, zTB_of (List.mem_of_getElem? (i := 169) (by decide +kernel)) rfl, rfl, rfl, rfl⟩
theorem fl_X10_53 : z_fld RX10 53 3 2 false (.int) := ⟨3, RX3, TX3, kd_3, by decide, zTB_of (List.mem_of_getElem? (i := 170) (by decide +kernel)) rfl, rfl, rfl, rfl⟩
theorem fl_X6_9 : z_fld RX6 9 6 0 true (.array .int) := ⟨4, RX6, TX6, kd_6, by decide, zTB_of (List.mem_of_getElem? (i := 186) (by decide +kernel)) rfl, rfl, rfl, rfl⟩
theorem fl_X11_396 : z_fld RX11 396 6 0 true (.array .int) := ⟨4, RX6, TX6, kd_6, by decide, zTB_of (List.mem_of_getElem? (i := 187) (by decide +kernel)) rfl, rfl, rfl, rfl⟩
theorem fl_X6_15 : z_fld RX6 15 6 1 true (.array .int) := ⟨4, RX6, TX6, kd_6, by decide, zTB_of (List.mem_of_getElem? (i := 188) (by decide +kernel)) rfl, rfl, rfl, rfl⟩
theorem fl_X6_18 : z_fld RX6 18 6 2 true (.array .boolean) := ⟨4, RX6, TX6, kd_6, by decide, zTB_of (List.mem_of_getElem? (i := 189) (by decide +kernel)) rfl, rfl, rfl, rfl⟩
theorem fl_X11_392 : z_fld RX11 392 6 2 true (.array .boolean) := ⟨4, RX6, TX6, kd_6, by decide, zTB_of (List.mem_of_getElem? (i := 190) (by decide +kernel)) rfl, rfl, rfl, rfl⟩
theorem fl_X6_22 : z_fld RX6 22 6 3 false (.boolean) := ⟨4, RX6, TX6, kd_6, by decide, zTB_of (List.mem_of_getElem? (i := 191) (by decide +kernel)) rfl, rfl, rfl, rfl⟩
theorem fl_X11_386 : z_fld RX11 386 6 3 false (.boolean) := ⟨4, RX6, TX6, kd_6, by decide, zTB_of (List.mem_of_getElem? (i := 192) (by decide +kernel)) rfl, rfl, rfl, rfl⟩
theorem fl_X1_11 : z_fld RX1 11 1 0 true (.array .int) := ⟨6, RX1, TX1, kd_1, by decide, zTB_of (List.mem_of_getElem? (i := 209) (by decide +kernel)) rfl, rfl, rfl, rfl⟩
theorem fl_X11_438 : z_fld RX11 438 1 0 true (.array .int) := ⟨6, RX1, TX1, kd_1, by decide, zTB_of (List.mem_of_getElem? (i := 210) (by decide +kernel)) rfl, rfl, rfl, rfl⟩
theorem fl_X1_15 : z_fld RX1 15 1 1 true (.array .int) := ⟨6, RX1, TX1, kd_1, by decide, zTB_of (List.mem_of_getElem? (i := 211) (by decide +kernel)) rfl, rfl, rfl, rfl⟩
theorem fl_X11_435 : z_fld RX11 435 1 1 true (.array .int) := ⟨6, RX1, TX1, kd_1, by decide, zTB_of (List.mem_of_getElem? (i := 212) (by decide +kernel)) rfl, rfl, rfl, rfl⟩
theorem fl_X1_24 : z_fld RX1 24 1 2 false (.int) := ⟨6, RX1, TX1, kd_1, by decide, zTB_of (List.mem_of_getElem? (i := 213) (by decide +kernel)) rfl, rfl, rfl, rfl⟩
theorem fl_X11_272 : z_fld RX11 272 1 2 false (.int) := ⟨6, RX1, TX1, kd_1, by decide, zTB_of (List.mem_of_getElem? (i := 214) (by decide +kernel)) rfl, rfl, rfl, rfl⟩
theorem fl_X1_28 : z_fld RX1 28 1 3 false (.int) := ⟨6, RX1, TX1, kd_1, by decide, zTB_of (List.mem_of_getElem? (i := 215) (by decide +kernel)) rfl, rfl, rfl, rfl⟩
theorem fl_X1_18 : z_fld RX1 18 1 4 true (.array .int) := ⟨6, RX1, TX1, kd_1, by decide, zTB_of (List.mem_of_getElem? (i := 216) (by decide +kernel)) rfl, rfl, rfl, rfl⟩
theorem fl_X1_21 : z_fld RX1 21 1 5 true (.array .int) := ⟨6, RX1, TX1, kd_1, by decide, zTB_of (List.mem_of_getElem? (i := 217) (by decide +kernel)) rfl, rfl, rfl, rfl⟩
theorem fl_X7_9 : z_fld RX7 9 7 0 true (.array .int) := ⟨3, RX7, TX7, kd_7, by decide, zTB_of (List.mem_of_getElem? (i := 240) (by decide +kernel)) rfl, rfl, rfl, rfl⟩
theorem fl_X6_32 : z_fld RX6 32 7 0 true (.array .int) := ⟨3, RX7, TX7, kd_7, by decide, zTB_of (List.mem_of_getElem? (i := 241) (by decide +kernel)) rfl, rfl, rfl, rfl⟩
theorem fl_X11_374 : z_fld RX11 374 7 0 true (.array .int) := ⟨3, RX7, TX7, kd_7, by decide, zTB_of (List.mem_of_getElem? (i := 242) (by decide +kernel)) rfl, rfl, rfl, rfl⟩
theorem fl_X7_15 : z_fld RX7 15 7 1 false (.int) := ⟨3, RX7, TX7, kd_7, by decide, zTB_of (List.mem_of_getElem? (i := 243) (by decide +kernel)) rfl, rfl, rfl, rfl⟩
theorem fl_X11_366 : z_fld RX11 366 7 1 false (.int) := ⟨3, RX7, TX7, kd_7, by decide, zTB_of (List.mem_of_getElem? (i := 244) (by decide +kernel)) rfl, rfl, rfl, rfl⟩
theorem fl_X6_26 : z_fld RX6 26 7 2 false (.int) := ⟨3, RX7, TX7, kd_7, by decide, zTB_of (List.mem_of_getElem? (i := 245) (by decide +kernel)) rfl, rfl, rfl, rfl⟩
theorem fl_X7_28 : z_fld RX7 28 7 2 false (.int) := ⟨3, RX7, TX7, kd_7, by decide, zTB_of (List.mem_of_getElem? (i := 246) (by decide +kernel)) rfl, rfl, rfl, rfl⟩
theorem fl_X11_369 : z_fld RX11 369 7 2 false (.int) := ⟨3, RX7, TX7, kd_7, by decide, zTB_of (List.mem_of_getElem? (i := 247) (by decide +kernel)) rfl, rfl, rfl, rfl⟩
theorem fl_X11_9 : z_fld RX11 9 11 0 true (.array .int) := ⟨20, RX11, TX11, kd_11, by decide, zTB_of (List.mem_of_getElem? (i := 255) (by decide +kernel)) rfl, rfl, rfl, rfl⟩
theorem fl_X11_94 : z_fld RX11 94 11 1 false (.int) := ⟨20, RX11, TX11, kd_11, by decide, zTB_of (List.mem_of_getElem? (i := 256) (by decide +kernel)) rfl, rfl, rfl, rfl⟩
theorem fl_X11_15 : z_fld RX11 15 11 2 true (.array (.object "TenForOne$Person")) := ⟨20, RX11, TX11, kd_11, by decide, zTB_of (List.mem_of_getElem? (i := 257) (by decide +kernel)) rfl, rfl, rfl, rfl⟩
theorem fl_X11_107 : z_fld RX11 107 11 3 false (.int) := ⟨20, RX11, TX11, kd_11, by decide, zTB_of (List.mem_of_getElem? (i := 258) (by decide +kernel)) rfl, rfl, rfl, rfl⟩
theorem fl_X11_19 : z_fld RX11 19 11 4 true (.array .int) := ⟨20, RX11, TX11, kd_11, by decide, zTB_of (List.mem_of_getElem? (i := 259) (by decide +kernel)) rfl, rfl, rfl, rfl⟩
theorem fl_X11_215 : z_fld RX11 215 11 5 false (.int) := ⟨20, RX11, TX11, kd_11, by decide, zTB_of (List.mem_of_getElem? (i := 260) (by decide +kernel)) rfl, rfl, rfl, rfl⟩
theorem fl_X11_25 : z_fld RX11 25 11 6 true (.object "TenForOne$Fairs") := ⟨20, RX11, TX11, kd_11, by decide, zTB_of (List.mem_of_getElem? (i := 261) (by decide +kernel)) rfl, rfl, rfl, rfl⟩
theorem fl_X11_31 : z_fld RX11 31 11 7 true (.array (.object "TenForOne$Stay")) := ⟨20, RX11, TX11, kd_11, by decide, zTB_of (List.mem_of_getElem? (i := 262) (by decide +kernel)) rfl, rfl, rfl, rfl⟩
theorem fl_X11_259 : z_fld RX11 259 11 8 false (.int) := ⟨20, RX11, TX11, kd_11, by decide, zTB_of (List.mem_of_getElem? (i := 263) (by decide +kernel)) rfl, rfl, rfl, rfl⟩
theorem fl_X11_37 : z_fld RX11 37 11 9 true (.array (.object "TenForOne$Plea")) := ⟨20, RX11, TX11, kd_11, by decide, zTB_of (List.mem_of_getElem? (i := 264) (by decide +kernel)) rfl, rfl, rfl, rfl⟩
theorem fl_X11_294 : z_fld RX11 294 11 10 false (.int) := ⟨20, RX11, TX11, kd_11, by decide, zTB_of (List.mem_of_getElem? (i := 265) (by decide +kernel)) rfl, rfl, rfl, rfl⟩
theorem fl_X11_351 : z_fld RX11 351 11 11 false (.int) := ⟨20, RX11, TX11, kd_11, by decide, zTB_of (List.mem_of_getElem? (i := 266) (by decide +kernel)) rfl, rfl, rfl, rfl⟩
theorem fl_X11_44 : z_fld RX11 44 11 12 true (.object "TenForOne$Tape") := ⟨20, RX11, TX11, kd_11, by decide, zTB_of (List.mem_of_getElem? (i := 267) (by decide +kernel)) rfl, rfl, rfl, rfl⟩
theorem fl_X11_51 : z_fld RX11 51 11 13 false (.object "TenForOne$Laws") := ⟨20, RX11, TX11, kd_11, by decide, zTB_of (List.mem_of_getElem? (i := 268) (by decide +kernel)) rfl, rfl, rfl, rfl⟩
theorem fl_X11_55 : z_fld RX11 55 11 14 false (.object "TenForOne$Laws") := ⟨20, RX11, TX11, kd_11, by decide, zTB_of (List.mem_of_getElem? (i := 269) (by decide +kernel)) rfl, rfl, rfl, rfl⟩
theorem fl_X11_60 : z_fld RX11 60 11 15 true (.array (.object "TenForOne$Sheet")) := ⟨20, RX11, TX11, kd_11, by decide, zTB_of (List.mem_of_getElem? (i := 270) (by decide +kernel)) rfl, rfl, rfl, rfl⟩
theorem fl_X11_67 : z_fld RX11 67 11 16 true (.object "TenForOne$Roll") := ⟨20, RX11, TX11, kd_11, by decide, zTB_of (List.mem_of_getElem? (i := 271) (by decide +kernel)) rfl, rfl, rfl, rfl⟩
theorem fl_X11_74 : z_fld RX11 74 11 17 true (.object "TenForOne$Filling") := ⟨20, RX11, TX11, kd_11, by decide, zTB_of (List.mem_of_getElem? (i := 272) (by decide +kernel)) rfl, rfl, rfl, rfl⟩
theorem fl_X11_78 : z_fld RX11 78 11 18 true (.array .int) := ⟨20, RX11, TX11, kd_11, by decide, zTB_of (List.mem_of_getElem? (i := 273) (by decide +kernel)) rfl, rfl, rfl, rfl⟩
theorem fl_X11_164 : z_fld RX11 164 11 19 false (.int) := ⟨20, RX11, TX11, kd_11, by decide, zTB_of (List.mem_of_getElem? (i := 274) (by decide +kernel)) rfl, rfl, rfl, rfl⟩
theorem fl_X4_18 : z_fld RX4 18 4 0 true (.int) := ⟨10, RX4, TX4, kd_4, by decide, zTB_of (List.mem_of_getElem? (i := 347) (by decide +kernel)) rfl, rfl, rfl, rfl⟩
theorem fl_X11_117 : z_fld RX11 117 4 0 true (.int) := ⟨10, RX4, TX4, kd_4, by decide, zTB_of (List.mem_of_getElem? (i := 348) (by decide +kernel)) rfl, rfl, rfl, rfl⟩
theorem fl_X4_21 : z_fld RX4 21 4 1 true (.int) := ⟨10, RX4, TX4, kd_4, by decide, zTB_of (List.mem_of_getElem? (i := 349) (by decide +kernel)) rfl, rfl, rfl, rfl⟩
theorem fl_X11_143 : z_fld RX11 143 4 1 true (.int) := ⟨10, RX4, TX4, kd_4, by decide, zTB_of (List.mem_of_getElem? (i := 350) (by decide +kernel)) rfl, rfl, rfl, rfl⟩
theorem fl_X4_24 : z_fld RX4 24 4 2 true (.int) := ⟨10, RX4, TX4, kd_4, by decide, zTB_of (List.mem_of_getElem? (i := 351) (by decide +kernel)) rfl, rfl, rfl, rfl⟩
theorem fl_X11_120 : z_fld RX11 120 4 2 true (.int) := ⟨10, RX4, TX4, kd_4, by decide, zTB_of (List.mem_of_getElem? (i := 352) (by decide +kernel)) rfl, rfl, rfl, rfl⟩
theorem fl_X4_27 : z_fld RX4 27 4 3 true (.int) := ⟨10, RX4, TX4, kd_4, by decide, zTB_of (List.mem_of_getElem? (i := 353) (by decide +kernel)) rfl, rfl, rfl, rfl⟩
theorem fl_X11_123 : z_fld RX11 123 4 3 true (.int) := ⟨10, RX4, TX4, kd_4, by decide, zTB_of (List.mem_of_getElem? (i := 354) (by decide +kernel)) rfl, rfl, rfl, rfl⟩
theorem fl_X4_30 : z_fld RX4 30 4 4 true (.boolean) := ⟨10, RX4, TX4, kd_4, by decide, zTB_of (List.mem_of_getElem? (i := 355) (by decide +kernel)) rfl, rfl, rfl, rfl⟩
theorem fl_X11_126 : z_fld RX11 126 4 4 true (.boolean) := ⟨10, RX4, TX4, kd_4, by decide, zTB_of (List.mem_of_getElem? (i := 356) (by decide +kernel)) rfl, rfl, rfl, rfl⟩
theorem fl_X4_34 : z_fld RX4 34 4 5 true (.int) := ⟨10, RX4, TX4, kd_4, by decide, zTB_of (List.mem_of_getElem? (i := 357) (by decide +kernel)) rfl, rfl, rfl, rfl⟩
theorem fl_X11_130 : z_fld RX11 130 4 5 true (.int) := ⟨10, RX4, TX4, kd_4, by decide, zTB_of (List.mem_of_getElem? (i := 358) (by decide +kernel)) rfl, rfl, rfl, rfl⟩
theorem fl_X4_9 : z_fld RX4 9 4 6 false (.int) := ⟨10, RX4, TX4, kd_4, by decide, zTB_of (List.mem_of_getElem? (i := 359) (by decide +kernel)) rfl, rfl, rfl, rfl⟩
theorem fl_X11_137 : z_fld RX11 137 4 6 false (.int) := ⟨10, RX4, TX4, kd_4, by decide, zTB_of (List.mem_of_getElem? (i := 360) (by decide +kernel)) rfl, rfl, rfl, rfl⟩
theorem fl_X4_15 : z_fld RX4 15 4 7 false (.int) := ⟨10, RX4, TX4, kd_4, by decide, zTB_of (List.mem_of_getElem? (i := 361) (by decide +kernel)) rfl, rfl, rfl, rfl⟩
theorem fl_X11_288 : z_fld RX11 288 4 7 false (.int) := ⟨10, RX4, TX4, kd_4, by decide, zTB_of (List.mem_of_getElem? (i := 362) (by decide +kernel)) rfl, rfl, rfl, rfl⟩
theorem fl_X4_37 : z_fld RX4 37 4 8 false (.object "TenForOne$Flight") := ⟨10, RX4, TX4, kd_4, by decide, zTB_of (List.mem_of_getElem? (i := 363) (by decide +kernel)) rfl, rfl, rfl, rfl⟩
theorem fl_X11_169 : z_fld RX11 169 4 8 false (.object "TenForOne$Flight") := ⟨10, RX4, TX4, kd_4, by decide, zTB_of (List.mem_of_getElem? (i := 364) (by decide +kernel)) rfl, rfl, rfl, rfl⟩
theorem fl_X4_66 : z_fld RX4 66 4 9 false (.object "TenForOne$Spell") := ⟨10, RX4, TX4, kd_4, by decide, zTB_of (List.mem_of_getElem? (i := 365) (by decide +kernel)) rfl, rfl, rfl, rfl⟩
theorem fl_X11_232 : z_fld RX11 232 4 9 false (.object "TenForOne$Spell") := ⟨10, RX4, TX4, kd_4, by decide, zTB_of (List.mem_of_getElem? (i := 366) (by decide +kernel)) rfl, rfl, rfl, rfl⟩
theorem fl_X2_15 : z_fld RX2 15 2 0 true (.int) := ⟨3, RX2, TX2, kd_2, by decide, zTB_of (List.mem_of_getElem? (i := 460) (by decide +kernel)) rfl, rfl, rfl, rfl⟩
theorem fl_X5_38 : z_fld RX5 38 2 0 true (.int) := ⟨3, RX2, TX2, kd_2, by decide, zTB_of (List.mem_of_getElem? (i := 461) (by decide +kernel)) rfl, rfl, rfl, rfl⟩
theorem fl_X4_46 : z_fld RX4 46 2 0 true (.int) := ⟨3, RX2, TX2, kd_2, by decide, zTB_of (List.mem_of_getElem? (i := 462) (by decide +kernel)) rfl, rfl, rfl, rfl⟩
theorem fl_X11_176 : z_fld RX11 176 2 0 true (.int) := ⟨3, RX2, TX2, kd_2, by decide, zTB_of (List.mem_of_getElem? (i := 463) (by decide +kernel)) rfl, rfl, rfl, rfl⟩
theorem fl_X2_18 : z_fld RX2 18 2 1 true (.object "TenForOne$Flight") := ⟨3, RX2, TX2, kd_2, by decide, zTB_of (List.mem_of_getElem? (i := 464) (by decide +kernel)) rfl, rfl, rfl, rfl⟩
theorem fl_X4_63 : z_fld RX4 63 2 1 true (.object "TenForOne$Flight") := ⟨3, RX2, TX2, kd_2, by decide, zTB_of (List.mem_of_getElem? (i := 465) (by decide +kernel)) rfl, rfl, rfl, rfl⟩
theorem fl_X2_9 : z_fld RX2 9 2 2 false (.int) := ⟨3, RX2, TX2, kd_2, by decide, zTB_of (List.mem_of_getElem? (i := 466) (by decide +kernel)) rfl, rfl, rfl, rfl⟩
theorem fl_X5_33 : z_fld RX5 33 2 2 false (.int) := ⟨3, RX2, TX2, kd_2, by decide, zTB_of (List.mem_of_getElem? (i := 467) (by decide +kernel)) rfl, rfl, rfl, rfl⟩
theorem fl_X4_41 : z_fld RX4 41 2 2 false (.int) := ⟨3, RX2, TX2, kd_2, by decide, zTB_of (List.mem_of_getElem? (i := 468) (by decide +kernel)) rfl, rfl, rfl, rfl⟩
theorem fl_X11_179 : z_fld RX11 179 2 2 false (.int) := ⟨3, RX2, TX2, kd_2, by decide, zTB_of (List.mem_of_getElem? (i := 469) (by decide +kernel)) rfl, rfl, rfl, rfl⟩
theorem fs_J0_38 : Cond.fieldLink RJ0 38 "java/lang/String" "COMPACT_STRINGS" "Z" ∈ zTB := zTB_of (List.mem_of_getElem? (i := 543) (by decide +kernel)) rfl
theorem fs_J0_1053 : Cond.fieldLink RJ0 1053 "jdk/internal/util/Preconditions" "SIOOBE_FORMATTER" "Ljava/util/function/BiFunction;" ∈ zTB := zTB_of (List.mem_of_getElem? (i := 584) (by decide +kernel)) rfl
theorem fl_X8_15 : z_fld RX8 15 8 0 true (.int) := ⟨4, RX8, TX8, kd_8, by decide, zTB_of (List.mem_of_getElem? (i := 691) (by decide +kernel)) rfl, rfl, rfl, rfl⟩
theorem fl_X4_85 : z_fld RX4 85 8 0 true (.int) := ⟨4, RX8, TX8, kd_8, by decide, zTB_of (List.mem_of_getElem? (i := 692) (by decide +kernel)) rfl, rfl, rfl, rfl⟩
theorem fl_X11_242 : z_fld RX11 242 8 0 true (.int) := ⟨4, RX8, TX8, kd_8, by decide, zTB_of (List.mem_of_getElem? (i := 693) (by decide +kernel)) rfl, rfl, rfl, rfl⟩
theorem fl_X8_18 : z_fld RX8 18 8 1 true (.int) := ⟨4, RX8, TX8, kd_8, by decide, zTB_of (List.mem_of_getElem? (i := 694) (by decide +kernel)) rfl, rfl, rfl, rfl⟩
theorem fl_X4_75 : z_fld RX4 75 8 1 true (.int) := ⟨4, RX8, TX8, kd_8, by decide, zTB_of (List.mem_of_getElem? (i := 695) (by decide +kernel)) rfl, rfl, rfl, rfl⟩
theorem fl_X11_241 : z_fld RX11 241 8 1 true (.int) := ⟨4, RX8, TX8, kd_8, by decide, zTB_of (List.mem_of_getElem? (i := 696) (by decide +kernel)) rfl, rfl, rfl, rfl⟩
theorem fl_X8_21 : z_fld RX8 21 8 2 true (.object "TenForOne$Spell") := ⟨4, RX8, TX8, kd_8, by decide, zTB_of (List.mem_of_getElem? (i := 697) (by decide +kernel)) rfl, rfl, rfl, rfl⟩
theorem fl_X4_79 : z_fld RX4 79 8 2 true (.object "TenForOne$Spell") := ⟨4, RX8, TX8, kd_8, by decide, zTB_of (List.mem_of_getElem? (i := 698) (by decide +kernel)) rfl, rfl, rfl, rfl⟩
theorem fl_X8_9 : z_fld RX8 9 8 3 false (.int) := ⟨4, RX8, TX8, kd_8, by decide, zTB_of (List.mem_of_getElem? (i := 699) (by decide +kernel)) rfl, rfl, rfl, rfl⟩
theorem fl_X4_70 : z_fld RX4 70 8 3 false (.int) := ⟨4, RX8, TX8, kd_8, by decide, zTB_of (List.mem_of_getElem? (i := 700) (by decide +kernel)) rfl, rfl, rfl, rfl⟩
theorem fl_X11_236 : z_fld RX11 236 8 3 false (.int) := ⟨4, RX8, TX8, kd_8, by decide, zTB_of (List.mem_of_getElem? (i := 701) (by decide +kernel)) rfl, rfl, rfl, rfl⟩
theorem fl_X9_7 : z_fld RX9 7 9 0 true (.int) := ⟨4, RX9, TX9, kd_9, by decide, zTB_of (List.mem_of_getElem? (i := 761) (by decide +kernel)) rfl, rfl, rfl, rfl⟩
theorem fl_X11_411 : z_fld RX11 411 9 0 true (.int) := ⟨4, RX9, TX9, kd_9, by decide, zTB_of (List.mem_of_getElem? (i := 762) (by decide +kernel)) rfl, rfl, rfl, rfl⟩
theorem fl_X9_13 : z_fld RX9 13 9 1 true (.int) := ⟨4, RX9, TX9, kd_9, by decide, zTB_of (List.mem_of_getElem? (i := 763) (by decide +kernel)) rfl, rfl, rfl, rfl⟩
theorem fl_X11_424 : z_fld RX11 424 9 1 true (.int) := ⟨4, RX9, TX9, kd_9, by decide, zTB_of (List.mem_of_getElem? (i := 764) (by decide +kernel)) rfl, rfl, rfl, rfl⟩
theorem fl_X9_16 : z_fld RX9 16 9 2 true (.int) := ⟨4, RX9, TX9, kd_9, by decide, zTB_of (List.mem_of_getElem? (i := 765) (by decide +kernel)) rfl, rfl, rfl, rfl⟩
theorem fl_X11_415 : z_fld RX11 415 9 2 true (.int) := ⟨4, RX9, TX9, kd_9, by decide, zTB_of (List.mem_of_getElem? (i := 766) (by decide +kernel)) rfl, rfl, rfl, rfl⟩
theorem fl_X9_19 : z_fld RX9 19 9 3 true (.int) := ⟨4, RX9, TX9, kd_9, by decide, zTB_of (List.mem_of_getElem? (i := 767) (by decide +kernel)) rfl, rfl, rfl, rfl⟩
theorem fl_X11_412 : z_fld RX11 412 9 3 true (.int) := ⟨4, RX9, TX9, kd_9, by decide, zTB_of (List.mem_of_getElem? (i := 768) (by decide +kernel)) rfl, rfl, rfl, rfl⟩
theorem fl_X5_19 : z_fld RX5 19 5 0 true (.int) := ⟨9, RX5, TX5, kd_5, by decide, zTB_of (List.mem_of_getElem? (i := 902) (by decide +kernel)) rfl, rfl, rfl, rfl⟩
theorem fl_X11_304 : z_fld RX11 304 5 0 true (.int) := ⟨9, RX5, TX5, kd_5, by decide, zTB_of (List.mem_of_getElem? (i := 903) (by decide +kernel)) rfl, rfl, rfl, rfl⟩
theorem fl_X5_23 : z_fld RX5 23 5 1 true (.object "TenForOne$Flight") := ⟨9, RX5, TX5, kd_5, by decide, zTB_of (List.mem_of_getElem? (i := 904) (by decide +kernel)) rfl, rfl, rfl, rfl⟩
theorem fl_X11_307 : z_fld RX11 307 5 1 true (.object "TenForOne$Flight") := ⟨9, RX5, TX5, kd_5, by decide, zTB_of (List.mem_of_getElem? (i := 905) (by decide +kernel)) rfl, rfl, rfl, rfl⟩
theorem fl_X5_27 : z_fld RX5 27 5 2 true (.int) := ⟨9, RX5, TX5, kd_5, by decide, zTB_of (List.mem_of_getElem? (i := 906) (by decide +kernel)) rfl, rfl, rfl, rfl⟩
theorem fl_X11_310 : z_fld RX11 310 5 2 true (.int) := ⟨9, RX5, TX5, kd_5, by decide, zTB_of (List.mem_of_getElem? (i := 907) (by decide +kernel)) rfl, rfl, rfl, rfl⟩
theorem fl_X5_30 : z_fld RX5 30 5 3 true (.int) := ⟨9, RX5, TX5, kd_5, by decide, zTB_of (List.mem_of_getElem? (i := 908) (by decide +kernel)) rfl, rfl, rfl, rfl⟩
theorem fl_X11_311 : z_fld RX11 311 5 3 true (.int) := ⟨9, RX5, TX5, kd_5, by decide, zTB_of (List.mem_of_getElem? (i := 909) (by decide +kernel)) rfl, rfl, rfl, rfl⟩
theorem fl_X5_9 : z_fld RX5 9 5 4 true (.array .boolean) := ⟨9, RX5, TX5, kd_5, by decide, zTB_of (List.mem_of_getElem? (i := 910) (by decide +kernel)) rfl, rfl, rfl, rfl⟩
theorem fl_X11_461 : z_fld RX11 461 5 4 true (.array .boolean) := ⟨9, RX5, TX5, kd_5, by decide, zTB_of (List.mem_of_getElem? (i := 911) (by decide +kernel)) rfl, rfl, rfl, rfl⟩
theorem fl_X5_15 : z_fld RX5 15 5 5 true (.array .int) := ⟨9, RX5, TX5, kd_5, by decide, zTB_of (List.mem_of_getElem? (i := 912) (by decide +kernel)) rfl, rfl, rfl, rfl⟩
theorem fl_X11_333 : z_fld RX11 333 5 5 true (.array .int) := ⟨9, RX5, TX5, kd_5, by decide, zTB_of (List.mem_of_getElem? (i := 913) (by decide +kernel)) rfl, rfl, rfl, rfl⟩
theorem fl_X11_314 : z_fld RX11 314 5 6 false (.int) := ⟨9, RX5, TX5, kd_5, by decide, zTB_of (List.mem_of_getElem? (i := 914) (by decide +kernel)) rfl, rfl, rfl, rfl⟩
theorem fl_X5_41 : z_fld RX5 41 5 7 false (.boolean) := ⟨9, RX5, TX5, kd_5, by decide, zTB_of (List.mem_of_getElem? (i := 915) (by decide +kernel)) rfl, rfl, rfl, rfl⟩
theorem fl_X11_323 : z_fld RX11 323 5 7 false (.boolean) := ⟨9, RX5, TX5, kd_5, by decide, zTB_of (List.mem_of_getElem? (i := 916) (by decide +kernel)) rfl, rfl, rfl, rfl⟩
theorem fl_X11_330 : z_fld RX11 330 5 8 false (.boolean) := ⟨9, RX5, TX5, kd_5, by decide, zTB_of (List.mem_of_getElem? (i := 917) (by decide +kernel)) rfl, rfl, rfl, rfl⟩
theorem fl_X12_167 : z_fld RX12 167 12 0 false (.int) := ⟨67, RX12, TX12, kd_12, by decide, zTB_of (List.mem_of_getElem? (i := 1065) (by decide +kernel)) rfl, rfl, rfl, rfl⟩
theorem fl_X12_7 : z_fld RX12 7 12 1 true (.array .int) := ⟨67, RX12, TX12, kd_12, by decide, zTB_of (List.mem_of_getElem? (i := 1066) (by decide +kernel)) rfl, rfl, rfl, rfl⟩
theorem fl_X12_164 : z_fld RX12 164 12 2 false (.int) := ⟨67, RX12, TX12, kd_12, by decide, zTB_of (List.mem_of_getElem? (i := 1067) (by decide +kernel)) rfl, rfl, rfl, rfl⟩
theorem fl_X12_13 : z_fld RX12 13 12 3 true (.array .int) := ⟨67, RX12, TX12, kd_12, by decide, zTB_of (List.mem_of_getElem? (i := 1068) (by decide +kernel)) rfl, rfl, rfl, rfl⟩
theorem fl_X12_16 : z_fld RX12 16 12 4 true (.array .int) := ⟨67, RX12, TX12, kd_12, by decide, zTB_of (List.mem_of_getElem? (i := 1069) (by decide +kernel)) rfl, rfl, rfl, rfl⟩
theorem fl_X12_19 : z_fld RX12 19 12 5 true (.array .int) := ⟨67, RX12, TX12, kd_12, by decide, zTB_of (List.mem_of_getElem? (i := 1070) (by decide +kernel)) rfl, rfl, rfl, rfl⟩
theorem fl_X12_22 : z_fld RX12 22 12 6 true (.array .int) := ⟨67, RX12, TX12, kd_12, by decide, zTB_of (List.mem_of_getElem? (i := 1071) (by decide +kernel)) rfl, rfl, rfl, rfl⟩
theorem fl_X12_25 : z_fld RX12 25 12 7 true (.array .boolean) := ⟨67, RX12, TX12, kd_12, by decide, zTB_of (List.mem_of_getElem? (i := 1072) (by decide +kernel)) rfl, rfl, rfl, rfl⟩
theorem fl_X12_29 : z_fld RX12 29 12 8 true (.array .int) := ⟨67, RX12, TX12, kd_12, by decide, zTB_of (List.mem_of_getElem? (i := 1073) (by decide +kernel)) rfl, rfl, rfl, rfl⟩
theorem fl_X12_32 : z_fld RX12 32 12 9 true (.array .int) := ⟨67, RX12, TX12, kd_12, by decide, zTB_of (List.mem_of_getElem? (i := 1074) (by decide +kernel)) rfl, rfl, rfl, rfl⟩
theorem fl_X12_184 : z_fld RX12 184 12 10 false (.int) := ⟨67, RX12, TX12, kd_12, by decide, zTB_of (List.mem_of_getElem? (i := 1075) (by decide +kernel)) rfl, rfl, rfl, rfl⟩
theorem fl_X12_35 : z_fld RX12 35 12 11 true (.array .int) := ⟨67, RX12, TX12, kd_12, by decide, zTB_of (List.mem_of_getElem? (i := 1076) (by decide +kernel)) rfl, rfl, rfl, rfl⟩
theorem fl_X12_38 : z_fld RX12 38 12 12 true (.array .int) := ⟨67, RX12, TX12, kd_12, by decide, zTB_of (List.mem_of_getElem? (i := 1077) (by decide +kernel)) rfl, rfl, rfl, rfl⟩
theorem fl_X12_41 : z_fld RX12 41 12 13 true (.array .int) := ⟨67, RX12, TX12, kd_12, by decide, zTB_of (List.mem_of_getElem? (i := 1078) (by decide +kernel)) rfl, rfl, rfl, rfl⟩
theorem fl_X12_44 : z_fld RX12 44 12 14 true (.array .int) := ⟨67, RX12, TX12, kd_12, by decide, zTB_of (List.mem_of_getElem? (i := 1079) (by decide +kernel)) rfl, rfl, rfl, rfl⟩
theorem fl_X12_205 : z_fld RX12 205 12 15 false (.int) := ⟨67, RX12, TX12, kd_12, by decide, zTB_of (List.mem_of_getElem? (i := 1080) (by decide +kernel)) rfl, rfl, rfl, rfl⟩
theorem fl_X12_48 : z_fld RX12 48 12 16 true (.array .int) := ⟨67, RX12, TX12, kd_12, by decide, zTB_of (List.mem_of_getElem? (i := 1081) (by decide +kernel)) rfl, rfl, rfl, rfl⟩
theorem fl_X12_51 : z_fld RX12 51 12 17 true (.array .int) := ⟨67, RX12, TX12, kd_12, by decide, zTB_of (List.mem_of_getElem? (i := 1082) (by decide +kernel)) rfl, rfl, rfl, rfl⟩
theorem fl_X12_54 : z_fld RX12 54 12 18 false (.int) := ⟨67, RX12, TX12, kd_12, by decide, zTB_of (List.mem_of_getElem? (i := 1083) (by decide +kernel)) rfl, rfl, rfl, rfl⟩
theorem fl_X12_208 : z_fld RX12 208 12 19 false (.int) := ⟨67, RX12, TX12, kd_12, by decide, zTB_of (List.mem_of_getElem? (i := 1084) (by decide +kernel)) rfl, rfl, rfl, rfl⟩
theorem fl_X12_211 : z_fld RX12 211 12 20 false (.int) := ⟨67, RX12, TX12, kd_12, by decide, zTB_of (List.mem_of_getElem? (i := 1085) (by decide +kernel)) rfl, rfl, rfl, rfl⟩
theorem fl_X12_220 : z_fld RX12 220 12 21 false (.int) := ⟨67, RX12, TX12, kd_12, by decide, zTB_of (List.mem_of_getElem? (i := 1086) (by decide +kernel)) rfl, rfl, rfl, rfl⟩
theorem fl_X12_217 : z_fld RX12 217 12 22 false (.int) := ⟨67, RX12, TX12, kd_12, by decide, zTB_of (List.mem_of_getElem? (i := 1087) (by decide +kernel)) rfl, rfl, rfl, rfl⟩
theorem fl_X12_58 : z_fld RX12 58 12 23 true (.array .int) := ⟨67, RX12, TX12, kd_12, by decide, zTB_of (List.mem_of_getElem? (i := 1088) (by decide +kernel)) rfl, rfl, rfl, rfl⟩
theorem fl_X12_61 : z_fld RX12 61 12 24 true (.array .int) := ⟨67, RX12, TX12, kd_12, by decide, zTB_of (List.mem_of_getElem? (i := 1089) (by decide +kernel)) rfl, rfl, rfl, rfl⟩
theorem fl_X12_233 : z_fld RX12 233 12 25 false (.int) := ⟨67, RX12, TX12, kd_12, by decide, zTB_of (List.mem_of_getElem? (i := 1090) (by decide +kernel)) rfl, rfl, rfl, rfl⟩
theorem fl_X12_245 : z_fld RX12 245 12 26 false (.int) := ⟨67, RX12, TX12, kd_12, by decide, zTB_of (List.mem_of_getElem? (i := 1091) (by decide +kernel)) rfl, rfl, rfl, rfl⟩
theorem fl_X12_64 : z_fld RX12 64 12 27 true (.array .int) := ⟨67, RX12, TX12, kd_12, by decide, zTB_of (List.mem_of_getElem? (i := 1092) (by decide +kernel)) rfl, rfl, rfl, rfl⟩
theorem fl_X12_67 : z_fld RX12 67 12 28 true (.array .int) := ⟨67, RX12, TX12, kd_12, by decide, zTB_of (List.mem_of_getElem? (i := 1093) (by decide +kernel)) rfl, rfl, rfl, rfl⟩
theorem fl_X12_248 : z_fld RX12 248 12 29 false (.int) := ⟨67, RX12, TX12, kd_12, by decide, zTB_of (List.mem_of_getElem? (i := 1094) (by decide +kernel)) rfl, rfl, rfl, rfl⟩
theorem fl_X12_70 : z_fld RX12 70 12 30 true (.array .int) := ⟨67, RX12, TX12, kd_12, by decide, zTB_of (List.mem_of_getElem? (i := 1095) (by decide +kernel)) rfl, rfl, rfl, rfl⟩
theorem fl_X12_251 : z_fld RX12 251 12 31 false (.int) := ⟨67, RX12, TX12, kd_12, by decide, zTB_of (List.mem_of_getElem? (i := 1096) (by decide +kernel)) rfl, rfl, rfl, rfl⟩
theorem fl_X12_73 : z_fld RX12 73 12 32 true (.array .int) := ⟨67, RX12, TX12, kd_12, by decide, zTB_of (List.mem_of_getElem? (i := 1097) (by decide +kernel)) rfl, rfl, rfl, rfl⟩
theorem fl_X12_76 : z_fld RX12 76 12 33 true (.array .int) := ⟨67, RX12, TX12, kd_12, by decide, zTB_of (List.mem_of_getElem? (i := 1098) (by decide +kernel)) rfl, rfl, rfl, rfl⟩
theorem fl_X12_79 : z_fld RX12 79 12 34 true (.array .int) := ⟨67, RX12, TX12, kd_12, by decide, zTB_of (List.mem_of_getElem? (i := 1099) (by decide +kernel)) rfl, rfl, rfl, rfl⟩
theorem fl_X12_82 : z_fld RX12 82 12 35 true (.array .int) := ⟨67, RX12, TX12, kd_12, by decide, zTB_of (List.mem_of_getElem? (i := 1100) (by decide +kernel)) rfl, rfl, rfl, rfl⟩
theorem fl_X12_277 : z_fld RX12 277 12 36 false (.int) := ⟨67, RX12, TX12, kd_12, by decide, zTB_of (List.mem_of_getElem? (i := 1101) (by decide +kernel)) rfl, rfl, rfl, rfl⟩
theorem fl_X12_85 : z_fld RX12 85 12 37 true (.array .int) := ⟨67, RX12, TX12, kd_12, by decide, zTB_of (List.mem_of_getElem? (i := 1102) (by decide +kernel)) rfl, rfl, rfl, rfl⟩
theorem fl_X12_88 : z_fld RX12 88 12 38 true (.array .int) := ⟨67, RX12, TX12, kd_12, by decide, zTB_of (List.mem_of_getElem? (i := 1103) (by decide +kernel)) rfl, rfl, rfl, rfl⟩
theorem fl_X12_91 : z_fld RX12 91 12 39 true (.array .int) := ⟨67, RX12, TX12, kd_12, by decide, zTB_of (List.mem_of_getElem? (i := 1104) (by decide +kernel)) rfl, rfl, rfl, rfl⟩
theorem fl_X12_94 : z_fld RX12 94 12 40 true (.array .int) := ⟨67, RX12, TX12, kd_12, by decide, zTB_of (List.mem_of_getElem? (i := 1105) (by decide +kernel)) rfl, rfl, rfl, rfl⟩
theorem fl_X12_292 : z_fld RX12 292 12 41 false (.int) := ⟨67, RX12, TX12, kd_12, by decide, zTB_of (List.mem_of_getElem? (i := 1106) (by decide +kernel)) rfl, rfl, rfl, rfl⟩
theorem fl_X12_97 : z_fld RX12 97 12 42 true (.array .int) := ⟨67, RX12, TX12, kd_12, by decide, zTB_of (List.mem_of_getElem? (i := 1107) (by decide +kernel)) rfl, rfl, rfl, rfl⟩
theorem fl_X12_100 : z_fld RX12 100 12 43 true (.array .int) := ⟨67, RX12, TX12, kd_12, by decide, zTB_of (List.mem_of_getElem? (i := 1108) (by decide +kernel)) rfl, rfl, rfl, rfl⟩
theorem fl_X12_103 : z_fld RX12 103 12 44 true (.array .int) := ⟨67, RX12, TX12, kd_12, by decide, zTB_of (List.mem_of_getElem? (i := 1109) (by decide +kernel)) rfl, rfl, rfl, rfl⟩
theorem fl_X12_106 : z_fld RX12 106 12 45 true (.array .int) := ⟨67, RX12, TX12, kd_12, by decide, zTB_of (List.mem_of_getElem? (i := 1110) (by decide +kernel)) rfl, rfl, rfl, rfl⟩
theorem fl_X12_109 : z_fld RX12 109 12 46 true (.array .int) := ⟨67, RX12, TX12, kd_12, by decide, zTB_of (List.mem_of_getElem? (i := 1111) (by decide +kernel)) rfl, rfl, rfl, rfl⟩
theorem fl_X12_112 : z_fld RX12 112 12 47 true (.array .boolean) := ⟨67, RX12, TX12, kd_12, by decide, zTB_of (List.mem_of_getElem? (i := 1112) (by decide +kernel)) rfl, rfl, rfl, rfl⟩
theorem fl_X12_115 : z_fld RX12 115 12 48 true (.array .int) := ⟨67, RX12, TX12, kd_12, by decide, zTB_of (List.mem_of_getElem? (i := 1113) (by decide +kernel)) rfl, rfl, rfl, rfl⟩
theorem fl_X12_312 : z_fld RX12 312 12 49 false (.boolean) := ⟨67, RX12, TX12, kd_12, by decide, zTB_of (List.mem_of_getElem? (i := 1114) (by decide +kernel)) rfl, rfl, rfl, rfl⟩
theorem fl_X12_316 : z_fld RX12 316 12 50 false (.int) := ⟨67, RX12, TX12, kd_12, by decide, zTB_of (List.mem_of_getElem? (i := 1115) (by decide +kernel)) rfl, rfl, rfl, rfl⟩
theorem fl_X12_118 : z_fld RX12 118 12 51 true (.array .int) := ⟨67, RX12, TX12, kd_12, by decide, zTB_of (List.mem_of_getElem? (i := 1116) (by decide +kernel)) rfl, rfl, rfl, rfl⟩
theorem fl_X12_121 : z_fld RX12 121 12 52 true (.array .int) := ⟨67, RX12, TX12, kd_12, by decide, zTB_of (List.mem_of_getElem? (i := 1117) (by decide +kernel)) rfl, rfl, rfl, rfl⟩
theorem fl_X12_124 : z_fld RX12 124 12 53 true (.array .int) := ⟨67, RX12, TX12, kd_12, by decide, zTB_of (List.mem_of_getElem? (i := 1118) (by decide +kernel)) rfl, rfl, rfl, rfl⟩
theorem fl_X12_127 : z_fld RX12 127 12 54 true (.array .boolean) := ⟨67, RX12, TX12, kd_12, by decide, zTB_of (List.mem_of_getElem? (i := 1119) (by decide +kernel)) rfl, rfl, rfl, rfl⟩
theorem fl_X12_130 : z_fld RX12 130 12 55 true (.array .boolean) := ⟨67, RX12, TX12, kd_12, by decide, zTB_of (List.mem_of_getElem? (i := 1120) (by decide +kernel)) rfl, rfl, rfl, rfl⟩
theorem fl_X12_133 : z_fld RX12 133 12 56 true (.array .boolean) := ⟨67, RX12, TX12, kd_12, by decide, zTB_of (List.mem_of_getElem? (i := 1121) (by decide +kernel)) rfl, rfl, rfl, rfl⟩
theorem fl_X12_136 : z_fld RX12 136 12 57 true (.array .int) := ⟨67, RX12, TX12, kd_12, by decide, zTB_of (List.mem_of_getElem? (i := 1122) (by decide +kernel)) rfl, rfl, rfl, rfl⟩
theorem fl_X12_331 : z_fld RX12 331 12 58 false (.int) := ⟨67, RX12, TX12, kd_12, by decide, zTB_of (List.mem_of_getElem? (i := 1123) (by decide +kernel)) rfl, rfl, rfl, rfl⟩
theorem fl_X12_139 : z_fld RX12 139 12 59 true (.array .int) := ⟨67, RX12, TX12, kd_12, by decide, zTB_of (List.mem_of_getElem? (i := 1124) (by decide +kernel)) rfl, rfl, rfl, rfl⟩
theorem fl_X12_142 : z_fld RX12 142 12 60 true (.array .int) := ⟨67, RX12, TX12, kd_12, by decide, zTB_of (List.mem_of_getElem? (i := 1125) (by decide +kernel)) rfl, rfl, rfl, rfl⟩
theorem fl_X12_145 : z_fld RX12 145 12 61 true (.array .int) := ⟨67, RX12, TX12, kd_12, by decide, zTB_of (List.mem_of_getElem? (i := 1126) (by decide +kernel)) rfl, rfl, rfl, rfl⟩
theorem fl_X12_148 : z_fld RX12 148 12 62 true (.array .int) := ⟨67, RX12, TX12, kd_12, by decide, zTB_of (List.mem_of_getElem? (i := 1127) (by decide +kernel)) rfl, rfl, rfl, rfl⟩
theorem fl_X12_353 : z_fld RX12 353 12 63 false (.boolean) := ⟨67, RX12, TX12, kd_12, by decide, zTB_of (List.mem_of_getElem? (i := 1128) (by decide +kernel)) rfl, rfl, rfl, rfl⟩
theorem fl_X12_151 : z_fld RX12 151 12 64 true (.array .int) := ⟨67, RX12, TX12, kd_12, by decide, zTB_of (List.mem_of_getElem? (i := 1129) (by decide +kernel)) rfl, rfl, rfl, rfl⟩
theorem fl_X12_154 : z_fld RX12 154 12 65 true (.array .int) := ⟨67, RX12, TX12, kd_12, by decide, zTB_of (List.mem_of_getElem? (i := 1130) (by decide +kernel)) rfl, rfl, rfl, rfl⟩
theorem fl_X12_157 : z_fld RX12 157 12 66 true (.array .boolean) := ⟨67, RX12, TX12, kd_12, by decide, zTB_of (List.mem_of_getElem? (i := 1131) (by decide +kernel)) rfl, rfl, rfl, rfl⟩
theorem fs_J0_15 : Cond.fieldLink RJ0 15 "java/lang/String" "coder" "B" ∈ zTB := zTB_of (List.mem_of_getElem? (i := 1593) (by decide +kernel)) rfl
theorem fs_J0_9 : Cond.fieldLink RJ0 9 "java/lang/String" "value" "[B" ∈ zTB := zTB_of (List.mem_of_getElem? (i := 1594) (by decide +kernel)) rfl
theorem lk_L_9 : Cond.methodLink RL 9 yX11_init ∈ zTB := zTB_of (List.mem_of_getElem? (i := 105) (by decide +kernel)) rfl
theorem lk_X11_1 : Cond.methodLink RX11 1 Lib.objectInit ∈ zTB := zTB_of (List.mem_of_getElem? (i := 108) (by decide +kernel)) rfl
theorem lk_X0_3 : Cond.methodLink RX0 3 Lib.objectInit ∈ zTB := zTB_of (List.mem_of_getElem? (i := 118) (by decide +kernel)) rfl
theorem lk_X10_3 : Cond.methodLink RX10 3 Lib.objectInit ∈ zTB := zTB_of (List.mem_of_getElem? (i := 140) (by decide +kernel)) rfl
theorem lk_X11_50 : Cond.methodLink RX11 50 yX3_init ∈ zTB := zTB_of (List.mem_of_getElem? (i := 158) (by decide +kernel)) rfl
theorem lk_X3_3 : Cond.methodLink RX3 3 Lib.objectInit ∈ zTB := zTB_of (List.mem_of_getElem? (i := 161) (by decide +kernel)) rfl
theorem lk_X3_18 : Cond.methodLink RX3 18 yX3_clear ∈ zTB := zTB_of (List.mem_of_getElem? (i := 162) (by decide +kernel)) rfl
theorem lk_X6_3 : Cond.methodLink RX6 3 Lib.objectInit ∈ zTB := zTB_of (List.mem_of_getElem? (i := 185) (by decide +kernel)) rfl
theorem lk_X1_5 : Cond.methodLink RX1 5 Lib.objectInit ∈ zTB := zTB_of (List.mem_of_getElem? (i := 208) (by decide +kernel)) rfl
theorem lk_X11_81 : Cond.methodLink RX11 81 yX3_setAges ∈ zTB := zTB_of (List.mem_of_getElem? (i := 231) (by decide +kernel)) rfl
theorem lk_X7_3 : Cond.methodLink RX7 3 Lib.objectInit ∈ zTB := zTB_of (List.mem_of_getElem? (i := 239) (by decide +kernel)) rfl
theorem lk_L_13 : Cond.methodLink RL 13 yX11_house ∈ zTB := zTB_of (List.mem_of_getElem? (i := 316) (by decide +kernel)) rfl
theorem lk_X11_90 : Cond.methodLink RX11 90 yX11_isLane ∈ zTB := zTB_of (List.mem_of_getElem? (i := 320) (by decide +kernel)) rfl
theorem lk_L_18 : Cond.methodLink RL 18 yX11_person ∈ zTB := zTB_of (List.mem_of_getElem? (i := 323) (by decide +kernel)) rfl
theorem lk_X11_97 : Cond.methodLink RX11 97 yX11_isName ∈ zTB := zTB_of (List.mem_of_getElem? (i := 327) (by decide +kernel)) rfl
theorem lk_X11_100 : Cond.methodLink RX11 100 yX11_isHouse ∈ zTB := zTB_of (List.mem_of_getElem? (i := 330) (by decide +kernel)) rfl
theorem lk_X11_103 : Cond.methodLink RX11 103 yX11_mayBeFather ∈ zTB := zTB_of (List.mem_of_getElem? (i := 334) (by decide +kernel)) rfl
theorem lk_X11_113 : Cond.methodLink RX11 113 yX11_personAt ∈ zTB := zTB_of (List.mem_of_getElem? (i := 338) (by decide +kernel)) rfl
theorem lk_X11_110 : Cond.methodLink RX11 110 yX4_init ∈ zTB := zTB_of (List.mem_of_getElem? (i := 343) (by decide +kernel)) rfl
theorem lk_X4_3 : Cond.methodLink RX4 3 Lib.objectInit ∈ zTB := zTB_of (List.mem_of_getElem? (i := 346) (by decide +kernel)) rfl
theorem lk_L_23 : Cond.methodLink RL 23 yX11_told ∈ zTB := zTB_of (List.mem_of_getElem? (i := 388) (by decide +kernel)) rfl
theorem lk_X11_133 : Cond.methodLink RX11 133 yX4_isDead ∈ zTB := zTB_of (List.mem_of_getElem? (i := 392) (by decide +kernel)) rfl
theorem lk_L_28 : Cond.methodLink RL 28 yX11_age ∈ zTB := zTB_of (List.mem_of_getElem? (i := 396) (by decide +kernel)) rfl
theorem lk_X11_140 : Cond.methodLink RX11 140 yX11_isDay ∈ zTB := zTB_of (List.mem_of_getElem? (i := 400) (by decide +kernel)) rfl
theorem lk_X11_146 : Cond.methodLink RX11 146 yX4_ageOn ∈ zTB := zTB_of (List.mem_of_getElem? (i := 403) (by decide +kernel)) rfl
theorem lk_L_32 : Cond.methodLink RL 32 yX11_dies ∈ zTB := zTB_of (List.mem_of_getElem? (i := 407) (by decide +kernel)) rfl
theorem lk_X11_150 : Cond.methodLink RX11 150 yX4_latestMove ∈ zTB := zTB_of (List.mem_of_getElem? (i := 411) (by decide +kernel)) rfl
theorem lk_X4_49 : Cond.methodLink RX4 49 Lib.Math.max.name ∈ zTB := zTB_of (List.mem_of_getElem? (i := 415) (by decide +kernel)) rfl
theorem lk_X11_154 : Cond.methodLink RX11 154 yX11_owedOfAll ∈ zTB := zTB_of (List.mem_of_getElem? (i := 418) (by decide +kernel)) rfl
theorem lk_X11_157 : Cond.methodLink RX11 157 yX11_partDebtsOf ∈ zTB := zTB_of (List.mem_of_getElem? (i := 422) (by decide +kernel)) rfl
theorem lk_X11_326 : Cond.methodLink RX11 326 yX11_part ∈ zTB := zTB_of (List.mem_of_getElem? (i := 426) (by decide +kernel)) rfl
theorem lk_X11_470 : Cond.methodLink RX11 470 yX11_weightOfAll ∈ zTB := zTB_of (List.mem_of_getElem? (i := 430) (by decide +kernel)) rfl
theorem lk_X11_464 : Cond.methodLink RX11 464 yX11_mayBear ∈ zTB := zTB_of (List.mem_of_getElem? (i := 434) (by decide +kernel)) rfl
theorem lk_X11_467 : Cond.methodLink RX11 467 yX4_weight ∈ zTB := zTB_of (List.mem_of_getElem? (i := 438) (by decide +kernel)) rfl
theorem lk_X11_474 : Cond.methodLink RX11 474 yX11_giveOneMore ∈ zTB := zTB_of (List.mem_of_getElem? (i := 442) (by decide +kernel)) rfl
theorem lk_L_36 : Cond.methodLink RL 36 yX11_flees ∈ zTB := zTB_of (List.mem_of_getElem? (i := 446) (by decide +kernel)) rfl
theorem lk_X11_161 : Cond.methodLink RX11 161 yX4_isAway ∈ zTB := zTB_of (List.mem_of_getElem? (i := 450) (by decide +kernel)) rfl
theorem lk_X11_173 : Cond.methodLink RX11 173 yX2_init ∈ zTB := zTB_of (List.mem_of_getElem? (i := 456) (by decide +kernel)) rfl
theorem lk_X2_3 : Cond.methodLink RX2 3 Lib.objectInit ∈ zTB := zTB_of (List.mem_of_getElem? (i := 459) (by decide +kernel)) rfl
theorem lk_L_40 : Cond.methodLink RL 40 yX11_back ∈ zTB := zTB_of (List.mem_of_getElem? (i := 477) (by decide +kernel)) rfl
theorem lk_L_44 : Cond.methodLink RL 44 yX11_there ∈ zTB := zTB_of (List.mem_of_getElem? (i := 481) (by decide +kernel)) rfl
theorem lk_X11_182 : Cond.methodLink RX11 182 yX4_isThereOn ∈ zTB := zTB_of (List.mem_of_getElem? (i := 485) (by decide +kernel)) rfl
theorem lk_X4_55 : Cond.methodLink RX4 55 yX4_isDead ∈ zTB := zTB_of (List.mem_of_getElem? (i := 489) (by decide +kernel)) rfl
theorem lk_X4_59 : Cond.methodLink RX4 59 yX4_isAwayOn ∈ zTB := zTB_of (List.mem_of_getElem? (i := 490) (by decide +kernel)) rfl
theorem lk_L_48 : Cond.methodLink RL 48 yX11_kin ∈ zTB := zTB_of (List.mem_of_getElem? (i := 494) (by decide +kernel)) rfl
theorem lk_X11_185 : Cond.methodLink RX11 185 yX11_areKin ∈ zTB := zTB_of (List.mem_of_getElem? (i := 498) (by decide +kernel)) rfl
theorem lk_L_54 : Cond.methodLink RL 54 yX11_type ∈ zTB := zTB_of (List.mem_of_getElem? (i := 502) (by decide +kernel)) rfl
theorem lk_X11_188 : Cond.methodLink RX11 188 yX11_signAt ∈ zTB := zTB_of (List.mem_of_getElem? (i := 506) (by decide +kernel)) rfl
theorem lk_X11_195 : Cond.methodLink RX11 195 yX10_put ∈ zTB := zTB_of (List.mem_of_getElem? (i := 509) (by decide +kernel)) rfl
theorem lk_L_59 : Cond.methodLink RL 59 yX11_laws ∈ zTB := zTB_of (List.mem_of_getElem? (i := 513) (by decide +kernel)) rfl
theorem lk_X11_198 : Cond.methodLink RX11 198 yX3_clear ∈ zTB := zTB_of (List.mem_of_getElem? (i := 517) (by decide +kernel)) rfl
theorem lk_X11_201 : Cond.methodLink RX11 201 yX10_readInto ∈ zTB := zTB_of (List.mem_of_getElem? (i := 518) (by decide +kernel)) rfl
theorem lk_X10_22 : Cond.methodLink RX10 22 yX10_readClause ∈ zTB := zTB_of (List.mem_of_getElem? (i := 522) (by decide +kernel)) rfl
theorem lk_X10_29 : Cond.methodLink RX10 29 yX10_nextSign ∈ zTB := zTB_of (List.mem_of_getElem? (i := 526) (by decide +kernel)) rfl
theorem lk_X10_35 : Cond.methodLink RX10 35 yJ0_indexOf_0f7a4 ∈ zTB := zTB_of (List.mem_of_getElem? (i := 531) (by decide +kernel)) rfl
theorem lk_J0_633 : Cond.methodLink RJ0 633 yJ0_indexOf_7cf53 ∈ zTB := zTB_of (List.mem_of_getElem? (i := 535) (by decide +kernel)) rfl
theorem lk_J0_492 : Cond.methodLink RJ0 492 yJ0_isLatin1_aae02 ∈ zTB := zTB_of (List.mem_of_getElem? (i := 539) (by decide +kernel)) rfl
theorem lk_J0_505 : Cond.methodLink RJ0 505 yJ0_length_8abf5 ∈ zTB := zTB_of (List.mem_of_getElem? (i := 545) (by decide +kernel)) rfl
theorem lk_J0_335 : Cond.methodLink RJ0 335 yJ0_coder_7d493 ∈ zTB := zTB_of (List.mem_of_getElem? (i := 549) (by decide +kernel)) rfl
theorem lk_J0_637 : Cond.methodLink RJ0 637 yJ1_indexOf_4cfef ∈ zTB := zTB_of (List.mem_of_getElem? (i := 553) (by decide +kernel)) rfl
theorem lk_J1_88 : Cond.methodLink RJ1 88 yJ1_canEncode_9a6ad ∈ zTB := zTB_of (List.mem_of_getElem? (i := 556) (by decide +kernel)) rfl
theorem lk_J1_92 : Cond.methodLink RJ1 92 Lib.Math.max.name ∈ zTB := zTB_of (List.mem_of_getElem? (i := 559) (by decide +kernel)) rfl
theorem lk_J1_38 : Cond.methodLink RJ1 38 Lib.Math.min.name ∈ zTB := zTB_of (List.mem_of_getElem? (i := 560) (by decide +kernel)) rfl
theorem lk_J1_95 : Cond.methodLink RJ1 95 yJ1_indexOfChar_4cfef ∈ zTB := zTB_of (List.mem_of_getElem? (i := 563) (by decide +kernel)) rfl
theorem lk_X10_41 : Cond.methodLink RX10 41 yX10_fault ∈ zTB := zTB_of (List.mem_of_getElem? (i := 615) (by decide +kernel)) rfl
theorem lk_X10_45 : Cond.methodLink RX10 45 yX10_readAges ∈ zTB := zTB_of (List.mem_of_getElem? (i := 619) (by decide +kernel)) rfl
theorem lk_X10_49 : Cond.methodLink RX10 49 yX10_readNumber ∈ zTB := zTB_of (List.mem_of_getElem? (i := 623) (by decide +kernel)) rfl
theorem lk_X10_62 : Cond.methodLink RX10 62 yX10_isDigit ∈ zTB := zTB_of (List.mem_of_getElem? (i := 627) (by decide +kernel)) rfl
theorem lk_X10_65 : Cond.methodLink RX10 65 Lib.Math.min.name ∈ zTB := zTB_of (List.mem_of_getElem? (i := 630) (by decide +kernel)) rfl
theorem lk_X10_58 : Cond.methodLink RX10 58 yX3_setAges ∈ zTB := zTB_of (List.mem_of_getElem? (i := 631) (by decide +kernel)) rfl
theorem lk_L_64 : Cond.methodLink RL 64 yX11_must ∈ zTB := zTB_of (List.mem_of_getElem? (i := 632) (by decide +kernel)) rfl
theorem lk_X11_205 : Cond.methodLink RX11 205 yX11_mustBeSworn ∈ zTB := zTB_of (List.mem_of_getElem? (i := 636) (by decide +kernel)) rfl
theorem lk_X11_399 : Cond.methodLink RX11 399 yX3_bind ∈ zTB := zTB_of (List.mem_of_getElem? (i := 640) (by decide +kernel)) rfl
theorem lk_L_68 : Cond.methodLink RL 68 yX11_fair ∈ zTB := zTB_of (List.mem_of_getElem? (i := 644) (by decide +kernel)) rfl
theorem lk_X11_212 : Cond.methodLink RX11 212 yX0_put ∈ zTB := zTB_of (List.mem_of_getElem? (i := 648) (by decide +kernel)) rfl
theorem lk_L_72 : Cond.methodLink RL 72 yX11_group ∈ zTB := zTB_of (List.mem_of_getElem? (i := 652) (by decide +kernel)) rfl
theorem lk_L_76 : Cond.methodLink RL 76 yX11_joins ∈ zTB := zTB_of (List.mem_of_getElem? (i := 656) (by decide +kernel)) rfl
theorem lk_X11_218 : Cond.methodLink RX11 218 yX11_isGroup ∈ zTB := zTB_of (List.mem_of_getElem? (i := 660) (by decide +kernel)) rfl
theorem lk_X11_221 : Cond.methodLink RX11 221 yX4_mayJoin ∈ zTB := zTB_of (List.mem_of_getElem? (i := 664) (by decide +kernel)) rfl
theorem lk_X11_224 : Cond.methodLink RX11 224 yX11_membersOf ∈ zTB := zTB_of (List.mem_of_getElem? (i := 668) (by decide +kernel)) rfl
theorem lk_X11_245 : Cond.methodLink RX11 245 yX4_groupOn ∈ zTB := zTB_of (List.mem_of_getElem? (i := 672) (by decide +kernel)) rfl
theorem lk_X4_81 : Cond.methodLink RX4 81 yX4_spellOn ∈ zTB := zTB_of (List.mem_of_getElem? (i := 676) (by decide +kernel)) rfl
theorem lk_X4_76 : Cond.methodLink RX4 76 yX4_isThereOn ∈ zTB := zTB_of (List.mem_of_getElem? (i := 680) (by decide +kernel)) rfl
theorem lk_X11_228 : Cond.methodLink RX11 228 yX11_beginSpell ∈ zTB := zTB_of (List.mem_of_getElem? (i := 681) (by decide +kernel)) rfl
theorem lk_X11_408 : Cond.methodLink RX11 408 yX8_init ∈ zTB := zTB_of (List.mem_of_getElem? (i := 687) (by decide +kernel)) rfl
theorem lk_X8_3 : Cond.methodLink RX8 3 Lib.objectInit ∈ zTB := zTB_of (List.mem_of_getElem? (i := 690) (by decide +kernel)) rfl
theorem lk_L_81 : Cond.methodLink RL 81 yX11_leaves ∈ zTB := zTB_of (List.mem_of_getElem? (i := 711) (by decide +kernel)) rfl
theorem lk_L_85 : Cond.methodLink RL 85 yX11_groupOf ∈ zTB := zTB_of (List.mem_of_getElem? (i := 715) (by decide +kernel)) rfl
theorem lk_L_89 : Cond.methodLink RL 89 yX11_members ∈ zTB := zTB_of (List.mem_of_getElem? (i := 719) (by decide +kernel)) rfl
theorem lk_L_93 : Cond.methodLink RL 93 yX11_head ∈ zTB := zTB_of (List.mem_of_getElem? (i := 723) (by decide +kernel)) rfl
theorem lk_X11_248 : Cond.methodLink RX11 248 yX4_spellOn ∈ zTB := zTB_of (List.mem_of_getElem? (i := 727) (by decide +kernel)) rfl
theorem lk_L_97 : Cond.methodLink RL 97 yX11_wants ∈ zTB := zTB_of (List.mem_of_getElem? (i := 728) (by decide +kernel)) rfl
theorem lk_X11_252 : Cond.methodLink RX11 252 yX11_isWanting ∈ zTB := zTB_of (List.mem_of_getElem? (i := 732) (by decide +kernel)) rfl
theorem lk_X11_402 : Cond.methodLink RX11 402 yX11_isUnsworn ∈ zTB := zTB_of (List.mem_of_getElem? (i := 736) (by decide +kernel)) rfl
theorem lk_X11_405 : Cond.methodLink RX11 405 yX11_isIdle ∈ zTB := zTB_of (List.mem_of_getElem? (i := 740) (by decide +kernel)) rfl
theorem lk_L_101 : Cond.methodLink RL 101 yX11_wantsAt ∈ zTB := zTB_of (List.mem_of_getElem? (i := 744) (by decide +kernel)) rfl
theorem lk_L_105 : Cond.methodLink RL 105 yX11_stay ∈ zTB := zTB_of (List.mem_of_getElem? (i := 748) (by decide +kernel)) rfl
theorem lk_X11_256 : Cond.methodLink RX11 256 yX11_lodgesOnOrBehind ∈ zTB := zTB_of (List.mem_of_getElem? (i := 752) (by decide +kernel)) rfl
theorem lk_X11_262 : Cond.methodLink RX11 262 yX9_init ∈ zTB := zTB_of (List.mem_of_getElem? (i := 757) (by decide +kernel)) rfl
theorem lk_X9_1 : Cond.methodLink RX9 1 Lib.objectInit ∈ zTB := zTB_of (List.mem_of_getElem? (i := 760) (by decide +kernel)) rfl
theorem lk_L_110 : Cond.methodLink RL 110 yX11_charged ∈ zTB := zTB_of (List.mem_of_getElem? (i := 778) (by decide +kernel)) rfl
theorem lk_X11_265 : Cond.methodLink RX11 265 yX11_groupCharged ∈ zTB := zTB_of (List.mem_of_getElem? (i := 782) (by decide +kernel)) rfl
theorem lk_X11_416 : Cond.methodLink RX11 416 yX11_stayOn ∈ zTB := zTB_of (List.mem_of_getElem? (i := 786) (by decide +kernel)) rfl
theorem lk_X11_420 : Cond.methodLink RX11 420 yX11_hasLodgedLong ∈ zTB := zTB_of (List.mem_of_getElem? (i := 790) (by decide +kernel)) rfl
theorem lk_X11_425 : Cond.methodLink RX11 425 yX0_endAround ∈ zTB := zTB_of (List.mem_of_getElem? (i := 794) (by decide +kernel)) rfl
theorem lk_X11_428 : Cond.methodLink RX11 428 Lib.Math.max.name ∈ zTB := zTB_of (List.mem_of_getElem? (i := 798) (by decide +kernel)) rfl
theorem lk_L_114 : Cond.methodLink RL 114 yX11_whole ∈ zTB := zTB_of (List.mem_of_getElem? (i := 799) (by decide +kernel)) rfl
theorem lk_X11_269 : Cond.methodLink RX11 269 yX11_gatherUnsworn ∈ zTB := zTB_of (List.mem_of_getElem? (i := 803) (by decide +kernel)) rfl
theorem lk_X11_431 : Cond.methodLink RX11 431 yX1_clear ∈ zTB := zTB_of (List.mem_of_getElem? (i := 807) (by decide +kernel)) rfl
theorem lk_X11_432 : Cond.methodLink RX11 432 yX1_put ∈ zTB := zTB_of (List.mem_of_getElem? (i := 811) (by decide +kernel)) rfl
theorem lk_X11_273 : Cond.methodLink RX11 273 yX1_begin ∈ zTB := zTB_of (List.mem_of_getElem? (i := 815) (by decide +kernel)) rfl
theorem lk_X11_276 : Cond.methodLink RX11 276 yX11_offerGroup ∈ zTB := zTB_of (List.mem_of_getElem? (i := 820) (by decide +kernel)) rfl
theorem lk_X11_440 : Cond.methodLink RX11 440 yX11_askedOf ∈ zTB := zTB_of (List.mem_of_getElem? (i := 824) (by decide +kernel)) rfl
theorem lk_X11_451 : Cond.methodLink RX11 451 Lib.Math.abs.name ∈ zTB := zTB_of (List.mem_of_getElem? (i := 828) (by decide +kernel)) rfl
theorem lk_X11_454 : Cond.methodLink RX11 454 yX11_hasKinIn ∈ zTB := zTB_of (List.mem_of_getElem? (i := 831) (by decide +kernel)) rfl
theorem lk_X11_444 : Cond.methodLink RX11 444 yX11_hasWealth ∈ zTB := zTB_of (List.mem_of_getElem? (i := 835) (by decide +kernel)) rfl
theorem lk_X11_447 : Cond.methodLink RX11 447 yX1_offer ∈ zTB := zTB_of (List.mem_of_getElem? (i := 839) (by decide +kernel)) rfl
theorem lk_X1_32 : Cond.methodLink RX1 32 yX1_addUp ∈ zTB := zTB_of (List.mem_of_getElem? (i := 843) (by decide +kernel)) rfl
theorem lk_X1_44 : Cond.methodLink RX1 44 yX1_shiftOf ∈ zTB := zTB_of (List.mem_of_getElem? (i := 847) (by decide +kernel)) rfl
theorem lk_X1_36 : Cond.methodLink RX1 36 yX1_strikeOut ∈ zTB := zTB_of (List.mem_of_getElem? (i := 850) (by decide +kernel)) rfl
theorem lk_X1_48 : Cond.methodLink RX1 48 yJ6_bitCount_0f7a4 ∈ zTB := zTB_of (List.mem_of_getElem? (i := 854) (by decide +kernel)) rfl
theorem lk_X1_40 : Cond.methodLink RX1 40 yX1_improve ∈ zTB := zTB_of (List.mem_of_getElem? (i := 860) (by decide +kernel)) rfl
theorem lk_X1_53 : Cond.methodLink RX1 53 Lib.Math.min.name ∈ zTB := zTB_of (List.mem_of_getElem? (i := 864) (by decide +kernel)) rfl
theorem lk_X11_279 : Cond.methodLink RX11 279 yX1_isPossible ∈ zTB := zTB_of (List.mem_of_getElem? (i := 865) (by decide +kernel)) rfl
theorem lk_X1_59 : Cond.methodLink RX1 59 yX1_leastWay ∈ zTB := zTB_of (List.mem_of_getElem? (i := 869) (by decide +kernel)) rfl
theorem lk_X11_282 : Cond.methodLink RX11 282 yX11_settle ∈ zTB := zTB_of (List.mem_of_getElem? (i := 873) (by decide +kernel)) rfl
theorem lk_X11_458 : Cond.methodLink RX11 458 yX1_groupFor ∈ zTB := zTB_of (List.mem_of_getElem? (i := 877) (by decide +kernel)) rfl
theorem lk_X11_285 : Cond.methodLink RX11 285 yX1_leastAsked ∈ zTB := zTB_of (List.mem_of_getElem? (i := 881) (by decide +kernel)) rfl
theorem lk_L_118 : Cond.methodLink RL 118 yX11_came ∈ zTB := zTB_of (List.mem_of_getElem? (i := 885) (by decide +kernel)) rfl
theorem lk_L_122 : Cond.methodLink RL 122 yX11_plea ∈ zTB := zTB_of (List.mem_of_getElem? (i := 889) (by decide +kernel)) rfl
theorem lk_X11_291 : Cond.methodLink RX11 291 yX11_hasPlea ∈ zTB := zTB_of (List.mem_of_getElem? (i := 893) (by decide +kernel)) rfl
theorem lk_X11_297 : Cond.methodLink RX11 297 yX5_init ∈ zTB := zTB_of (List.mem_of_getElem? (i := 898) (by decide +kernel)) rfl
theorem lk_X5_3 : Cond.methodLink RX5 3 Lib.objectInit ∈ zTB := zTB_of (List.mem_of_getElem? (i := 901) (by decide +kernel)) rfl
theorem lk_X11_300 : Cond.methodLink RX11 300 yX11_callToAnswer ∈ zTB := zTB_of (List.mem_of_getElem? (i := 937) (by decide +kernel)) rfl
theorem lk_L_126 : Cond.methodLink RL 126 yX11_about ∈ zTB := zTB_of (List.mem_of_getElem? (i := 941) (by decide +kernel)) rfl
theorem lk_X11_317 : Cond.methodLink RX11 317 yX5_state ∈ zTB := zTB_of (List.mem_of_getElem? (i := 945) (by decide +kernel)) rfl
theorem lk_X5_45 : Cond.methodLink RX5 45 yX5_isBrought ∈ zTB := zTB_of (List.mem_of_getElem? (i := 949) (by decide +kernel)) rfl
theorem lk_L_130 : Cond.methodLink RL 130 yX11_judge ∈ zTB := zTB_of (List.mem_of_getElem? (i := 953) (by decide +kernel)) rfl
theorem lk_X11_320 : Cond.methodLink RX11 320 yX5_isDueOn ∈ zTB := zTB_of (List.mem_of_getElem? (i := 957) (by decide +kernel)) rfl
theorem lk_L_134 : Cond.methodLink RL 134 yX11_owes ∈ zTB := zTB_of (List.mem_of_getElem? (i := 961) (by decide +kernel)) rfl
theorem lk_L_138 : Cond.methodLink RL 138 yX11_pays ∈ zTB := zTB_of (List.mem_of_getElem? (i := 965) (by decide +kernel)) rfl
theorem lk_X11_337 : Cond.methodLink RX11 337 Lib.Math.min.name ∈ zTB := zTB_of (List.mem_of_getElem? (i := 970) (by decide +kernel)) rfl
theorem lk_L_142 : Cond.methodLink RL 142 yX11_borne ∈ zTB := zTB_of (List.mem_of_getElem? (i := 971) (by decide +kernel)) rfl
theorem lk_X11_342 : Cond.methodLink RX11 342 yX11_borneBy ∈ zTB := zTB_of (List.mem_of_getElem? (i := 975) (by decide +kernel)) rfl
theorem lk_X11_345 : Cond.methodLink RX11 345 yX11_borneByHeads ∈ zTB := zTB_of (List.mem_of_getElem? (i := 979) (by decide +kernel)) rfl
theorem lk_X11_348 : Cond.methodLink RX11 348 yX11_bearsTooMuch ∈ zTB := zTB_of (List.mem_of_getElem? (i := 983) (by decide +kernel)) rfl
theorem lk_L_146 : Cond.methodLink RL 146 yX11_count ∈ zTB := zTB_of (List.mem_of_getElem? (i := 987) (by decide +kernel)) rfl
theorem lk_L_150 : Cond.methodLink RL 150 yX11_sheet ∈ zTB := zTB_of (List.mem_of_getElem? (i := 991) (by decide +kernel)) rfl
theorem lk_X11_354 : Cond.methodLink RX11 354 yX11_isSheet ∈ zTB := zTB_of (List.mem_of_getElem? (i := 995) (by decide +kernel)) rfl
theorem lk_X11_357 : Cond.methodLink RX11 357 yX11_isSheetLane ∈ zTB := zTB_of (List.mem_of_getElem? (i := 998) (by decide +kernel)) rfl
theorem lk_X11_360 : Cond.methodLink RX11 360 yX7_renew ∈ zTB := zTB_of (List.mem_of_getElem? (i := 1001) (by decide +kernel)) rfl
theorem lk_X7_19 : Cond.methodLink RX7 19 Lib.Math.min.name ∈ zTB := zTB_of (List.mem_of_getElem? (i := 1005) (by decide +kernel)) rfl
theorem lk_X7_25 : Cond.methodLink RX7 25 Lib.Math.max.name ∈ zTB := zTB_of (List.mem_of_getElem? (i := 1006) (by decide +kernel)) rfl
theorem lk_L_154 : Cond.methodLink RL 154 yX11_drop ∈ zTB := zTB_of (List.mem_of_getElem? (i := 1007) (by decide +kernel)) rfl
theorem lk_X11_363 : Cond.methodLink RX11 363 yX7_isNothing ∈ zTB := zTB_of (List.mem_of_getElem? (i := 1011) (by decide +kernel)) rfl
theorem lk_L_158 : Cond.methodLink RL 158 yX11_item ∈ zTB := zTB_of (List.mem_of_getElem? (i := 1015) (by decide +kernel)) rfl
theorem lk_X11_370 : Cond.methodLink RX11 370 yX11_refusalOfSheet ∈ zTB := zTB_of (List.mem_of_getElem? (i := 1019) (by decide +kernel)) rfl
theorem lk_X11_373 : Cond.methodLink RX11 373 yX7_put ∈ zTB := zTB_of (List.mem_of_getElem? (i := 1023) (by decide +kernel)) rfl
theorem lk_L_162 : Cond.methodLink RL 162 yX11_roll ∈ zTB := zTB_of (List.mem_of_getElem? (i := 1027) (by decide +kernel)) rfl
theorem lk_X11_377 : Cond.methodLink RX11 377 yX6_begin ∈ zTB := zTB_of (List.mem_of_getElem? (i := 1031) (by decide +kernel)) rfl
theorem lk_X11_380 : Cond.methodLink RX11 380 yX6_putMember ∈ zTB := zTB_of (List.mem_of_getElem? (i := 1036) (by decide +kernel)) rfl
theorem lk_X11_383 : Cond.methodLink RX11 383 yX6_leftOutOfAll ∈ zTB := zTB_of (List.mem_of_getElem? (i := 1040) (by decide +kernel)) rfl
theorem lk_X6_45 : Cond.methodLink RX6 45 yX6_leftOutOf ∈ zTB := zTB_of (List.mem_of_getElem? (i := 1044) (by decide +kernel)) rfl
theorem lk_X6_39 : Cond.methodLink RX6 39 Lib.Math.max.name ∈ zTB := zTB_of (List.mem_of_getElem? (i := 1048) (by decide +kernel)) rfl
theorem lk_L_166 : Cond.methodLink RL 166 yX11_leftOut ∈ zTB := zTB_of (List.mem_of_getElem? (i := 1049) (by decide +kernel)) rfl
theorem lk_X11_389 : Cond.methodLink RX11 389 yX6_leftOutOf ∈ zTB := zTB_of (List.mem_of_getElem? (i := 1053) (by decide +kernel)) rfl
theorem lk_L_170 : Cond.methodLink RL 170 yX11_sure ∈ zTB := zTB_of (List.mem_of_getElem? (i := 1054) (by decide +kernel)) rfl
theorem lk_L_12 : Cond.methodLink RL 12 yX12_init ∈ zTB := zTB_of (List.mem_of_getElem? (i := 1060) (by decide +kernel)) rfl
theorem lk_X12_1 : Cond.methodLink RX12 1 Lib.objectInit ∈ zTB := zTB_of (List.mem_of_getElem? (i := 1063) (by decide +kernel)) rfl
theorem lk_L_17 : Cond.methodLink RL 17 yX12_house ∈ zTB := zTB_of (List.mem_of_getElem? (i := 1267) (by decide +kernel)) rfl
theorem lk_X12_160 : Cond.methodLink RX12 160 yX12_within ∈ zTB := zTB_of (List.mem_of_getElem? (i := 1271) (by decide +kernel)) rfl
theorem lk_L_22 : Cond.methodLink RL 22 yX12_person ∈ zTB := zTB_of (List.mem_of_getElem? (i := 1274) (by decide +kernel)) rfl
theorem lk_X12_174 : Cond.methodLink RX12 174 yX12_mayFather ∈ zTB := zTB_of (List.mem_of_getElem? (i := 1278) (by decide +kernel)) rfl
theorem lk_X12_170 : Cond.methodLink RX12 170 yX12_isOne ∈ zTB := zTB_of (List.mem_of_getElem? (i := 1282) (by decide +kernel)) rfl
theorem lk_L_27 : Cond.methodLink RL 27 yX12_told ∈ zTB := zTB_of (List.mem_of_getElem? (i := 1286) (by decide +kernel)) rfl
theorem lk_X12_178 : Cond.methodLink RX12 178 yX12_isDead ∈ zTB := zTB_of (List.mem_of_getElem? (i := 1290) (by decide +kernel)) rfl
theorem lk_L_31 : Cond.methodLink RL 31 yX12_age ∈ zTB := zTB_of (List.mem_of_getElem? (i := 1294) (by decide +kernel)) rfl
theorem lk_X12_181 : Cond.methodLink RX12 181 yX12_isDay ∈ zTB := zTB_of (List.mem_of_getElem? (i := 1298) (by decide +kernel)) rfl
theorem lk_L_39 : Cond.methodLink RL 39 yX12_flees ∈ zTB := zTB_of (List.mem_of_getElem? (i := 1301) (by decide +kernel)) rfl
theorem lk_X12_191 : Cond.methodLink RX12 191 yX12_isAway ∈ zTB := zTB_of (List.mem_of_getElem? (i := 1305) (by decide +kernel)) rfl
theorem lk_X12_187 : Cond.methodLink RX12 187 yX12_lastFlight ∈ zTB := zTB_of (List.mem_of_getElem? (i := 1309) (by decide +kernel)) rfl
theorem lk_X12_194 : Cond.methodLink RX12 194 yX12_isBehind ∈ zTB := zTB_of (List.mem_of_getElem? (i := 1313) (by decide +kernel)) rfl
theorem lk_L_43 : Cond.methodLink RL 43 yX12_back ∈ zTB := zTB_of (List.mem_of_getElem? (i := 1317) (by decide +kernel)) rfl
theorem lk_L_47 : Cond.methodLink RL 47 yX12_there ∈ zTB := zTB_of (List.mem_of_getElem? (i := 1321) (by decide +kernel)) rfl
theorem lk_X12_197 : Cond.methodLink RX12 197 yX12_isThere ∈ zTB := zTB_of (List.mem_of_getElem? (i := 1325) (by decide +kernel)) rfl
theorem lk_L_51 : Cond.methodLink RL 51 yX12_kin ∈ zTB := zTB_of (List.mem_of_getElem? (i := 1329) (by decide +kernel)) rfl
theorem lk_X12_200 : Cond.methodLink RX12 200 yX12_areKin ∈ zTB := zTB_of (List.mem_of_getElem? (i := 1333) (by decide +kernel)) rfl
theorem lk_L_58 : Cond.methodLink RL 58 yX12_type ∈ zTB := zTB_of (List.mem_of_getElem? (i := 1337) (by decide +kernel)) rfl
theorem lk_L_63 : Cond.methodLink RL 63 yX12_laws ∈ zTB := zTB_of (List.mem_of_getElem? (i := 1342) (by decide +kernel)) rfl
theorem lk_X12_239 : Cond.methodLink RX12 239 yX12_readClause ∈ zTB := zTB_of (List.mem_of_getElem? (i := 1346) (by decide +kernel)) rfl
theorem lk_X12_214 : Cond.methodLink RX12 214 yX12_skip ∈ zTB := zTB_of (List.mem_of_getElem? (i := 1350) (by decide +kernel)) rfl
theorem lk_X12_227 : Cond.methodLink RX12 227 yX12_kindOf ∈ zTB := zTB_of (List.mem_of_getElem? (i := 1354) (by decide +kernel)) rfl
theorem lk_X12_223 : Cond.methodLink RX12 223 yX12_faultAt ∈ zTB := zTB_of (List.mem_of_getElem? (i := 1357) (by decide +kernel)) rfl
theorem lk_X12_230 : Cond.methodLink RX12 230 yX12_readNumber ∈ zTB := zTB_of (List.mem_of_getElem? (i := 1361) (by decide +kernel)) rfl
theorem lk_X12_236 : Cond.methodLink RX12 236 yX12_readByte ∈ zTB := zTB_of (List.mem_of_getElem? (i := 1365) (by decide +kernel)) rfl
theorem lk_L_67 : Cond.methodLink RL 67 yX12_must ∈ zTB := zTB_of (List.mem_of_getElem? (i := 1369) (by decide +kernel)) rfl
theorem lk_X12_242 : Cond.methodLink RX12 242 yX12_mustBe ∈ zTB := zTB_of (List.mem_of_getElem? (i := 1373) (by decide +kernel)) rfl
theorem lk_L_71 : Cond.methodLink RL 71 yX12_fair ∈ zTB := zTB_of (List.mem_of_getElem? (i := 1377) (by decide +kernel)) rfl
theorem lk_L_75 : Cond.methodLink RL 75 yX12_group ∈ zTB := zTB_of (List.mem_of_getElem? (i := 1381) (by decide +kernel)) rfl
theorem lk_L_80 : Cond.methodLink RL 80 yX12_joins ∈ zTB := zTB_of (List.mem_of_getElem? (i := 1385) (by decide +kernel)) rfl
theorem lk_X12_261 : Cond.methodLink RX12 261 yX12_isGroup ∈ zTB := zTB_of (List.mem_of_getElem? (i := 1389) (by decide +kernel)) rfl
theorem lk_X12_264 : Cond.methodLink RX12 264 yX12_isBound ∈ zTB := zTB_of (List.mem_of_getElem? (i := 1393) (by decide +kernel)) rfl
theorem lk_X12_267 : Cond.methodLink RX12 267 yX12_membersOf ∈ zTB := zTB_of (List.mem_of_getElem? (i := 1397) (by decide +kernel)) rfl
theorem lk_X12_258 : Cond.methodLink RX12 258 yX12_isMember ∈ zTB := zTB_of (List.mem_of_getElem? (i := 1401) (by decide +kernel)) rfl
theorem lk_X12_254 : Cond.methodLink RX12 254 yX12_spellAt ∈ zTB := zTB_of (List.mem_of_getElem? (i := 1405) (by decide +kernel)) rfl
theorem lk_X12_270 : Cond.methodLink RX12 270 yX12_begin ∈ zTB := zTB_of (List.mem_of_getElem? (i := 1409) (by decide +kernel)) rfl
theorem lk_L_84 : Cond.methodLink RL 84 yX12_leaves ∈ zTB := zTB_of (List.mem_of_getElem? (i := 1413) (by decide +kernel)) rfl
theorem lk_L_88 : Cond.methodLink RL 88 yX12_groupOf ∈ zTB := zTB_of (List.mem_of_getElem? (i := 1417) (by decide +kernel)) rfl
theorem lk_L_92 : Cond.methodLink RL 92 yX12_members ∈ zTB := zTB_of (List.mem_of_getElem? (i := 1421) (by decide +kernel)) rfl
theorem lk_L_96 : Cond.methodLink RL 96 yX12_head ∈ zTB := zTB_of (List.mem_of_getElem? (i := 1425) (by decide +kernel)) rfl
theorem lk_L_100 : Cond.methodLink RL 100 yX12_wants ∈ zTB := zTB_of (List.mem_of_getElem? (i := 1429) (by decide +kernel)) rfl
theorem lk_X12_274 : Cond.methodLink RX12 274 yX12_isWant ∈ zTB := zTB_of (List.mem_of_getElem? (i := 1433) (by decide +kernel)) rfl
theorem lk_L_104 : Cond.methodLink RL 104 yX12_wantsAt ∈ zTB := zTB_of (List.mem_of_getElem? (i := 1437) (by decide +kernel)) rfl
theorem lk_L_109 : Cond.methodLink RL 109 yX12_stay ∈ zTB := zTB_of (List.mem_of_getElem? (i := 1441) (by decide +kernel)) rfl
theorem lk_L_113 : Cond.methodLink RL 113 yX12_charged ∈ zTB := zTB_of (List.mem_of_getElem? (i := 1445) (by decide +kernel)) rfl
theorem lk_X12_289 : Cond.methodLink RX12 289 yX12_chargedFor ∈ zTB := zTB_of (List.mem_of_getElem? (i := 1449) (by decide +kernel)) rfl
theorem lk_X12_283 : Cond.methodLink RX12 283 yX12_nightsOf ∈ zTB := zTB_of (List.mem_of_getElem? (i := 1453) (by decide +kernel)) rfl
theorem lk_X12_280 : Cond.methodLink RX12 280 yX12_isFair ∈ zTB := zTB_of (List.mem_of_getElem? (i := 1457) (by decide +kernel)) rfl
theorem lk_X12_286 : Cond.methodLink RX12 286 yX12_groupOfHouse ∈ zTB := zTB_of (List.mem_of_getElem? (i := 1461) (by decide +kernel)) rfl
theorem lk_L_117 : Cond.methodLink RL 117 yX12_whole ∈ zTB := zTB_of (List.mem_of_getElem? (i := 1465) (by decide +kernel)) rfl
theorem lk_X12_302 : Cond.methodLink RX12 302 yX12_isComer ∈ zTB := zTB_of (List.mem_of_getElem? (i := 1469) (by decide +kernel)) rfl
theorem lk_X12_305 : Cond.methodLink RX12 305 yX12_findAsked ∈ zTB := zTB_of (List.mem_of_getElem? (i := 1473) (by decide +kernel)) rfl
theorem lk_X12_295 : Cond.methodLink RX12 295 yX12_hasKin ∈ zTB := zTB_of (List.mem_of_getElem? (i := 1477) (by decide +kernel)) rfl
theorem lk_X12_308 : Cond.methodLink RX12 308 yX12_findBest ∈ zTB := zTB_of (List.mem_of_getElem? (i := 1481) (by decide +kernel)) rfl
theorem lk_X12_298 : Cond.methodLink RX12 298 yX12_isGood ∈ zTB := zTB_of (List.mem_of_getElem? (i := 1485) (by decide +kernel)) rfl
theorem lk_L_121 : Cond.methodLink RL 121 yX12_came ∈ zTB := zTB_of (List.mem_of_getElem? (i := 1489) (by decide +kernel)) rfl
theorem lk_L_125 : Cond.methodLink RL 125 yX12_plea ∈ zTB := zTB_of (List.mem_of_getElem? (i := 1493) (by decide +kernel)) rfl
theorem lk_X12_319 : Cond.methodLink RX12 319 yX12_groupAhead ∈ zTB := zTB_of (List.mem_of_getElem? (i := 1497) (by decide +kernel)) rfl
theorem lk_L_129 : Cond.methodLink RL 129 yX12_about ∈ zTB := zTB_of (List.mem_of_getElem? (i := 1501) (by decide +kernel)) rfl
theorem lk_X12_322 : Cond.methodLink RX12 322 yX12_isBrought ∈ zTB := zTB_of (List.mem_of_getElem? (i := 1505) (by decide +kernel)) rfl
theorem lk_L_133 : Cond.methodLink RL 133 yX12_judge ∈ zTB := zTB_of (List.mem_of_getElem? (i := 1509) (by decide +kernel)) rfl
theorem lk_X12_334 : Cond.methodLink RX12 334 yX12_isPartedAmong ∈ zTB := zTB_of (List.mem_of_getElem? (i := 1513) (by decide +kernel)) rfl
theorem lk_X12_325 : Cond.methodLink RX12 325 yX12_takesPart ∈ zTB := zTB_of (List.mem_of_getElem? (i := 1517) (by decide +kernel)) rfl
theorem lk_X12_328 : Cond.methodLink RX12 328 yX12_weightOf ∈ zTB := zTB_of (List.mem_of_getElem? (i := 1521) (by decide +kernel)) rfl
theorem lk_L_35 : Cond.methodLink RL 35 yX12_dies ∈ zTB := zTB_of (List.mem_of_getElem? (i := 1525) (by decide +kernel)) rfl
theorem lk_X12_337 : Cond.methodLink RX12 337 yX12_owesAll ∈ zTB := zTB_of (List.mem_of_getElem? (i := 1529) (by decide +kernel)) rfl
theorem lk_L_137 : Cond.methodLink RL 137 yX12_owes ∈ zTB := zTB_of (List.mem_of_getElem? (i := 1533) (by decide +kernel)) rfl
theorem lk_L_141 : Cond.methodLink RL 141 yX12_pays ∈ zTB := zTB_of (List.mem_of_getElem? (i := 1537) (by decide +kernel)) rfl
theorem lk_L_145 : Cond.methodLink RL 145 yX12_borne ∈ zTB := zTB_of (List.mem_of_getElem? (i := 1542) (by decide +kernel)) rfl
theorem lk_X12_341 : Cond.methodLink RX12 341 yX12_borneBy ∈ zTB := zTB_of (List.mem_of_getElem? (i := 1546) (by decide +kernel)) rfl
theorem lk_X12_344 : Cond.methodLink RX12 344 yX12_byHeads ∈ zTB := zTB_of (List.mem_of_getElem? (i := 1550) (by decide +kernel)) rfl
theorem lk_L_149 : Cond.methodLink RL 149 yX12_count ∈ zTB := zTB_of (List.mem_of_getElem? (i := 1554) (by decide +kernel)) rfl
theorem lk_L_153 : Cond.methodLink RL 153 yX12_sheet ∈ zTB := zTB_of (List.mem_of_getElem? (i := 1558) (by decide +kernel)) rfl
theorem lk_X12_347 : Cond.methodLink RX12 347 yX12_isSheet ∈ zTB := zTB_of (List.mem_of_getElem? (i := 1562) (by decide +kernel)) rfl
theorem lk_X12_350 : Cond.methodLink RX12 350 yX12_isLane ∈ zTB := zTB_of (List.mem_of_getElem? (i := 1565) (by decide +kernel)) rfl
theorem lk_L_157 : Cond.methodLink RL 157 yX12_drop ∈ zTB := zTB_of (List.mem_of_getElem? (i := 1568) (by decide +kernel)) rfl
theorem lk_L_161 : Cond.methodLink RL 161 yX12_item ∈ zTB := zTB_of (List.mem_of_getElem? (i := 1572) (by decide +kernel)) rfl
theorem lk_L_165 : Cond.methodLink RL 165 yX12_roll ∈ zTB := zTB_of (List.mem_of_getElem? (i := 1576) (by decide +kernel)) rfl
theorem lk_X12_356 : Cond.methodLink RX12 356 yX12_leftOutOf ∈ zTB := zTB_of (List.mem_of_getElem? (i := 1580) (by decide +kernel)) rfl
theorem lk_L_169 : Cond.methodLink RL 169 yX12_leftOut ∈ zTB := zTB_of (List.mem_of_getElem? (i := 1584) (by decide +kernel)) rfl
theorem lk_L_173 : Cond.methodLink RL 173 yX12_sure ∈ zTB := zTB_of (List.mem_of_getElem? (i := 1588) (by decide +kernel)) rfl
theorem ln_X11_24 : Cond.methodLinkNest RX11 24 yX0_init "TenForOne" ∈ zNW := List.mem_filter.mpr ⟨List.mem_of_getElem? (i := 33) (by decide +kernel), rfl⟩
theorem ln_X11_43 : Cond.methodLinkNest RX11 43 yX10_init "TenForOne" ∈ zNW := List.mem_filter.mpr ⟨List.mem_of_getElem? (i := 55) (by decide +kernel), rfl⟩
theorem ln_X11_66 : Cond.methodLinkNest RX11 66 yX6_init "TenForOne" ∈ zNW := List.mem_filter.mpr ⟨List.mem_of_getElem? (i := 100) (by decide +kernel), rfl⟩
theorem ln_X11_73 : Cond.methodLinkNest RX11 73 yX1_init "TenForOne" ∈ zNW := List.mem_filter.mpr ⟨List.mem_of_getElem? (i := 123) (by decide +kernel), rfl⟩
theorem ln_X11_89 : Cond.methodLinkNest RX11 89 yX7_init "TenForOne" ∈ zNW := List.mem_filter.mpr ⟨List.mem_of_getElem? (i := 154) (by decide +kernel), rfl⟩
theorem ln_X6_35 : Cond.methodLinkNest RX6 35 yX11_isName "TenForOne" ∈ zNW := List.mem_filter.mpr ⟨List.mem_of_getElem? (i := 953) (by decide +kernel), rfl⟩
theorem cl_L_7 : Cond.classLink RL 7 RX11 ∈ zTB := zTB_of (List.mem_of_getElem? (i := 103) (by decide +kernel)) rfl
theorem cl_X11_13 : Cond.classLink RX11 13 RX4 ∈ zTB := zTB_of (List.mem_of_getElem? (i := 111) (by decide +kernel)) rfl
theorem cl_X11_22 : Cond.classLink RX11 22 RX0 ∈ zTB := zTB_of (List.mem_of_getElem? (i := 113) (by decide +kernel)) rfl
theorem cl_X11_29 : Cond.classLink RX11 29 RX9 ∈ zTB := zTB_of (List.mem_of_getElem? (i := 131) (by decide +kernel)) rfl
theorem cl_X11_35 : Cond.classLink RX11 35 RX5 ∈ zTB := zTB_of (List.mem_of_getElem? (i := 133) (by decide +kernel)) rfl
theorem cl_X11_41 : Cond.classLink RX11 41 RX10 ∈ zTB := zTB_of (List.mem_of_getElem? (i := 135) (by decide +kernel)) rfl
theorem cl_X11_48 : Cond.classLink RX11 48 RX3 ∈ zTB := zTB_of (List.mem_of_getElem? (i := 156) (by decide +kernel)) rfl
theorem cl_X11_58 : Cond.classLink RX11 58 RX7 ∈ zTB := zTB_of (List.mem_of_getElem? (i := 178) (by decide +kernel)) rfl
theorem cl_X11_64 : Cond.classLink RX11 64 RX6 ∈ zTB := zTB_of (List.mem_of_getElem? (i := 180) (by decide +kernel)) rfl
theorem cl_X11_71 : Cond.classLink RX11 71 RX1 ∈ zTB := zTB_of (List.mem_of_getElem? (i := 203) (by decide +kernel)) rfl
theorem cl_X11_167 : Cond.classLink RX11 167 RX2 ∈ zTB := zTB_of (List.mem_of_getElem? (i := 454) (by decide +kernel)) rfl
theorem cl_X11_237 : Cond.classLink RX11 237 RX8 ∈ zTB := zTB_of (List.mem_of_getElem? (i := 685) (by decide +kernel)) rfl
theorem cl_L_10 : Cond.classLink RL 10 RX12 ∈ zTB := zTB_of (List.mem_of_getElem? (i := 1058) (by decide +kernel)) rfl
theorem co_X1_31 : Cond.constant RX1 31 (Int32.ofInt 2147483647) ∈ zTB := zTB_of (List.mem_of_getElem? (i := 819) (by decide +kernel)) rfl
theorem co_J6_265 : Cond.constant RJ6 265 (Int32.ofInt 1431655765) ∈ zTB := zTB_of (List.mem_of_getElem? (i := 857) (by decide +kernel)) rfl
theorem co_J6_266 : Cond.constant RJ6 266 (Int32.ofInt 858993459) ∈ zTB := zTB_of (List.mem_of_getElem? (i := 858) (by decide +kernel)) rfl
theorem co_J6_267 : Cond.constant RJ6 267 (Int32.ofInt 252645135) ∈ zTB := zTB_of (List.mem_of_getElem? (i := 859) (by decide +kernel)) rfl
theorem co_X11_336 : Cond.constant RX11 336 (Int32.ofInt 99999) ∈ zTB := zTB_of (List.mem_of_getElem? (i := 969) (by decide +kernel)) rfl
theorem co_X12_47 : Cond.constant RX12 47 (Int32.ofInt 100000) ∈ zTB := zTB_of (List.mem_of_getElem? (i := 1064) (by decide +kernel)) rfl
theorem co_X12_340 : Cond.constant RX12 340 (Int32.ofInt 99999) ∈ zTB := zTB_of (List.mem_of_getElem? (i := 1541) (by decide +kernel)) rfl
theorem col_X12_203 : Cond.constantLong RX12 203 255 ∈ zTB := zTB_of (List.mem_of_getElem? (i := 1341) (by decide +kernel)) rfl
theorem col_L_52 : Cond.constantLong RL 52 4294967295 ∈ zTB := zTB_of (List.mem_of_getElem? (i := 1592) (by decide +kernel)) rfl
theorem ob_inst : Cond.instanceMethod Lib.objectInit ∈ zTB := zTB_of (List.mem_of_getElem? (i := 109) (by decide +kernel)) rfl
theorem ob_code : Cond.code Lib.objectInit ⟨#[0xb1]⟩ 1 none ∈ zTB := zTB_of (List.mem_of_getElem? (i := 110) (by decide +kernel)) rfl
theorem mm_max_s : Cond.static Lib.Math.max.name ∈ zTB := zTB_of (List.mem_of_getElem? (i := 416) (by decide +kernel)) rfl
theorem mm_max_c : Cond.code Lib.Math.max.name Lib.Math.max.code 2 (some .int) ∈ zTB := zTB_of (List.mem_of_getElem? (i := 417) (by decide +kernel)) rfl
theorem mm_min_s : Cond.static Lib.Math.min.name ∈ zTB := zTB_of (List.mem_of_getElem? (i := 561) (by decide +kernel)) rfl
theorem mm_min_c : Cond.code Lib.Math.min.name Lib.Math.min.code 2 (some .int) ∈ zTB := zTB_of (List.mem_of_getElem? (i := 562) (by decide +kernel)) rfl
theorem mm_abs_s : Cond.static Lib.Math.abs.name ∈ zTB := zTB_of (List.mem_of_getElem? (i := 829) (by decide +kernel)) rfl
theorem mm_abs_c : Cond.code Lib.Math.abs.name Lib.Math.abs.code 1 (some .int) ∈ zTB := zTB_of (List.mem_of_getElem? (i := 830) (by decide +kernel)) rfl
theorem ao_X4 : Cond.arrayOver (.object RX4) ∈ lw_tbl := List.mem_of_getElem? (i := 112) (by decide +kernel)
theorem ac_int : Cond.arrayClass .int ∈ zTB := zTB_of (List.mem_of_getElem? (i := 130) (by decide +kernel)) rfl
theorem ao_X9 : Cond.arrayOver (.object RX9) ∈ lw_tbl := List.mem_of_getElem? (i := 132) (by decide +kernel)
theorem ao_X5 : Cond.arrayOver (.object RX5) ∈ lw_tbl := List.mem_of_getElem? (i := 134) (by decide +kernel)
theorem ac_byte : Cond.arrayClass .byte ∈ zTB := zTB_of (List.mem_of_getElem? (i := 155) (by decide +kernel)) rfl
theorem ao_X7 : Cond.arrayOver (.object RX7) ∈ lw_tbl := List.mem_of_getElem? (i := 179) (by decide +kernel)
theorem ac_boolean : Cond.arrayClass .boolean ∈ zTB := zTB_of (List.mem_of_getElem? (i := 202) (by decide +kernel)) rfl
