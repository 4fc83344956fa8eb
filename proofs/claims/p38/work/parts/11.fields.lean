set_option maxRecDepth 20000 in
theorem f_X7_12 : zFd RX7 12 7 0 2 := ⟨RX7, TX7, 11, tyX7, rfl, in_X7, tyX7_ok, nmX7, by decide, rfl, in_g (up_2 (List.mem_of_getElem? (i := 22) rfl)) rfl, rfl, rfl⟩
set_option maxRecDepth 20000 in
theorem f_X7_19 : zFd RX7 19 7 1 2 := ⟨RX7, TX7, 11, tyX7, rfl, in_X7, tyX7_ok, nmX7, by decide, rfl, in_g (up_2 (List.mem_of_getElem? (i := 23) rfl)) rfl, rfl, rfl⟩
set_option maxRecDepth 20000 in
theorem f_X7_28 : zFd RX7 28 7 2 2 := ⟨RX7, TX7, 11, tyX7, rfl, in_X7, tyX7_ok, nmX7, by decide, rfl, in_g (up_2 (List.mem_of_getElem? (i := 24) rfl)) rfl, rfl, rfl⟩
set_option maxRecDepth 20000 in
theorem f_X7_35 : zFd RX7 35 7 3 2 := ⟨RX7, TX7, 11, tyX7, rfl, in_X7, tyX7_ok, nmX7, by decide, rfl, in_g (up_2 (List.mem_of_getElem? (i := 25) rfl)) rfl, rfl, rfl⟩
set_option maxRecDepth 20000 in
theorem f_X7_39 : zFd RX7 39 7 4 2 := ⟨RX7, TX7, 11, tyX7, rfl, in_X7, tyX7_ok, nmX7, by decide, rfl, in_g (up_2 (List.mem_of_getElem? (i := 26) rfl)) rfl, rfl, rfl⟩
set_option maxRecDepth 20000 in
theorem f_X7_43 : zFd RX7 43 7 5 2 := ⟨RX7, TX7, 11, tyX7, rfl, in_X7, tyX7_ok, nmX7, by decide, rfl, in_g (up_2 (List.mem_of_getElem? (i := 27) rfl)) rfl, rfl, rfl⟩
set_option maxRecDepth 20000 in
theorem f_X7_50 : zFd RX7 50 7 6 2 := ⟨RX7, TX7, 11, tyX7, rfl, in_X7, tyX7_ok, nmX7, by decide, rfl, in_g (up_2 (List.mem_of_getElem? (i := 28) rfl)) rfl, rfl, rfl⟩
set_option maxRecDepth 20000 in
theorem f_X7_54 : zFd RX7 54 7 7 2 := ⟨RX7, TX7, 11, tyX7, rfl, in_X7, tyX7_ok, nmX7, by decide, rfl, in_g (up_2 (List.mem_of_getElem? (i := 29) rfl)) rfl, rfl, rfl⟩
set_option maxRecDepth 20000 in
theorem f_X7_60 : zFd RX7 60 7 8 2 := ⟨RX7, TX7, 11, tyX7, rfl, in_X7, tyX7_ok, nmX7, by decide, rfl, in_g (up_2 (List.mem_of_getElem? (i := 30) rfl)) rfl, rfl, rfl⟩
set_option maxRecDepth 20000 in
theorem f_X7_66 : zFd RX7 66 7 9 2 := ⟨RX7, TX7, 11, tyX7, rfl, in_X7, tyX7_ok, nmX7, by decide, rfl, in_g (up_2 (List.mem_of_getElem? (i := 31) rfl)) rfl, rfl, rfl⟩
set_option maxRecDepth 20000 in
theorem f_X7_75 : zFd RX7 75 6 1 0 := ⟨RX6, TX6, 2, tyX6, rfl, in_X6, tyX6_ok, nmX6, by decide, rfl, in_g (up_1 (List.mem_of_getElem? (i := 33) rfl)) rfl, rfl, rfl⟩
set_option maxRecDepth 20000 in
theorem f_X7_83 : zFd RX7 83 4 10 0 := ⟨RX4, TX4, 11, tyX4, rfl, in_X4, tyX4_ok, nmX4, by decide, rfl, in_g (up_1 (List.mem_of_getElem? (i := 107) rfl)) rfl, rfl, rfl⟩
set_option maxRecDepth 20000 in
theorem f_X7_89 : zFd RX7 89 3 0 2 := ⟨RX3, TX3, 5, tyX3, rfl, in_X3, tyX3_ok, nmX3, by decide, rfl, in_g (up_1 (List.mem_of_getElem? (i := 56) rfl)) rfl, rfl, rfl⟩
set_option maxRecDepth 20000 in
theorem f_X7_97 : zFd RX7 97 0 1 2 := ⟨RX0, TX0, 7, tyX0, rfl, in_X0, tyX0_ok, nmX0, by decide, rfl, in_g (up_1 (List.mem_of_getElem? (i := 141) rfl)) rfl, rfl, rfl⟩
set_option maxRecDepth 20000 in
theorem f_X7_100 : zFd RX7 100 0 0 2 := ⟨RX0, TX0, 7, tyX0, rfl, in_X0, tyX0_ok, nmX0, by decide, rfl, in_g (up_1 (List.mem_of_getElem? (i := 139) rfl)) rfl, rfl, rfl⟩
set_option maxRecDepth 20000 in
theorem f_X7_103 : zFd RX7 103 3 1 2 := ⟨RX3, TX3, 5, tyX3, rfl, in_X3, tyX3_ok, nmX3, by decide, rfl, in_g (up_1 (List.mem_of_getElem? (i := 60) rfl)) rfl, rfl, rfl⟩
set_option maxRecDepth 20000 in
theorem f_X7_106 : zFd RX7 106 3 2 2 := ⟨RX3, TX3, 5, tyX3, rfl, in_X3, tyX3_ok, nmX3, by decide, rfl, in_g (up_1 (List.mem_of_getElem? (i := 63) rfl)) rfl, rfl, rfl⟩
set_option maxRecDepth 20000 in
theorem f_X7_109 : zFd RX7 109 0 2 2 := ⟨RX0, TX0, 7, tyX0, rfl, in_X0, tyX0_ok, nmX0, by decide, rfl, in_g (up_1 (List.mem_of_getElem? (i := 143) rfl)) rfl, rfl, rfl⟩
set_option maxRecDepth 20000 in
theorem f_X7_131 : zFd RX7 131 0 3 2 := ⟨RX0, TX0, 7, tyX0, rfl, in_X0, tyX0_ok, nmX0, by decide, rfl, in_g (up_1 (List.mem_of_getElem? (i := 146) rfl)) rfl, rfl, rfl⟩
set_option maxRecDepth 20000 in
theorem f_X7_144 : zFd RX7 144 0 4 1 := ⟨RX0, TX0, 7, tyX0, rfl, in_X0, tyX0_ok, nmX0, by decide, rfl, in_g (up_1 (List.mem_of_getElem? (i := 148) rfl)) rfl, rfl, rfl⟩
set_option maxRecDepth 20000 in
theorem f_X7_148 : zFd RX7 148 0 5 1 := ⟨RX0, TX0, 7, tyX0, rfl, in_X0, tyX0_ok, nmX0, by decide, rfl, in_g (up_1 (List.mem_of_getElem? (i := 150) rfl)) rfl, rfl, rfl⟩
set_option maxRecDepth 20000 in
theorem f_X7_154 : zFd RX7 154 0 6 1 := ⟨RX0, TX0, 7, tyX0, rfl, in_X0, tyX0_ok, nmX0, by decide, rfl, in_g (up_1 (List.mem_of_getElem? (i := 152) rfl)) rfl, rfl, rfl⟩
set_option maxRecDepth 20000 in
theorem f_X7_173 : zFd RX7 173 2 1 2 := ⟨RX2, TX2, 4, tyX2, rfl, in_X2, tyX2_ok, nmX2, by decide, rfl, in_g (up_1 (List.mem_of_getElem? (i := 180) rfl)) rfl, rfl, rfl⟩
set_option maxRecDepth 20000 in
theorem f_X7_188 : zFd RX7 188 2 0 2 := ⟨RX2, TX2, 4, tyX2, rfl, in_X2, tyX2_ok, nmX2, by decide, rfl, in_g (up_1 (List.mem_of_getElem? (i := 178) rfl)) rfl, rfl, rfl⟩
set_option maxRecDepth 20000 in
theorem f_X7_216 : zFd RX7 216 3 4 0 := ⟨RX3, TX3, 5, tyX3, rfl, in_X3, tyX3_ok, nmX3, by decide, rfl, in_g (up_1 (List.mem_of_getElem? (i := 73) rfl)) rfl, rfl, rfl⟩
set_option maxRecDepth 20000 in
theorem f_X7_219 : zFd RX7 219 3 3 2 := ⟨RX3, TX3, 5, tyX3, rfl, in_X3, tyX3_ok, nmX3, by decide, rfl, in_g (up_1 (List.mem_of_getElem? (i := 69) rfl)) rfl, rfl, rfl⟩
set_option maxRecDepth 20000 in
theorem f_X7_233 : zFd RX7 233 1 2 0 := ⟨RX1, TX1, 13, tyX1, rfl, in_X1, tyX1_ok, nmX1, by decide, rfl, in_g (up_1 (List.mem_of_getElem? (i := 201) rfl)) rfl, rfl, rfl⟩
set_option maxRecDepth 20000 in
theorem f_X7_236 : zFd RX7 236 1 3 0 := ⟨RX1, TX1, 13, tyX1, rfl, in_X1, tyX1_ok, nmX1, by decide, rfl, in_g (up_1 (List.mem_of_getElem? (i := 203) rfl)) rfl, rfl, rfl⟩
set_option maxRecDepth 20000 in
theorem f_X7_239 : zFd RX7 239 1 4 0 := ⟨RX1, TX1, 13, tyX1, rfl, in_X1, tyX1_ok, nmX1, by decide, rfl, in_g (up_1 (List.mem_of_getElem? (i := 205) rfl)) rfl, rfl, rfl⟩
set_option maxRecDepth 20000 in
theorem f_X7_269 : zFd RX7 269 5 1 0 := ⟨RX5, TX5, 3, tyX5, rfl, in_X5, tyX5_ok, nmX5, by decide, rfl, in_g (up_2 (List.mem_of_getElem? (i := 12) rfl)) rfl, rfl, rfl⟩
set_option maxRecDepth 20000 in
theorem f_X7_281 : zFd RX7 281 5 0 2 := ⟨RX5, TX5, 3, tyX5, rfl, in_X5, tyX5_ok, nmX5, by decide, rfl, in_g (up_2 (List.mem_of_getElem? (i := 10) rfl)) rfl, rfl, rfl⟩
set_option maxRecDepth 20000 in
theorem f_X7_284 : zFd RX7 284 7 10 0 := ⟨RX7, TX7, 11, tyX7, rfl, in_X7, tyX7_ok, nmX7, by decide, rfl, in_g (up_2 (List.mem_of_getElem? (i := 32) rfl)) rfl, rfl, rfl⟩
set_option maxRecDepth 20000 in
theorem f_X7_290 : zFd RX7 290 5 2 0 := ⟨RX5, TX5, 3, tyX5, rfl, in_X5, tyX5_ok, nmX5, by decide, rfl, in_g (up_2 (List.mem_of_getElem? (i := 14) rfl)) rfl, rfl, rfl⟩
set_option maxRecDepth 20000 in
theorem f_X7_291 : zFd RX7 291 4 1 2 := ⟨RX4, TX4, 11, tyX4, rfl, in_X4, tyX4_ok, nmX4, by decide, rfl, in_g (up_1 (List.mem_of_getElem? (i := 96) rfl)) rfl, rfl, rfl⟩
set_option maxRecDepth 20000 in
theorem f_X7_296 : zFd RX7 296 4 2 2 := ⟨RX4, TX4, 11, tyX4, rfl, in_X4, tyX4_ok, nmX4, by decide, rfl, in_g (up_1 (List.mem_of_getElem? (i := 98) rfl)) rfl, rfl, rfl⟩
set_option maxRecDepth 20000 in
theorem f_X0_9 : zFd RX0 9 0 0 2 := ⟨RX0, TX0, 7, tyX0, rfl, in_X0, tyX0_ok, nmX0, by decide, rfl, in_g (up_1 (List.mem_of_getElem? (i := 138) rfl)) rfl, rfl, rfl⟩
set_option maxRecDepth 20000 in
theorem f_X0_15 : zFd RX0 15 0 1 2 := ⟨RX0, TX0, 7, tyX0, rfl, in_X0, tyX0_ok, nmX0, by decide, rfl, in_g (up_1 (List.mem_of_getElem? (i := 140) rfl)) rfl, rfl, rfl⟩
set_option maxRecDepth 20000 in
theorem f_X0_18 : zFd RX0 18 0 2 2 := ⟨RX0, TX0, 7, tyX0, rfl, in_X0, tyX0_ok, nmX0, by decide, rfl, in_g (up_1 (List.mem_of_getElem? (i := 142) rfl)) rfl, rfl, rfl⟩
set_option maxRecDepth 20000 in
theorem f_X0_21 : zFd RX0 21 0 3 2 := ⟨RX0, TX0, 7, tyX0, rfl, in_X0, tyX0_ok, nmX0, by decide, rfl, in_g (up_1 (List.mem_of_getElem? (i := 144) rfl)) rfl, rfl, rfl⟩
set_option maxRecDepth 20000 in
theorem f_X0_30 : zFd RX0 30 0 4 1 := ⟨RX0, TX0, 7, tyX0, rfl, in_X0, tyX0_ok, nmX0, by decide, rfl, in_g (up_1 (List.mem_of_getElem? (i := 147) rfl)) rfl, rfl, rfl⟩
set_option maxRecDepth 20000 in
theorem f_X0_34 : zFd RX0 34 0 5 1 := ⟨RX0, TX0, 7, tyX0, rfl, in_X0, tyX0_ok, nmX0, by decide, rfl, in_g (up_1 (List.mem_of_getElem? (i := 149) rfl)) rfl, rfl, rfl⟩
set_option maxRecDepth 20000 in
theorem f_X0_37 : zFd RX0 37 0 6 1 := ⟨RX0, TX0, 7, tyX0, rfl, in_X0, tyX0_ok, nmX0, by decide, rfl, in_g (up_1 (List.mem_of_getElem? (i := 151) rfl)) rfl, rfl, rfl⟩
set_option maxRecDepth 20000 in
theorem f_X0_46 : zFd RX0 46 3 1 2 := ⟨RX3, TX3, 5, tyX3, rfl, in_X3, tyX3_ok, nmX3, by decide, rfl, in_g (up_1 (List.mem_of_getElem? (i := 59) rfl)) rfl, rfl, rfl⟩
set_option maxRecDepth 20000 in
theorem f_X0_51 : zFd RX0 51 3 0 2 := ⟨RX3, TX3, 5, tyX3, rfl, in_X3, tyX3_ok, nmX3, by decide, rfl, in_g (up_1 (List.mem_of_getElem? (i := 55) rfl)) rfl, rfl, rfl⟩
set_option maxRecDepth 20000 in
theorem f_X0_86 : zFd RX0 86 3 2 2 := ⟨RX3, TX3, 5, tyX3, rfl, in_X3, tyX3_ok, nmX3, by decide, rfl, in_g (up_1 (List.mem_of_getElem? (i := 65) rfl)) rfl, rfl, rfl⟩
set_option maxRecDepth 20000 in
theorem f_X1_11 : zFd RX1 11 1 5 2 := ⟨RX1, TX1, 13, tyX1, rfl, in_X1, tyX1_ok, nmX1, by decide, rfl, in_g (up_1 (List.mem_of_getElem? (i := 206) rfl)) rfl, rfl, rfl⟩
set_option maxRecDepth 20000 in
theorem f_X1_15 : zFd RX1 15 1 6 2 := ⟨RX1, TX1, 13, tyX1, rfl, in_X1, tyX1_ok, nmX1, by decide, rfl, in_g (up_1 (List.mem_of_getElem? (i := 207) rfl)) rfl, rfl, rfl⟩
set_option maxRecDepth 20000 in
theorem f_X1_18 : zFd RX1 18 1 8 2 := ⟨RX1, TX1, 13, tyX1, rfl, in_X1, tyX1_ok, nmX1, by decide, rfl, in_g (up_1 (List.mem_of_getElem? (i := 209) rfl)) rfl, rfl, rfl⟩
set_option maxRecDepth 20000 in
theorem f_X1_21 : zFd RX1 21 1 9 2 := ⟨RX1, TX1, 13, tyX1, rfl, in_X1, tyX1_ok, nmX1, by decide, rfl, in_g (up_1 (List.mem_of_getElem? (i := 210) rfl)) rfl, rfl, rfl⟩
set_option maxRecDepth 20000 in
theorem f_X1_24 : zFd RX1 24 1 10 2 := ⟨RX1, TX1, 13, tyX1, rfl, in_X1, tyX1_ok, nmX1, by decide, rfl, in_g (up_1 (List.mem_of_getElem? (i := 211) rfl)) rfl, rfl, rfl⟩
set_option maxRecDepth 20000 in
theorem f_X1_27 : zFd RX1 27 1 11 2 := ⟨RX1, TX1, 13, tyX1, rfl, in_X1, tyX1_ok, nmX1, by decide, rfl, in_g (up_1 (List.mem_of_getElem? (i := 212) rfl)) rfl, rfl, rfl⟩
set_option maxRecDepth 20000 in
theorem f_X1_31 : zFd RX1 31 1 12 2 := ⟨RX1, TX1, 13, tyX1, rfl, in_X1, tyX1_ok, nmX1, by decide, rfl, in_g (up_1 (List.mem_of_getElem? (i := 213) rfl)) rfl, rfl, rfl⟩
set_option maxRecDepth 20000 in
theorem f_X1_34 : zFd RX1 34 1 0 0 := ⟨RX1, TX1, 13, tyX1, rfl, in_X1, tyX1_ok, nmX1, by decide, rfl, in_g (up_1 (List.mem_of_getElem? (i := 198) rfl)) rfl, rfl, rfl⟩
set_option maxRecDepth 20000 in
theorem f_X1_67 : zFd RX1 67 1 1 0 := ⟨RX1, TX1, 13, tyX1, rfl, in_X1, tyX1_ok, nmX1, by decide, rfl, in_g (up_1 (List.mem_of_getElem? (i := 199) rfl)) rfl, rfl, rfl⟩
set_option maxRecDepth 20000 in
theorem f_X1_70 : zFd RX1 70 3 4 0 := ⟨RX3, TX3, 5, tyX3, rfl, in_X3, tyX3_ok, nmX3, by decide, rfl, in_g (up_1 (List.mem_of_getElem? (i := 71) rfl)) rfl, rfl, rfl⟩
set_option maxRecDepth 20000 in
theorem f_X1_78 : zFd RX1 78 3 3 2 := ⟨RX3, TX3, 5, tyX3, rfl, in_X3, tyX3_ok, nmX3, by decide, rfl, in_g (up_1 (List.mem_of_getElem? (i := 67) rfl)) rfl, rfl, rfl⟩
set_option maxRecDepth 20000 in
theorem f_X1_85 : zFd RX1 85 1 2 0 := ⟨RX1, TX1, 13, tyX1, rfl, in_X1, tyX1_ok, nmX1, by decide, rfl, in_g (up_1 (List.mem_of_getElem? (i := 200) rfl)) rfl, rfl, rfl⟩
set_option maxRecDepth 20000 in
theorem f_X1_92 : zFd RX1 92 1 3 0 := ⟨RX1, TX1, 13, tyX1, rfl, in_X1, tyX1_ok, nmX1, by decide, rfl, in_g (up_1 (List.mem_of_getElem? (i := 202) rfl)) rfl, rfl, rfl⟩
set_option maxRecDepth 20000 in
theorem f_X1_98 : zFd RX1 98 1 4 0 := ⟨RX1, TX1, 13, tyX1, rfl, in_X1, tyX1_ok, nmX1, by decide, rfl, in_g (up_1 (List.mem_of_getElem? (i := 204) rfl)) rfl, rfl, rfl⟩
set_option maxRecDepth 20000 in
theorem f_X1_104 : zFd RX1 104 1 7 0 := ⟨RX1, TX1, 13, tyX1, rfl, in_X1, tyX1_ok, nmX1, by decide, rfl, in_g (up_1 (List.mem_of_getElem? (i := 208) rfl)) rfl, rfl, rfl⟩
set_option maxRecDepth 20000 in
theorem f_X2_12 : zFd RX2 12 2 0 2 := ⟨RX2, TX2, 4, tyX2, rfl, in_X2, tyX2_ok, nmX2, by decide, rfl, in_g (up_1 (List.mem_of_getElem? (i := 177) rfl)) rfl, rfl, rfl⟩
set_option maxRecDepth 20000 in
theorem f_X2_18 : zFd RX2 18 2 1 2 := ⟨RX2, TX2, 4, tyX2, rfl, in_X2, tyX2_ok, nmX2, by decide, rfl, in_g (up_1 (List.mem_of_getElem? (i := 179) rfl)) rfl, rfl, rfl⟩
set_option maxRecDepth 20000 in
theorem f_X2_26 : zFd RX2 26 0 3 2 := ⟨RX0, TX0, 7, tyX0, rfl, in_X0, tyX0_ok, nmX0, by decide, rfl, in_g (up_1 (List.mem_of_getElem? (i := 145) rfl)) rfl, rfl, rfl⟩
set_option maxRecDepth 20000 in
theorem f_X2_44 : zFd RX2 44 2 2 0 := ⟨RX2, TX2, 4, tyX2, rfl, in_X2, tyX2_ok, nmX2, by decide, rfl, in_g (up_1 (List.mem_of_getElem? (i := 181) rfl)) rfl, rfl, rfl⟩
set_option maxRecDepth 20000 in
theorem f_X2_48 : zFd RX2 48 2 3 0 := ⟨RX2, TX2, 4, tyX2, rfl, in_X2, tyX2_ok, nmX2, by decide, rfl, in_g (up_1 (List.mem_of_getElem? (i := 182) rfl)) rfl, rfl, rfl⟩
set_option maxRecDepth 20000 in
theorem f_X3_9 : zFd RX3 9 3 0 2 := ⟨RX3, TX3, 5, tyX3, rfl, in_X3, tyX3_ok, nmX3, by decide, rfl, in_g (up_1 (List.mem_of_getElem? (i := 54) rfl)) rfl, rfl, rfl⟩
set_option maxRecDepth 20000 in
theorem f_X3_15 : zFd RX3 15 3 1 2 := ⟨RX3, TX3, 5, tyX3, rfl, in_X3, tyX3_ok, nmX3, by decide, rfl, in_g (up_1 (List.mem_of_getElem? (i := 58) rfl)) rfl, rfl, rfl⟩
set_option maxRecDepth 20000 in
theorem f_X3_18 : zFd RX3 18 3 2 2 := ⟨RX3, TX3, 5, tyX3, rfl, in_X3, tyX3_ok, nmX3, by decide, rfl, in_g (up_1 (List.mem_of_getElem? (i := 62) rfl)) rfl, rfl, rfl⟩
set_option maxRecDepth 20000 in
theorem f_X3_21 : zFd RX3 21 3 3 2 := ⟨RX3, TX3, 5, tyX3, rfl, in_X3, tyX3_ok, nmX3, by decide, rfl, in_g (up_1 (List.mem_of_getElem? (i := 66) rfl)) rfl, rfl, rfl⟩
set_option maxRecDepth 20000 in
theorem f_X3_33 : zFd RX3 33 3 4 0 := ⟨RX3, TX3, 5, tyX3, rfl, in_X3, tyX3_ok, nmX3, by decide, rfl, in_g (up_1 (List.mem_of_getElem? (i := 70) rfl)) rfl, rfl, rfl⟩
set_option maxRecDepth 20000 in
theorem f_X4_12 : zFd RX4 12 4 1 2 := ⟨RX4, TX4, 11, tyX4, rfl, in_X4, tyX4_ok, nmX4, by decide, rfl, in_g (up_1 (List.mem_of_getElem? (i := 95) rfl)) rfl, rfl, rfl⟩
set_option maxRecDepth 20000 in
theorem f_X4_18 : zFd RX4 18 4 2 2 := ⟨RX4, TX4, 11, tyX4, rfl, in_X4, tyX4_ok, nmX4, by decide, rfl, in_g (up_1 (List.mem_of_getElem? (i := 97) rfl)) rfl, rfl, rfl⟩
set_option maxRecDepth 20000 in
theorem f_X4_22 : zFd RX4 22 4 3 2 := ⟨RX4, TX4, 11, tyX4, rfl, in_X4, tyX4_ok, nmX4, by decide, rfl, in_g (up_1 (List.mem_of_getElem? (i := 99) rfl)) rfl, rfl, rfl⟩
set_option maxRecDepth 20000 in
theorem f_X4_26 : zFd RX4 26 4 0 2 := ⟨RX4, TX4, 11, tyX4, rfl, in_X4, tyX4_ok, nmX4, by decide, rfl, in_g (up_1 (List.mem_of_getElem? (i := 94) rfl)) rfl, rfl, rfl⟩
set_option maxRecDepth 20000 in
theorem f_X4_36 : zFd RX4 36 4 10 0 := ⟨RX4, TX4, 11, tyX4, rfl, in_X4, tyX4_ok, nmX4, by decide, rfl, in_g (up_1 (List.mem_of_getElem? (i := 106) rfl)) rfl, rfl, rfl⟩
set_option maxRecDepth 20000 in
theorem f_X4_40 : zFd RX4 40 4 5 0 := ⟨RX4, TX4, 11, tyX4, rfl, in_X4, tyX4_ok, nmX4, by decide, rfl, in_g (up_1 (List.mem_of_getElem? (i := 101) rfl)) rfl, rfl, rfl⟩
set_option maxRecDepth 20000 in
theorem f_X4_49 : zFd RX4 49 4 9 0 := ⟨RX4, TX4, 11, tyX4, rfl, in_X4, tyX4_ok, nmX4, by decide, rfl, in_g (up_1 (List.mem_of_getElem? (i := 105) rfl)) rfl, rfl, rfl⟩
set_option maxRecDepth 20000 in
theorem f_X4_61 : zFd RX4 61 4 4 0 := ⟨RX4, TX4, 11, tyX4, rfl, in_X4, tyX4_ok, nmX4, by decide, rfl, in_g (up_1 (List.mem_of_getElem? (i := 100) rfl)) rfl, rfl, rfl⟩
set_option maxRecDepth 20000 in
theorem f_X4_64 : zFd RX4 64 4 8 0 := ⟨RX4, TX4, 11, tyX4, rfl, in_X4, tyX4_ok, nmX4, by decide, rfl, in_g (up_1 (List.mem_of_getElem? (i := 104) rfl)) rfl, rfl, rfl⟩
set_option maxRecDepth 20000 in
theorem f_X4_73 : zFd RX4 73 4 6 0 := ⟨RX4, TX4, 11, tyX4, rfl, in_X4, tyX4_ok, nmX4, by decide, rfl, in_g (up_1 (List.mem_of_getElem? (i := 102) rfl)) rfl, rfl, rfl⟩
set_option maxRecDepth 20000 in
theorem f_X4_76 : zFd RX4 76 4 7 0 := ⟨RX4, TX4, 11, tyX4, rfl, in_X4, tyX4_ok, nmX4, by decide, rfl, in_g (up_1 (List.mem_of_getElem? (i := 103) rfl)) rfl, rfl, rfl⟩
set_option maxRecDepth 20000 in
theorem f_X4_100 : zFd RX4 100 3 1 2 := ⟨RX3, TX3, 5, tyX3, rfl, in_X3, tyX3_ok, nmX3, by decide, rfl, in_g (up_1 (List.mem_of_getElem? (i := 61) rfl)) rfl, rfl, rfl⟩
set_option maxRecDepth 20000 in
theorem f_X4_106 : zFd RX4 106 3 2 2 := ⟨RX3, TX3, 5, tyX3, rfl, in_X3, tyX3_ok, nmX3, by decide, rfl, in_g (up_1 (List.mem_of_getElem? (i := 64) rfl)) rfl, rfl, rfl⟩
set_option maxRecDepth 20000 in
theorem f_X4_109 : zFd RX4 109 3 0 2 := ⟨RX3, TX3, 5, tyX3, rfl, in_X3, tyX3_ok, nmX3, by decide, rfl, in_g (up_1 (List.mem_of_getElem? (i := 57) rfl)) rfl, rfl, rfl⟩
set_option maxRecDepth 20000 in
theorem f_X4_157 : zFd RX4 157 3 4 0 := ⟨RX3, TX3, 5, tyX3, rfl, in_X3, tyX3_ok, nmX3, by decide, rfl, in_g (up_1 (List.mem_of_getElem? (i := 72) rfl)) rfl, rfl, rfl⟩
set_option maxRecDepth 20000 in
theorem f_X4_160 : zFd RX4 160 3 3 2 := ⟨RX3, TX3, 5, tyX3, rfl, in_X3, tyX3_ok, nmX3, by decide, rfl, in_g (up_1 (List.mem_of_getElem? (i := 68) rfl)) rfl, rfl, rfl⟩
set_option maxRecDepth 20000 in
theorem f_X4_163 : zFd RX4 163 6 1 0 := ⟨RX6, TX6, 2, tyX6, rfl, in_X6, tyX6_ok, nmX6, by decide, rfl, in_g (up_1 (List.mem_of_getElem? (i := 34) rfl)) rfl, rfl, rfl⟩
set_option maxRecDepth 20000 in
theorem f_X5_9 : zFd RX5 9 5 0 2 := ⟨RX5, TX5, 3, tyX5, rfl, in_X5, tyX5_ok, nmX5, by decide, rfl, in_g (up_2 (List.mem_of_getElem? (i := 9) rfl)) rfl, rfl, rfl⟩
set_option maxRecDepth 20000 in
theorem f_X5_15 : zFd RX5 15 5 2 0 := ⟨RX5, TX5, 3, tyX5, rfl, in_X5, tyX5_ok, nmX5, by decide, rfl, in_g (up_2 (List.mem_of_getElem? (i := 13) rfl)) rfl, rfl, rfl⟩
set_option maxRecDepth 20000 in
theorem f_X5_25 : zFd RX5 25 5 1 0 := ⟨RX5, TX5, 3, tyX5, rfl, in_X5, tyX5_ok, nmX5, by decide, rfl, in_g (up_2 (List.mem_of_getElem? (i := 11) rfl)) rfl, rfl, rfl⟩
set_option maxRecDepth 20000 in
theorem f_X6_9 : zFd RX6 9 6 0 2 := ⟨RX6, TX6, 2, tyX6, rfl, in_X6, tyX6_ok, nmX6, by decide, rfl, in_g (up_1 (List.mem_of_getElem? (i := 31) rfl)) rfl, rfl, rfl⟩
set_option maxRecDepth 20000 in
theorem f_X6_15 : zFd RX6 15 6 1 0 := ⟨RX6, TX6, 2, tyX6, rfl, in_X6, tyX6_ok, nmX6, by decide, rfl, in_g (up_1 (List.mem_of_getElem? (i := 32) rfl)) rfl, rfl, rfl⟩
set_option maxRecDepth 20000 in
theorem f_X8_7 : zFd RX8 7 8 0 2 := ⟨RX8, TX8, 36, tyX8, rfl, in_X8, tyX8_ok, nmX8, by decide, rfl, in_g (up_4 (List.mem_of_getElem? (i := 137) rfl)) rfl, rfl, rfl⟩
set_option maxRecDepth 20000 in
theorem f_X8_13 : zFd RX8 13 8 1 2 := ⟨RX8, TX8, 36, tyX8, rfl, in_X8, tyX8_ok, nmX8, by decide, rfl, in_g (up_4 (List.mem_of_getElem? (i := 138) rfl)) rfl, rfl, rfl⟩
set_option maxRecDepth 20000 in
theorem f_X8_17 : zFd RX8 17 8 2 2 := ⟨RX8, TX8, 36, tyX8, rfl, in_X8, tyX8_ok, nmX8, by decide, rfl, in_g (up_4 (List.mem_of_getElem? (i := 139) rfl)) rfl, rfl, rfl⟩
set_option maxRecDepth 20000 in
theorem f_X8_21 : zFd RX8 21 8 3 2 := ⟨RX8, TX8, 36, tyX8, rfl, in_X8, tyX8_ok, nmX8, by decide, rfl, in_g (up_4 (List.mem_of_getElem? (i := 140) rfl)) rfl, rfl, rfl⟩
set_option maxRecDepth 20000 in
theorem f_X8_24 : zFd RX8 24 8 4 2 := ⟨RX8, TX8, 36, tyX8, rfl, in_X8, tyX8_ok, nmX8, by decide, rfl, in_g (up_4 (List.mem_of_getElem? (i := 141) rfl)) rfl, rfl, rfl⟩
set_option maxRecDepth 20000 in
theorem f_X8_27 : zFd RX8 27 8 5 2 := ⟨RX8, TX8, 36, tyX8, rfl, in_X8, tyX8_ok, nmX8, by decide, rfl, in_g (up_4 (List.mem_of_getElem? (i := 142) rfl)) rfl, rfl, rfl⟩
set_option maxRecDepth 20000 in
theorem f_X8_30 : zFd RX8 30 8 7 2 := ⟨RX8, TX8, 36, tyX8, rfl, in_X8, tyX8_ok, nmX8, by decide, rfl, in_g (up_4 (List.mem_of_getElem? (i := 144) rfl)) rfl, rfl, rfl⟩
set_option maxRecDepth 20000 in
theorem f_X8_33 : zFd RX8 33 8 8 2 := ⟨RX8, TX8, 36, tyX8, rfl, in_X8, tyX8_ok, nmX8, by decide, rfl, in_g (up_4 (List.mem_of_getElem? (i := 145) rfl)) rfl, rfl, rfl⟩
set_option maxRecDepth 20000 in
theorem f_X8_36 : zFd RX8 36 8 9 2 := ⟨RX8, TX8, 36, tyX8, rfl, in_X8, tyX8_ok, nmX8, by decide, rfl, in_g (up_4 (List.mem_of_getElem? (i := 146) rfl)) rfl, rfl, rfl⟩
set_option maxRecDepth 20000 in
theorem f_X8_39 : zFd RX8 39 8 10 2 := ⟨RX8, TX8, 36, tyX8, rfl, in_X8, tyX8_ok, nmX8, by decide, rfl, in_g (up_4 (List.mem_of_getElem? (i := 147) rfl)) rfl, rfl, rfl⟩
set_option maxRecDepth 20000 in
theorem f_X8_42 : zFd RX8 42 8 11 2 := ⟨RX8, TX8, 36, tyX8, rfl, in_X8, tyX8_ok, nmX8, by decide, rfl, in_g (up_4 (List.mem_of_getElem? (i := 148) rfl)) rfl, rfl, rfl⟩
set_option maxRecDepth 20000 in
theorem f_X8_45 : zFd RX8 45 8 13 2 := ⟨RX8, TX8, 36, tyX8, rfl, in_X8, tyX8_ok, nmX8, by decide, rfl, in_g (up_4 (List.mem_of_getElem? (i := 150) rfl)) rfl, rfl, rfl⟩
set_option maxRecDepth 20000 in
theorem f_X8_48 : zFd RX8 48 8 16 2 := ⟨RX8, TX8, 36, tyX8, rfl, in_X8, tyX8_ok, nmX8, by decide, rfl, in_g (up_4 (List.mem_of_getElem? (i := 153) rfl)) rfl, rfl, rfl⟩
set_option maxRecDepth 20000 in
theorem f_X8_51 : zFd RX8 51 8 24 2 := ⟨RX8, TX8, 36, tyX8, rfl, in_X8, tyX8_ok, nmX8, by decide, rfl, in_g (up_4 (List.mem_of_getElem? (i := 161) rfl)) rfl, rfl, rfl⟩
set_option maxRecDepth 20000 in
theorem f_X8_54 : zFd RX8 54 8 25 2 := ⟨RX8, TX8, 36, tyX8, rfl, in_X8, tyX8_ok, nmX8, by decide, rfl, in_g (up_4 (List.mem_of_getElem? (i := 162) rfl)) rfl, rfl, rfl⟩
set_option maxRecDepth 20000 in
theorem f_X8_57 : zFd RX8 57 8 30 2 := ⟨RX8, TX8, 36, tyX8, rfl, in_X8, tyX8_ok, nmX8, by decide, rfl, in_g (up_4 (List.mem_of_getElem? (i := 167) rfl)) rfl, rfl, rfl⟩
set_option maxRecDepth 20000 in
theorem f_X8_60 : zFd RX8 60 8 31 2 := ⟨RX8, TX8, 36, tyX8, rfl, in_X8, tyX8_ok, nmX8, by decide, rfl, in_g (up_4 (List.mem_of_getElem? (i := 168) rfl)) rfl, rfl, rfl⟩
set_option maxRecDepth 20000 in
theorem f_X8_63 : zFd RX8 63 8 32 2 := ⟨RX8, TX8, 36, tyX8, rfl, in_X8, tyX8_ok, nmX8, by decide, rfl, in_g (up_4 (List.mem_of_getElem? (i := 169) rfl)) rfl, rfl, rfl⟩
set_option maxRecDepth 20000 in
theorem f_X8_66 : zFd RX8 66 8 33 2 := ⟨RX8, TX8, 36, tyX8, rfl, in_X8, tyX8_ok, nmX8, by decide, rfl, in_g (up_4 (List.mem_of_getElem? (i := 170) rfl)) rfl, rfl, rfl⟩
set_option maxRecDepth 20000 in
theorem f_X8_69 : zFd RX8 69 8 34 2 := ⟨RX8, TX8, 36, tyX8, rfl, in_X8, tyX8_ok, nmX8, by decide, rfl, in_g (up_4 (List.mem_of_getElem? (i := 171) rfl)) rfl, rfl, rfl⟩
set_option maxRecDepth 20000 in
theorem f_X8_78 : zFd RX8 78 8 12 0 := ⟨RX8, TX8, 36, tyX8, rfl, in_X8, tyX8_ok, nmX8, by decide, rfl, in_g (up_4 (List.mem_of_getElem? (i := 149) rfl)) rfl, rfl, rfl⟩
set_option maxRecDepth 20000 in
theorem f_X8_82 : zFd RX8 82 8 14 0 := ⟨RX8, TX8, 36, tyX8, rfl, in_X8, tyX8_ok, nmX8, by decide, rfl, in_g (up_4 (List.mem_of_getElem? (i := 151) rfl)) rfl, rfl, rfl⟩
set_option maxRecDepth 20000 in
theorem f_X8_85 : zFd RX8 85 8 15 0 := ⟨RX8, TX8, 36, tyX8, rfl, in_X8, tyX8_ok, nmX8, by decide, rfl, in_g (up_4 (List.mem_of_getElem? (i := 152) rfl)) rfl, rfl, rfl⟩
set_option maxRecDepth 20000 in
theorem f_X8_99 : zFd RX8 99 8 6 0 := ⟨RX8, TX8, 36, tyX8, rfl, in_X8, tyX8_ok, nmX8, by decide, rfl, in_g (up_4 (List.mem_of_getElem? (i := 143) rfl)) rfl, rfl, rfl⟩
set_option maxRecDepth 20000 in
theorem f_X8_102 : zFd RX8 102 8 17 0 := ⟨RX8, TX8, 36, tyX8, rfl, in_X8, tyX8_ok, nmX8, by decide, rfl, in_g (up_4 (List.mem_of_getElem? (i := 154) rfl)) rfl, rfl, rfl⟩
set_option maxRecDepth 20000 in
theorem f_X8_107 : zFd RX8 107 8 22 0 := ⟨RX8, TX8, 36, tyX8, rfl, in_X8, tyX8_ok, nmX8, by decide, rfl, in_g (up_4 (List.mem_of_getElem? (i := 159) rfl)) rfl, rfl, rfl⟩
set_option maxRecDepth 20000 in
theorem f_X8_110 : zFd RX8 110 8 19 0 := ⟨RX8, TX8, 36, tyX8, rfl, in_X8, tyX8_ok, nmX8, by decide, rfl, in_g (up_4 (List.mem_of_getElem? (i := 156) rfl)) rfl, rfl, rfl⟩
set_option maxRecDepth 20000 in
theorem f_X8_113 : zFd RX8 113 8 23 0 := ⟨RX8, TX8, 36, tyX8, rfl, in_X8, tyX8_ok, nmX8, by decide, rfl, in_g (up_4 (List.mem_of_getElem? (i := 160) rfl)) rfl, rfl, rfl⟩
set_option maxRecDepth 20000 in
theorem f_X8_116 : zFd RX8 116 8 18 0 := ⟨RX8, TX8, 36, tyX8, rfl, in_X8, tyX8_ok, nmX8, by decide, rfl, in_g (up_4 (List.mem_of_getElem? (i := 155) rfl)) rfl, rfl, rfl⟩
set_option maxRecDepth 20000 in
theorem f_X8_127 : zFd RX8 127 8 20 0 := ⟨RX8, TX8, 36, tyX8, rfl, in_X8, tyX8_ok, nmX8, by decide, rfl, in_g (up_4 (List.mem_of_getElem? (i := 157) rfl)) rfl, rfl, rfl⟩
set_option maxRecDepth 20000 in
theorem f_X8_138 : zFd RX8 138 8 21 0 := ⟨RX8, TX8, 36, tyX8, rfl, in_X8, tyX8_ok, nmX8, by decide, rfl, in_g (up_4 (List.mem_of_getElem? (i := 158) rfl)) rfl, rfl, rfl⟩
set_option maxRecDepth 20000 in
theorem f_X8_246 : zFd RX8 246 8 26 0 := ⟨RX8, TX8, 36, tyX8, rfl, in_X8, tyX8_ok, nmX8, by decide, rfl, in_g (up_4 (List.mem_of_getElem? (i := 163) rfl)) rfl, rfl, rfl⟩
set_option maxRecDepth 20000 in
theorem f_X8_249 : zFd RX8 249 8 27 0 := ⟨RX8, TX8, 36, tyX8, rfl, in_X8, tyX8_ok, nmX8, by decide, rfl, in_g (up_4 (List.mem_of_getElem? (i := 164) rfl)) rfl, rfl, rfl⟩
set_option maxRecDepth 20000 in
theorem f_X8_273 : zFd RX8 273 8 28 0 := ⟨RX8, TX8, 36, tyX8, rfl, in_X8, tyX8_ok, nmX8, by decide, rfl, in_g (up_4 (List.mem_of_getElem? (i := 165) rfl)) rfl, rfl, rfl⟩
set_option maxRecDepth 20000 in
theorem f_X8_276 : zFd RX8 276 8 29 0 := ⟨RX8, TX8, 36, tyX8, rfl, in_X8, tyX8_ok, nmX8, by decide, rfl, in_g (up_4 (List.mem_of_getElem? (i := 166) rfl)) rfl, rfl, rfl⟩
set_option maxRecDepth 20000 in
theorem f_X8_321 : zFd RX8 321 8 35 0 := ⟨RX8, TX8, 36, tyX8, rfl, in_X8, tyX8_ok, nmX8, by decide, rfl, in_g (up_4 (List.mem_of_getElem? (i := 172) rfl)) rfl, rfl, rfl⟩
set_option maxRecDepth 20000 in
theorem p_X0_0 : zPt 0 0 true (.array .int) := fun C T N h => by cases h; exact ⟨rfl, by decide +kernel⟩
set_option maxRecDepth 20000 in
theorem p_X0_1 : zPt 0 1 true (.array .int) := fun C T N h => by cases h; exact ⟨rfl, by decide +kernel⟩
set_option maxRecDepth 20000 in
theorem p_X0_2 : zPt 0 2 true (.array .int) := fun C T N h => by cases h; exact ⟨rfl, by decide +kernel⟩
set_option maxRecDepth 20000 in
theorem p_X0_3 : zPt 0 3 true (.array .int) := fun C T N h => by cases h; exact ⟨rfl, by decide +kernel⟩
set_option maxRecDepth 20000 in
theorem p_X0_4 : zPt 0 4 false .long := fun C T N h => by cases h; exact ⟨rfl, by decide +kernel⟩
set_option maxRecDepth 20000 in
theorem p_X0_5 : zPt 0 5 false .long := fun C T N h => by cases h; exact ⟨rfl, by decide +kernel⟩
set_option maxRecDepth 20000 in
theorem p_X0_6 : zPt 0 6 false .long := fun C T N h => by cases h; exact ⟨rfl, by decide +kernel⟩
set_option maxRecDepth 20000 in
theorem p_X1_0 : zPt 1 0 false .int := fun C T N h => by cases h; exact ⟨rfl, by decide +kernel⟩
set_option maxRecDepth 20000 in
theorem p_X1_1 : zPt 1 1 false .int := fun C T N h => by cases h; exact ⟨rfl, by decide +kernel⟩
set_option maxRecDepth 20000 in
theorem p_X1_2 : zPt 1 2 false .int := fun C T N h => by cases h; exact ⟨rfl, by decide +kernel⟩
set_option maxRecDepth 20000 in
theorem p_X1_3 : zPt 1 3 false .int := fun C T N h => by cases h; exact ⟨rfl, by decide +kernel⟩
set_option maxRecDepth 20000 in
theorem p_X1_4 : zPt 1 4 false .int := fun C T N h => by cases h; exact ⟨rfl, by decide +kernel⟩
set_option maxRecDepth 20000 in
theorem p_X1_5 : zPt 1 5 true (.array .int) := fun C T N h => by cases h; exact ⟨rfl, by decide +kernel⟩
set_option maxRecDepth 20000 in
theorem p_X1_6 : zPt 1 6 true (.array .int) := fun C T N h => by cases h; exact ⟨rfl, by decide +kernel⟩
set_option maxRecDepth 20000 in
theorem p_X1_7 : zPt 1 7 false .int := fun C T N h => by cases h; exact ⟨rfl, by decide +kernel⟩
set_option maxRecDepth 20000 in
theorem p_X1_8 : zPt 1 8 true (.array .int) := fun C T N h => by cases h; exact ⟨rfl, by decide +kernel⟩
set_option maxRecDepth 20000 in
theorem p_X1_9 : zPt 1 9 true (.array .int) := fun C T N h => by cases h; exact ⟨rfl, by decide +kernel⟩
set_option maxRecDepth 20000 in
theorem p_X1_10 : zPt 1 10 true (.array .int) := fun C T N h => by cases h; exact ⟨rfl, by decide +kernel⟩
set_option maxRecDepth 20000 in
theorem p_X1_11 : zPt 1 11 false (.array .long) := fun C T N h => by cases h; exact ⟨rfl, by decide +kernel⟩
set_option maxRecDepth 20000 in
theorem p_X1_12 : zPt 1 12 false (.array .long) := fun C T N h => by cases h; exact ⟨rfl, by decide +kernel⟩
set_option maxRecDepth 20000 in
theorem p_X2_0 : zPt 2 0 true (.object "BucketSheet$Charge") := fun C T N h => by cases h; exact ⟨rfl, by decide +kernel⟩
set_option maxRecDepth 20000 in
theorem p_X2_1 : zPt 2 1 true (.array .int) := fun C T N h => by cases h; exact ⟨rfl, by decide +kernel⟩
set_option maxRecDepth 20000 in
theorem p_X2_2 : zPt 2 2 false .int := fun C T N h => by cases h; exact ⟨rfl, by decide +kernel⟩
set_option maxRecDepth 20000 in
theorem p_X2_3 : zPt 2 3 false .int := fun C T N h => by cases h; exact ⟨rfl, by decide +kernel⟩
set_option maxRecDepth 20000 in
theorem p_X3_0 : zPt 3 0 true (.array .int) := fun C T N h => by cases h; exact ⟨rfl, by decide +kernel⟩
set_option maxRecDepth 20000 in
theorem p_X3_1 : zPt 3 1 true (.array .int) := fun C T N h => by cases h; exact ⟨rfl, by decide +kernel⟩
set_option maxRecDepth 20000 in
theorem p_X3_2 : zPt 3 2 true (.array .int) := fun C T N h => by cases h; exact ⟨rfl, by decide +kernel⟩
set_option maxRecDepth 20000 in
theorem p_X3_3 : zPt 3 3 true (.array .int) := fun C T N h => by cases h; exact ⟨rfl, by decide +kernel⟩
set_option maxRecDepth 20000 in
theorem p_X3_4 : zPt 3 4 false .int := fun C T N h => by cases h; exact ⟨rfl, by decide +kernel⟩
set_option maxRecDepth 20000 in
theorem p_X4_0 : zPt 4 0 true (.object "BucketSheet$Tape") := fun C T N h => by cases h; exact ⟨rfl, by decide +kernel⟩
set_option maxRecDepth 20000 in
theorem p_X4_1 : zPt 4 1 true (.object "BucketSheet$Plan") := fun C T N h => by cases h; exact ⟨rfl, by decide +kernel⟩
set_option maxRecDepth 20000 in
theorem p_X4_2 : zPt 4 2 true (.array .int) := fun C T N h => by cases h; exact ⟨rfl, by decide +kernel⟩
set_option maxRecDepth 20000 in
theorem p_X4_3 : zPt 4 3 true (.array .boolean) := fun C T N h => by cases h; exact ⟨rfl, by decide +kernel⟩
set_option maxRecDepth 20000 in
theorem p_X4_4 : zPt 4 4 false .int := fun C T N h => by cases h; exact ⟨rfl, by decide +kernel⟩
set_option maxRecDepth 20000 in
theorem p_X4_5 : zPt 4 5 false .int := fun C T N h => by cases h; exact ⟨rfl, by decide +kernel⟩
set_option maxRecDepth 20000 in
theorem p_X4_6 : zPt 4 6 false .int := fun C T N h => by cases h; exact ⟨rfl, by decide +kernel⟩
set_option maxRecDepth 20000 in
theorem p_X4_7 : zPt 4 7 false .int := fun C T N h => by cases h; exact ⟨rfl, by decide +kernel⟩
set_option maxRecDepth 20000 in
theorem p_X4_8 : zPt 4 8 false .int := fun C T N h => by cases h; exact ⟨rfl, by decide +kernel⟩
set_option maxRecDepth 20000 in
theorem p_X4_9 : zPt 4 9 false .int := fun C T N h => by cases h; exact ⟨rfl, by decide +kernel⟩
set_option maxRecDepth 20000 in
theorem p_X4_10 : zPt 4 10 false .int := fun C T N h => by cases h; exact ⟨rfl, by decide +kernel⟩
set_option maxRecDepth 20000 in
theorem p_X5_0 : zPt 5 0 true (.array .int) := fun C T N h => by cases h; exact ⟨rfl, by decide +kernel⟩
set_option maxRecDepth 20000 in
theorem p_X5_1 : zPt 5 1 false .int := fun C T N h => by cases h; exact ⟨rfl, by decide +kernel⟩
set_option maxRecDepth 20000 in
theorem p_X5_2 : zPt 5 2 false .int := fun C T N h => by cases h; exact ⟨rfl, by decide +kernel⟩
set_option maxRecDepth 20000 in
theorem p_X6_0 : zPt 6 0 true (.array .byte) := fun C T N h => by cases h; exact ⟨rfl, by decide +kernel⟩
set_option maxRecDepth 20000 in
theorem p_X6_1 : zPt 6 1 false .int := fun C T N h => by cases h; exact ⟨rfl, by decide +kernel⟩
set_option maxRecDepth 20000 in
theorem p_X7_0 : zPt 7 0 true (.object "BucketSheet$Tape") := fun C T N h => by cases h; exact ⟨rfl, by decide +kernel⟩
set_option maxRecDepth 20000 in
theorem p_X7_1 : zPt 7 1 true (.object "BucketSheet$Plan") := fun C T N h => by cases h; exact ⟨rfl, by decide +kernel⟩
set_option maxRecDepth 20000 in
theorem p_X7_2 : zPt 7 2 true (.object "BucketSheet$Reader") := fun C T N h => by cases h; exact ⟨rfl, by decide +kernel⟩
set_option maxRecDepth 20000 in
theorem p_X7_3 : zPt 7 3 true (.object "BucketSheet$Charge") := fun C T N h => by cases h; exact ⟨rfl, by decide +kernel⟩
set_option maxRecDepth 20000 in
theorem p_X7_4 : zPt 7 4 true (.array (.object "BucketSheet$Charge")) := fun C T N h => by cases h; exact ⟨rfl, by decide +kernel⟩
set_option maxRecDepth 20000 in
theorem p_X7_5 : zPt 7 5 true (.array .boolean) := fun C T N h => by cases h; exact ⟨rfl, by decide +kernel⟩
set_option maxRecDepth 20000 in
theorem p_X7_6 : zPt 7 6 true (.object "BucketSheet$Picture") := fun C T N h => by cases h; exact ⟨rfl, by decide +kernel⟩
set_option maxRecDepth 20000 in
theorem p_X7_7 : zPt 7 7 true (.object "BucketSheet$Picture") := fun C T N h => by cases h; exact ⟨rfl, by decide +kernel⟩
set_option maxRecDepth 20000 in
theorem p_X7_8 : zPt 7 8 true (.object "BucketSheet$Gates") := fun C T N h => by cases h; exact ⟨rfl, by decide +kernel⟩
set_option maxRecDepth 20000 in
theorem p_X7_9 : zPt 7 9 true (.array (.object "BucketSheet$Sheet")) := fun C T N h => by cases h; exact ⟨rfl, by decide +kernel⟩
set_option maxRecDepth 20000 in
theorem p_X7_10 : zPt 7 10 false .int := fun C T N h => by cases h; exact ⟨rfl, by decide +kernel⟩
set_option maxRecDepth 20000 in
theorem p_X8_0 : zPt 8 0 true (.array .int) := fun C T N h => by cases h; exact ⟨rfl, by decide +kernel⟩
set_option maxRecDepth 20000 in
theorem p_X8_1 : zPt 8 1 true (.array .long) := fun C T N h => by cases h; exact ⟨rfl, by decide +kernel⟩
set_option maxRecDepth 20000 in
theorem p_X8_2 : zPt 8 2 true (.array .boolean) := fun C T N h => by cases h; exact ⟨rfl, by decide +kernel⟩
set_option maxRecDepth 20000 in
theorem p_X8_3 : zPt 8 3 true (.array .int) := fun C T N h => by cases h; exact ⟨rfl, by decide +kernel⟩
set_option maxRecDepth 20000 in
theorem p_X8_4 : zPt 8 4 true (.array .int) := fun C T N h => by cases h; exact ⟨rfl, by decide +kernel⟩
set_option maxRecDepth 20000 in
theorem p_X8_5 : zPt 8 5 true (.array .int) := fun C T N h => by cases h; exact ⟨rfl, by decide +kernel⟩
set_option maxRecDepth 20000 in
theorem p_X8_6 : zPt 8 6 false .int := fun C T N h => by cases h; exact ⟨rfl, by decide +kernel⟩
set_option maxRecDepth 20000 in
theorem p_X8_7 : zPt 8 7 true (.array .int) := fun C T N h => by cases h; exact ⟨rfl, by decide +kernel⟩
set_option maxRecDepth 20000 in
theorem p_X8_8 : zPt 8 8 true (.array .int) := fun C T N h => by cases h; exact ⟨rfl, by decide +kernel⟩
set_option maxRecDepth 20000 in
theorem p_X8_9 : zPt 8 9 true (.array .int) := fun C T N h => by cases h; exact ⟨rfl, by decide +kernel⟩
set_option maxRecDepth 20000 in
theorem p_X8_10 : zPt 8 10 true (.array .int) := fun C T N h => by cases h; exact ⟨rfl, by decide +kernel⟩
set_option maxRecDepth 20000 in
theorem p_X8_11 : zPt 8 11 true (.array .int) := fun C T N h => by cases h; exact ⟨rfl, by decide +kernel⟩
set_option maxRecDepth 20000 in
theorem p_X8_12 : zPt 8 12 false .int := fun C T N h => by cases h; exact ⟨rfl, by decide +kernel⟩
set_option maxRecDepth 20000 in
theorem p_X8_13 : zPt 8 13 true (.array .int) := fun C T N h => by cases h; exact ⟨rfl, by decide +kernel⟩
set_option maxRecDepth 20000 in
theorem p_X8_14 : zPt 8 14 false .int := fun C T N h => by cases h; exact ⟨rfl, by decide +kernel⟩
set_option maxRecDepth 20000 in
theorem p_X8_15 : zPt 8 15 false .int := fun C T N h => by cases h; exact ⟨rfl, by decide +kernel⟩
set_option maxRecDepth 20000 in
theorem p_X8_16 : zPt 8 16 true (.array .int) := fun C T N h => by cases h; exact ⟨rfl, by decide +kernel⟩
set_option maxRecDepth 20000 in
theorem p_X8_17 : zPt 8 17 false .int := fun C T N h => by cases h; exact ⟨rfl, by decide +kernel⟩
set_option maxRecDepth 20000 in
theorem p_X8_18 : zPt 8 18 false .int := fun C T N h => by cases h; exact ⟨rfl, by decide +kernel⟩
set_option maxRecDepth 20000 in
theorem p_X8_19 : zPt 8 19 false .int := fun C T N h => by cases h; exact ⟨rfl, by decide +kernel⟩
set_option maxRecDepth 20000 in
theorem p_X8_20 : zPt 8 20 false .int := fun C T N h => by cases h; exact ⟨rfl, by decide +kernel⟩
set_option maxRecDepth 20000 in
theorem p_X8_21 : zPt 8 21 false .int := fun C T N h => by cases h; exact ⟨rfl, by decide +kernel⟩
set_option maxRecDepth 20000 in
theorem p_X8_22 : zPt 8 22 false .int := fun C T N h => by cases h; exact ⟨rfl, by decide +kernel⟩
set_option maxRecDepth 20000 in
theorem p_X8_23 : zPt 8 23 false .int := fun C T N h => by cases h; exact ⟨rfl, by decide +kernel⟩
set_option maxRecDepth 20000 in
theorem p_X8_24 : zPt 8 24 true (.array .int) := fun C T N h => by cases h; exact ⟨rfl, by decide +kernel⟩
set_option maxRecDepth 20000 in
theorem p_X8_25 : zPt 8 25 true (.array .int) := fun C T N h => by cases h; exact ⟨rfl, by decide +kernel⟩
set_option maxRecDepth 20000 in
theorem p_X8_26 : zPt 8 26 false .int := fun C T N h => by cases h; exact ⟨rfl, by decide +kernel⟩
set_option maxRecDepth 20000 in
theorem p_X8_27 : zPt 8 27 false .int := fun C T N h => by cases h; exact ⟨rfl, by decide +kernel⟩
set_option maxRecDepth 20000 in
theorem p_X8_28 : zPt 8 28 false .int := fun C T N h => by cases h; exact ⟨rfl, by decide +kernel⟩
set_option maxRecDepth 20000 in
theorem p_X8_29 : zPt 8 29 false .int := fun C T N h => by cases h; exact ⟨rfl, by decide +kernel⟩
set_option maxRecDepth 20000 in
theorem p_X8_30 : zPt 8 30 true (.array .long) := fun C T N h => by cases h; exact ⟨rfl, by decide +kernel⟩
set_option maxRecDepth 20000 in
theorem p_X8_31 : zPt 8 31 true (.array .long) := fun C T N h => by cases h; exact ⟨rfl, by decide +kernel⟩
set_option maxRecDepth 20000 in
theorem p_X8_32 : zPt 8 32 true (.array .int) := fun C T N h => by cases h; exact ⟨rfl, by decide +kernel⟩
set_option maxRecDepth 20000 in
theorem p_X8_33 : zPt 8 33 true (.array .int) := fun C T N h => by cases h; exact ⟨rfl, by decide +kernel⟩
set_option maxRecDepth 20000 in
theorem p_X8_34 : zPt 8 34 true (.array .int) := fun C T N h => by cases h; exact ⟨rfl, by decide +kernel⟩
set_option maxRecDepth 20000 in
theorem p_X8_35 : zPt 8 35 false .int := fun C T N h => by cases h; exact ⟨rfl, by decide +kernel⟩
set_option maxRecDepth 20000 in
theorem nw_X2_init_9 : zNw m_X2_init 9 0 7 := ⟨RX0, TX0, tyX0, rfl, in_X0, tyX0_ok, in_g (up_1 (List.mem_of_getElem? (i := 175) rfl)) rfl, in_g (up_1 (List.mem_of_getElem? (i := 133) rfl)) rfl, in_g (up_1 (List.mem_of_getElem? (i := 6) rfl)) rfl, fun j hj => by rcases (show j = 0 ∨ j = 1 ∨ j = 2 ∨ j = 3 ∨ j = 4 ∨ j = 5 ∨ j = 6 by omega) with rfl | rfl | rfl | rfl | rfl | rfl | rfl <;> exact ⟨_, rfl, rfl⟩⟩
set_option maxRecDepth 20000 in
theorem nw_X4_init_9 : zNw m_X4_init 9 3 5 := ⟨RX3, TX3, tyX3, rfl, in_X3, tyX3_ok, in_g (up_1 (List.mem_of_getElem? (i := 92) rfl)) rfl, in_g (up_1 (List.mem_of_getElem? (i := 42) rfl)) rfl, in_g (up_1 (List.mem_of_getElem? (i := 3) rfl)) rfl, fun j hj => by rcases (show j = 0 ∨ j = 1 ∨ j = 2 ∨ j = 3 ∨ j = 4 by omega) with rfl | rfl | rfl | rfl | rfl <;> exact ⟨_, rfl, rfl⟩⟩
set_option maxRecDepth 20000 in
theorem nw_X7_init_9 : zNw m_X7_init 9 6 2 := ⟨RX6, TX6, tyX6, rfl, in_X6, tyX6_ok, in_g (up_1 (List.mem_of_getElem? (i := 25) rfl)) rfl, in_g (up_1 (List.mem_of_getElem? (i := 26) rfl)) rfl, in_g (up_1 (List.mem_of_getElem? (i := 2) rfl)) rfl, fun j hj => by rcases (show j = 0 ∨ j = 1 by omega) with rfl | rfl <;> exact ⟨_, rfl, rfl⟩⟩
set_option maxRecDepth 20000 in
theorem nw_X7_init_16 : zNw m_X7_init 16 3 5 := ⟨RX3, TX3, tyX3, rfl, in_X3, tyX3_ok, in_g (up_1 (List.mem_of_getElem? (i := 41) rfl)) rfl, in_g (up_1 (List.mem_of_getElem? (i := 42) rfl)) rfl, in_g (up_1 (List.mem_of_getElem? (i := 3) rfl)) rfl, fun j hj => by rcases (show j = 0 ∨ j = 1 ∨ j = 2 ∨ j = 3 ∨ j = 4 by omega) with rfl | rfl | rfl | rfl | rfl <;> exact ⟨_, rfl, rfl⟩⟩
set_option maxRecDepth 20000 in
theorem nw_X7_init_23 : zNw m_X7_init 23 4 11 := ⟨RX4, TX4, tyX4, rfl, in_X4, tyX4_ok, in_g (up_1 (List.mem_of_getElem? (i := 86) rfl)) rfl, in_g (up_1 (List.mem_of_getElem? (i := 87) rfl)) rfl, in_g (up_1 (List.mem_of_getElem? (i := 5) rfl)) rfl, fun j hj => by rcases (show j = 0 ∨ j = 1 ∨ j = 2 ∨ j = 3 ∨ j = 4 ∨ j = 5 ∨ j = 6 ∨ j = 7 ∨ j = 8 ∨ j = 9 ∨ j = 10 by omega) with rfl | rfl | rfl | rfl | rfl | rfl | rfl | rfl | rfl | rfl | rfl <;> exact ⟨_, rfl, rfl⟩⟩
set_option maxRecDepth 20000 in
theorem nw_X7_init_32 : zNw m_X7_init 32 0 7 := ⟨RX0, TX0, tyX0, rfl, in_X0, tyX0_ok, in_g (up_1 (List.mem_of_getElem? (i := 132) rfl)) rfl, in_g (up_1 (List.mem_of_getElem? (i := 133) rfl)) rfl, in_g (up_1 (List.mem_of_getElem? (i := 6) rfl)) rfl, fun j hj => by rcases (show j = 0 ∨ j = 1 ∨ j = 2 ∨ j = 3 ∨ j = 4 ∨ j = 5 ∨ j = 6 by omega) with rfl | rfl | rfl | rfl | rfl | rfl | rfl <;> exact ⟨_, rfl, rfl⟩⟩
set_option maxRecDepth 20000 in
theorem na_X7_init_32 : Cond.classLink m_X7_init.1.cls 32 RX0 ∈ lw_g := in_g (up_1 (List.mem_of_getElem? (i := 132) rfl)) rfl
set_option maxRecDepth 20000 in
theorem nw_X7_init_47 : zNw m_X7_init 47 2 4 := ⟨RX2, TX2, tyX2, rfl, in_X2, tyX2_ok, in_g (up_1 (List.mem_of_getElem? (i := 169) rfl)) rfl, in_g (up_1 (List.mem_of_getElem? (i := 170) rfl)) rfl, in_g (up_1 (List.mem_of_getElem? (i := 7) rfl)) rfl, fun j hj => by rcases (show j = 0 ∨ j = 1 ∨ j = 2 ∨ j = 3 by omega) with rfl | rfl | rfl | rfl <;> exact ⟨_, rfl, rfl⟩⟩
set_option maxRecDepth 20000 in
theorem nw_X7_init_57 : zNw m_X7_init 57 1 13 := ⟨RX1, TX1, tyX1, rfl, in_X1, tyX1_ok, in_g (up_1 (List.mem_of_getElem? (i := 192) rfl)) rfl, in_g (up_1 (List.mem_of_getElem? (i := 193) rfl)) rfl, in_g (up_1 (List.mem_of_getElem? (i := 8) rfl)) rfl, fun j hj => by rcases (show j = 0 ∨ j = 1 ∨ j = 2 ∨ j = 3 ∨ j = 4 ∨ j = 5 ∨ j = 6 ∨ j = 7 ∨ j = 8 ∨ j = 9 ∨ j = 10 ∨ j = 11 ∨ j = 12 by omega) with rfl | rfl | rfl | rfl | rfl | rfl | rfl | rfl | rfl | rfl | rfl | rfl | rfl <;> exact ⟨_, rfl, rfl⟩⟩
set_option maxRecDepth 20000 in
theorem na_X7_init_64 : Cond.classLink m_X7_init.1.cls 64 RX5 ∈ lw_g := in_g (up_2 (List.mem_of_getElem? (i := 2) rfl)) rfl
set_option maxRecDepth 20000 in
theorem nw_X7_init_64 : zNw m_X7_init 64 5 3 := ⟨RX5, TX5, tyX5, rfl, in_X5, tyX5_ok, in_g (up_2 (List.mem_of_getElem? (i := 2) rfl)) rfl, in_g (up_2 (List.mem_of_getElem? (i := 4) rfl)) rfl, in_g (up_1 (List.mem_of_getElem? (i := 9) rfl)) rfl, fun j hj => by rcases (show j = 0 ∨ j = 1 ∨ j = 2 by omega) with rfl | rfl | rfl <;> exact ⟨_, rfl, rfl⟩⟩
set_option maxRecDepth 20000 in
theorem l_X7_157 : Cond.constantLong RX7 157 (-1) ∈ lw_g := in_g (up_3 (List.mem_of_getElem? (i := 81) rfl)) rfl
set_option maxRecDepth 20000 in
theorem l_X8_88 : Cond.constantLong RX8 88 (104) ∈ lw_g := in_g (up_4 (List.mem_of_getElem? (i := 128) rfl)) rfl
set_option maxRecDepth 20000 in
theorem l_X8_90 : Cond.constantLong RX8 90 (151) ∈ lw_g := in_g (up_4 (List.mem_of_getElem? (i := 129) rfl)) rfl
set_option maxRecDepth 20000 in
theorem l_X8_105 : Cond.constantLong RX8 105 (255) ∈ lw_g := in_g (up_5 (List.mem_of_getElem? (i := 10) rfl)) rfl
set_option maxRecDepth 20000 in
theorem l_X8_130 : Cond.constantLong RX8 130 (97) ∈ lw_g := in_g (up_5 (List.mem_of_getElem? (i := 27) rfl)) rfl
set_option maxRecDepth 20000 in
theorem l_X8_132 : Cond.constantLong RX8 132 (122) ∈ lw_g := in_g (up_5 (List.mem_of_getElem? (i := 28) rfl)) rfl
set_option maxRecDepth 20000 in
theorem l_X8_134 : Cond.constantLong RX8 134 (48) ∈ lw_g := in_g (up_5 (List.mem_of_getElem? (i := 29) rfl)) rfl
set_option maxRecDepth 20000 in
theorem l_X8_136 : Cond.constantLong RX8 136 (57) ∈ lw_g := in_g (up_5 (List.mem_of_getElem? (i := 30) rfl)) rfl
set_option maxRecDepth 20000 in
theorem l_X8_163 : Cond.constantLong RX8 163 (9) ∈ lw_g := in_g (up_5 (List.mem_of_getElem? (i := 47) rfl)) rfl
set_option maxRecDepth 20000 in
theorem l_X8_179 : Cond.constantLong RX8 179 (6) ∈ lw_g := in_g (up_5 (List.mem_of_getElem? (i := 80) rfl)) rfl
set_option maxRecDepth 20000 in
theorem l_X8_181 : Cond.constantLong RX8 181 (47) ∈ lw_g := in_g (up_5 (List.mem_of_getElem? (i := 88) rfl)) rfl
set_option maxRecDepth 20000 in
theorem l_X8_187 : Cond.constantLong RX8 187 (4) ∈ lw_g := in_g (up_5 (List.mem_of_getElem? (i := 89) rfl)) rfl
set_option maxRecDepth 20000 in
theorem l_X8_189 : Cond.constantLong RX8 189 (99) ∈ lw_g := in_g (up_5 (List.mem_of_getElem? (i := 94) rfl)) rfl
set_option maxRecDepth 20000 in
theorem l_X8_202 : Cond.constantLong RX8 202 (999) ∈ lw_g := in_g (up_5 (List.mem_of_getElem? (i := 99) rfl)) rfl
set_option maxRecDepth 20000 in
theorem l_X8_235 : Cond.constantLong RX8 235 (7) ∈ lw_g := in_g (up_5 (List.mem_of_getElem? (i := 163) rfl)) rfl
set_option maxRecDepth 20000 in
theorem l_X8_241 : Cond.constantLong RX8 241 (-1) ∈ lw_g := in_g (up_5 (List.mem_of_getElem? (i := 171) rfl)) rfl
set_option maxRecDepth 20000 in
theorem l_X8_252 : Cond.constantLong RX8 252 (3) ∈ lw_g := in_g (up_5 (List.mem_of_getElem? (i := 183) rfl)) rfl
set_option maxRecDepth 20000 in
theorem l_X8_265 : Cond.constantLong RX8 265 (9999) ∈ lw_g := in_g (up_5 (List.mem_of_getElem? (i := 225) rfl)) rfl
set_option maxRecDepth 20000 in
theorem l_X8_288 : Cond.constantLong RX8 288 (2) ∈ lw_g := in_g (up_6 (List.mem_of_getElem? (i := 14) rfl)) rfl
set_option maxRecDepth 20000 in
theorem l_X8_312 : Cond.constantLong RX8 312 (12) ∈ lw_g := in_g (up_6 (List.mem_of_getElem? (i := 67) rfl)) rfl
set_option maxRecDepth 20000 in
theorem l_X8_314 : Cond.constantLong RX8 314 (-3) ∈ lw_g := in_g (up_6 (List.mem_of_getElem? (i := 68) rfl)) rfl
set_option maxRecDepth 20000 in
theorem l_X8_319 : Cond.constantLong RX8 319 (20) ∈ lw_g := in_g (up_6 (List.mem_of_getElem? (i := 92) rfl)) rfl
