set_option maxRecDepth 20000 in
theorem eg_X1_init_0 : decode (zcc m_X1_init) 0 = .ok (.aload_n 0, 1) ∧ decode (zcc m_X1_init) 1 = .ok (.invokespecial 5, 3) ∧ decode (zcc m_X1_init) 4 = .ok (.aload_n 0, 1) ∧ decode (zcc m_X1_init) 5 = .ok (.bipush 16, 2) ∧ decode (zcc m_X1_init) 7 = .ok (.newarray .int, 2) ∧ decode (zcc m_X1_init) 9 = .ok (.putfield 11, 3) ∧ decode (zcc m_X1_init) 12 = .ok (.aload_n 0, 1) ∧ decode (zcc m_X1_init) 13 = .ok (.bipush 16, 2) := by decide +kernel
set_option maxRecDepth 20000 in
theorem eg_X1_init_8 : decode (zcc m_X1_init) 15 = .ok (.newarray .int, 2) ∧ decode (zcc m_X1_init) 17 = .ok (.putfield 15, 3) ∧ decode (zcc m_X1_init) 20 = .ok (.aload_n 0, 1) ∧ decode (zcc m_X1_init) 21 = .ok (.bipush 64, 2) ∧ decode (zcc m_X1_init) 23 = .ok (.newarray .int, 2) ∧ decode (zcc m_X1_init) 25 = .ok (.putfield 18, 3) ∧ decode (zcc m_X1_init) 28 = .ok (.aload_n 0, 1) ∧ decode (zcc m_X1_init) 29 = .ok (.sipush 256, 3) := by decide +kernel
set_option maxRecDepth 20000 in
theorem eg_X1_init_16 : decode (zcc m_X1_init) 32 = .ok (.newarray .int, 2) ∧ decode (zcc m_X1_init) 34 = .ok (.putfield 21, 3) ∧ decode (zcc m_X1_init) 37 = .ok (.aload_n 0, 1) ∧ decode (zcc m_X1_init) 38 = .ok (.sipush 256, 3) ∧ decode (zcc m_X1_init) 41 = .ok (.newarray .int, 2) ∧ decode (zcc m_X1_init) 43 = .ok (.putfield 24, 3) ∧ decode (zcc m_X1_init) 46 = .ok (.aload_n 0, 1) ∧ decode (zcc m_X1_init) 47 = .ok (.sipush 256, 3) := by decide +kernel
set_option maxRecDepth 20000 in
theorem eg_X1_init_24 : decode (zcc m_X1_init) 50 = .ok (.newarray .long, 2) ∧ decode (zcc m_X1_init) 52 = .ok (.putfield 27, 3) ∧ decode (zcc m_X1_init) 55 = .ok (.aload_n 0, 1) ∧ decode (zcc m_X1_init) 56 = .ok (.sipush 256, 3) ∧ decode (zcc m_X1_init) 59 = .ok (.newarray .long, 2) ∧ decode (zcc m_X1_init) 61 = .ok (.putfield 31, 3) ∧ decode (zcc m_X1_init) 64 = .ok (.return_, 1) := by decide +kernel
theorem d_X1_init_0 : zD m_X1_init 0 (.aload_n 0) 1 1 := ⟨eg_X1_init_0.1, rfl⟩
theorem d_X1_init_1 : zD m_X1_init 1 (.invokespecial 5) 3 4 := ⟨eg_X1_init_0.2.1, rfl⟩
theorem d_X1_init_4 : zD m_X1_init 4 (.aload_n 0) 1 5 := ⟨eg_X1_init_0.2.2.1, rfl⟩
theorem d_X1_init_5 : zD m_X1_init 5 (.bipush 16) 2 7 := ⟨eg_X1_init_0.2.2.2.1, rfl⟩
theorem d_X1_init_7 : zD m_X1_init 7 (.newarray .int) 2 9 := ⟨eg_X1_init_0.2.2.2.2.1, rfl⟩
theorem d_X1_init_9 : zD m_X1_init 9 (.putfield 11) 3 12 := ⟨eg_X1_init_0.2.2.2.2.2.1, rfl⟩
theorem d_X1_init_12 : zD m_X1_init 12 (.aload_n 0) 1 13 := ⟨eg_X1_init_0.2.2.2.2.2.2.1, rfl⟩
theorem d_X1_init_13 : zD m_X1_init 13 (.bipush 16) 2 15 := ⟨eg_X1_init_0.2.2.2.2.2.2.2, rfl⟩
theorem d_X1_init_15 : zD m_X1_init 15 (.newarray .int) 2 17 := ⟨eg_X1_init_8.1, rfl⟩
theorem d_X1_init_17 : zD m_X1_init 17 (.putfield 15) 3 20 := ⟨eg_X1_init_8.2.1, rfl⟩
theorem d_X1_init_20 : zD m_X1_init 20 (.aload_n 0) 1 21 := ⟨eg_X1_init_8.2.2.1, rfl⟩
theorem d_X1_init_21 : zD m_X1_init 21 (.bipush 64) 2 23 := ⟨eg_X1_init_8.2.2.2.1, rfl⟩
theorem d_X1_init_23 : zD m_X1_init 23 (.newarray .int) 2 25 := ⟨eg_X1_init_8.2.2.2.2.1, rfl⟩
theorem d_X1_init_25 : zD m_X1_init 25 (.putfield 18) 3 28 := ⟨eg_X1_init_8.2.2.2.2.2.1, rfl⟩
theorem d_X1_init_28 : zD m_X1_init 28 (.aload_n 0) 1 29 := ⟨eg_X1_init_8.2.2.2.2.2.2.1, rfl⟩
theorem d_X1_init_29 : zD m_X1_init 29 (.sipush 256) 3 32 := ⟨eg_X1_init_8.2.2.2.2.2.2.2, rfl⟩
theorem d_X1_init_32 : zD m_X1_init 32 (.newarray .int) 2 34 := ⟨eg_X1_init_16.1, rfl⟩
theorem d_X1_init_34 : zD m_X1_init 34 (.putfield 21) 3 37 := ⟨eg_X1_init_16.2.1, rfl⟩
theorem d_X1_init_37 : zD m_X1_init 37 (.aload_n 0) 1 38 := ⟨eg_X1_init_16.2.2.1, rfl⟩
theorem d_X1_init_38 : zD m_X1_init 38 (.sipush 256) 3 41 := ⟨eg_X1_init_16.2.2.2.1, rfl⟩
theorem d_X1_init_41 : zD m_X1_init 41 (.newarray .int) 2 43 := ⟨eg_X1_init_16.2.2.2.2.1, rfl⟩
theorem d_X1_init_43 : zD m_X1_init 43 (.putfield 24) 3 46 := ⟨eg_X1_init_16.2.2.2.2.2.1, rfl⟩
theorem d_X1_init_46 : zD m_X1_init 46 (.aload_n 0) 1 47 := ⟨eg_X1_init_16.2.2.2.2.2.2.1, rfl⟩
theorem d_X1_init_47 : zD m_X1_init 47 (.sipush 256) 3 50 := ⟨eg_X1_init_16.2.2.2.2.2.2.2, rfl⟩
theorem d_X1_init_50 : zD m_X1_init 50 (.newarray .long) 2 52 := ⟨eg_X1_init_24.1, rfl⟩
theorem d_X1_init_52 : zD m_X1_init 52 (.putfield 27) 3 55 := ⟨eg_X1_init_24.2.1, rfl⟩
theorem d_X1_init_55 : zD m_X1_init 55 (.aload_n 0) 1 56 := ⟨eg_X1_init_24.2.2.1, rfl⟩
theorem d_X1_init_56 : zD m_X1_init 56 (.sipush 256) 3 59 := ⟨eg_X1_init_24.2.2.2.1, rfl⟩
theorem d_X1_init_59 : zD m_X1_init 59 (.newarray .long) 2 61 := ⟨eg_X1_init_24.2.2.2.2.1, rfl⟩
theorem d_X1_init_61 : zD m_X1_init 61 (.putfield 31) 3 64 := ⟨eg_X1_init_24.2.2.2.2.2.1, rfl⟩
theorem d_X1_init_64 : decode (zcc m_X1_init) 64 = .ok (.return_, 1) := eg_X1_init_24.2.2.2.2.2.2
set_option maxRecDepth 20000 in
theorem eg_X1_bePhases_0 : decode (zcc m_X1_bePhases) 0 = .ok (.iload_n 1, 1) ∧ decode (zcc m_X1_bePhases) 1 = .ok (.iconst 4, 1) ∧ decode (zcc m_X1_bePhases) 2 = .ok (.if_icmp .ne (7), 3) ∧ decode (zcc m_X1_bePhases) 5 = .ok (.iconst 4, 1) ∧ decode (zcc m_X1_bePhases) 6 = .ok (.goto (4), 3) ∧ decode (zcc m_X1_bePhases) 9 = .ok (.iconst 3, 1) ∧ decode (zcc m_X1_bePhases) 10 = .ok (.istore_n 2, 1) ∧ decode (zcc m_X1_bePhases) 11 = .ok (.aload_n 0, 1) := by decide +kernel
set_option maxRecDepth 20000 in
theorem eg_X1_bePhases_8 : decode (zcc m_X1_bePhases) 12 = .ok (.getfield 34, 3) ∧ decode (zcc m_X1_bePhases) 15 = .ok (.iload_n 2, 1) ∧ decode (zcc m_X1_bePhases) 16 = .ok (.if_icmp .eq (16), 3) ∧ decode (zcc m_X1_bePhases) 19 = .ok (.aload_n 0, 1) ∧ decode (zcc m_X1_bePhases) 20 = .ok (.iload_n 2, 1) ∧ decode (zcc m_X1_bePhases) 21 = .ok (.putfield 34, 3) ∧ decode (zcc m_X1_bePhases) 24 = .ok (.aload_n 0, 1) ∧ decode (zcc m_X1_bePhases) 25 = .ok (.invokevirtual 38, 3) := by decide +kernel
set_option maxRecDepth 20000 in
theorem eg_X1_bePhases_16 : decode (zcc m_X1_bePhases) 28 = .ok (.aload_n 0, 1) ∧ decode (zcc m_X1_bePhases) 29 = .ok (.invokevirtual 41, 3) ∧ decode (zcc m_X1_bePhases) 32 = .ok (.return_, 1) := by decide +kernel
theorem d_X1_bePhases_0 : zD m_X1_bePhases 0 (.iload_n 1) 1 1 := ⟨eg_X1_bePhases_0.1, rfl⟩
theorem d_X1_bePhases_1 : zD m_X1_bePhases 1 (.iconst 4) 1 2 := ⟨eg_X1_bePhases_0.2.1, rfl⟩
theorem d_X1_bePhases_2 : zDj m_X1_bePhases 2 (.if_icmp .ne) 5 9 := ⟨7, eg_X1_bePhases_0.2.2.1, rfl, by decide⟩
theorem d_X1_bePhases_5 : zD m_X1_bePhases 5 (.iconst 4) 1 6 := ⟨eg_X1_bePhases_0.2.2.2.1, rfl⟩
theorem d_X1_bePhases_6 : zDj m_X1_bePhases 6 (.goto) 9 10 := ⟨4, eg_X1_bePhases_0.2.2.2.2.1, rfl, by decide⟩
theorem d_X1_bePhases_9 : zD m_X1_bePhases 9 (.iconst 3) 1 10 := ⟨eg_X1_bePhases_0.2.2.2.2.2.1, rfl⟩
theorem d_X1_bePhases_10 : zD m_X1_bePhases 10 (.istore_n 2) 1 11 := ⟨eg_X1_bePhases_0.2.2.2.2.2.2.1, rfl⟩
theorem d_X1_bePhases_11 : zD m_X1_bePhases 11 (.aload_n 0) 1 12 := ⟨eg_X1_bePhases_0.2.2.2.2.2.2.2, rfl⟩
theorem d_X1_bePhases_12 : zD m_X1_bePhases 12 (.getfield 34) 3 15 := ⟨eg_X1_bePhases_8.1, rfl⟩
theorem d_X1_bePhases_15 : zD m_X1_bePhases 15 (.iload_n 2) 1 16 := ⟨eg_X1_bePhases_8.2.1, rfl⟩
theorem d_X1_bePhases_16 : zDj m_X1_bePhases 16 (.if_icmp .eq) 19 32 := ⟨16, eg_X1_bePhases_8.2.2.1, rfl, by decide⟩
theorem d_X1_bePhases_19 : zD m_X1_bePhases 19 (.aload_n 0) 1 20 := ⟨eg_X1_bePhases_8.2.2.2.1, rfl⟩
theorem d_X1_bePhases_20 : zD m_X1_bePhases 20 (.iload_n 2) 1 21 := ⟨eg_X1_bePhases_8.2.2.2.2.1, rfl⟩
theorem d_X1_bePhases_21 : zD m_X1_bePhases 21 (.putfield 34) 3 24 := ⟨eg_X1_bePhases_8.2.2.2.2.2.1, rfl⟩
theorem d_X1_bePhases_24 : zD m_X1_bePhases 24 (.aload_n 0) 1 25 := ⟨eg_X1_bePhases_8.2.2.2.2.2.2.1, rfl⟩
theorem d_X1_bePhases_25 : zD m_X1_bePhases 25 (.invokevirtual 38) 3 28 := ⟨eg_X1_bePhases_8.2.2.2.2.2.2.2, rfl⟩
theorem d_X1_bePhases_28 : zD m_X1_bePhases 28 (.aload_n 0) 1 29 := ⟨eg_X1_bePhases_16.1, rfl⟩
theorem d_X1_bePhases_29 : zD m_X1_bePhases 29 (.invokevirtual 41) 3 32 := ⟨eg_X1_bePhases_16.2.1, rfl⟩
theorem d_X1_bePhases_32 : decode (zcc m_X1_bePhases) 32 = .ok (.return_, 1) := eg_X1_bePhases_16.2.2
set_option maxRecDepth 20000 in
theorem eg_X1_allHigh_0 : decode (zcc m_X1_allHigh) 0 = .ok (.iconst 1, 1) ∧ decode (zcc m_X1_allHigh) 1 = .ok (.aload_n 0, 1) ∧ decode (zcc m_X1_allHigh) 2 = .ok (.getfield 34, 3) ∧ decode (zcc m_X1_allHigh) 5 = .ok (.ishl, 1) ∧ decode (zcc m_X1_allHigh) 6 = .ok (.iconst 1, 1) ∧ decode (zcc m_X1_allHigh) 7 = .ok (.isub, 1) ∧ decode (zcc m_X1_allHigh) 8 = .ok (.ireturn, 1) := by decide +kernel
theorem d_X1_allHigh_0 : zD m_X1_allHigh 0 (.iconst 1) 1 1 := ⟨eg_X1_allHigh_0.1, rfl⟩
theorem d_X1_allHigh_1 : zD m_X1_allHigh 1 (.aload_n 0) 1 2 := ⟨eg_X1_allHigh_0.2.1, rfl⟩
theorem d_X1_allHigh_2 : zD m_X1_allHigh 2 (.getfield 34) 3 5 := ⟨eg_X1_allHigh_0.2.2.1, rfl⟩
theorem d_X1_allHigh_5 : zD m_X1_allHigh 5 (.ishl) 1 6 := ⟨eg_X1_allHigh_0.2.2.2.1, rfl⟩
theorem d_X1_allHigh_6 : zD m_X1_allHigh 6 (.iconst 1) 1 7 := ⟨eg_X1_allHigh_0.2.2.2.2.1, rfl⟩
theorem d_X1_allHigh_7 : zD m_X1_allHigh 7 (.isub) 1 8 := ⟨eg_X1_allHigh_0.2.2.2.2.2.1, rfl⟩
theorem d_X1_allHigh_8 : decode (zcc m_X1_allHigh) 8 = .ok (.ireturn, 1) := eg_X1_allHigh_0.2.2.2.2.2.2
set_option maxRecDepth 20000 in
theorem eg_X1_isHigh_0 : decode (zcc m_X1_isHigh) 0 = .ok (.iload_n 1, 1) ∧ decode (zcc m_X1_isHigh) 1 = .ok (.iload_n 2, 1) ∧ decode (zcc m_X1_isHigh) 2 = .ok (.aload_n 0, 1) ∧ decode (zcc m_X1_isHigh) 3 = .ok (.getfield 34, 3) ∧ decode (zcc m_X1_isHigh) 6 = .ok (.iconst 4, 1) ∧ decode (zcc m_X1_isHigh) 7 = .ok (.if_icmp .ne (7), 3) ∧ decode (zcc m_X1_isHigh) 10 = .ok (.iconst 4, 1) ∧ decode (zcc m_X1_isHigh) 11 = .ok (.goto (4), 3) := by decide +kernel
set_option maxRecDepth 20000 in
theorem eg_X1_isHigh_8 : decode (zcc m_X1_isHigh) 14 = .ok (.iconst 3, 1) ∧ decode (zcc m_X1_isHigh) 15 = .ok (.invokestatic 44, 3) ∧ decode (zcc m_X1_isHigh) 18 = .ok (.ishr, 1) ∧ decode (zcc m_X1_isHigh) 19 = .ok (.iconst 1, 1) ∧ decode (zcc m_X1_isHigh) 20 = .ok (.iand, 1) ∧ decode (zcc m_X1_isHigh) 21 = .ok (.iconst 1, 1) ∧ decode (zcc m_X1_isHigh) 22 = .ok (.if_icmp .ne (7), 3) ∧ decode (zcc m_X1_isHigh) 25 = .ok (.iconst 1, 1) := by decide +kernel
set_option maxRecDepth 20000 in
theorem eg_X1_isHigh_16 : decode (zcc m_X1_isHigh) 26 = .ok (.goto (4), 3) ∧ decode (zcc m_X1_isHigh) 29 = .ok (.iconst 0, 1) ∧ decode (zcc m_X1_isHigh) 30 = .ok (.ireturn, 1) := by decide +kernel
theorem d_X1_isHigh_0 : zD m_X1_isHigh 0 (.iload_n 1) 1 1 := ⟨eg_X1_isHigh_0.1, rfl⟩
theorem d_X1_isHigh_1 : zD m_X1_isHigh 1 (.iload_n 2) 1 2 := ⟨eg_X1_isHigh_0.2.1, rfl⟩
theorem d_X1_isHigh_2 : zD m_X1_isHigh 2 (.aload_n 0) 1 3 := ⟨eg_X1_isHigh_0.2.2.1, rfl⟩
theorem d_X1_isHigh_3 : zD m_X1_isHigh 3 (.getfield 34) 3 6 := ⟨eg_X1_isHigh_0.2.2.2.1, rfl⟩
theorem d_X1_isHigh_6 : zD m_X1_isHigh 6 (.iconst 4) 1 7 := ⟨eg_X1_isHigh_0.2.2.2.2.1, rfl⟩
theorem d_X1_isHigh_7 : zDj m_X1_isHigh 7 (.if_icmp .ne) 10 14 := ⟨7, eg_X1_isHigh_0.2.2.2.2.2.1, rfl, by decide⟩
theorem d_X1_isHigh_10 : zD m_X1_isHigh 10 (.iconst 4) 1 11 := ⟨eg_X1_isHigh_0.2.2.2.2.2.2.1, rfl⟩
theorem d_X1_isHigh_11 : zDj m_X1_isHigh 11 (.goto) 14 15 := ⟨4, eg_X1_isHigh_0.2.2.2.2.2.2.2, rfl, by decide⟩
theorem d_X1_isHigh_14 : zD m_X1_isHigh 14 (.iconst 3) 1 15 := ⟨eg_X1_isHigh_8.1, rfl⟩
theorem d_X1_isHigh_15 : zD m_X1_isHigh 15 (.invokestatic 44) 3 18 := ⟨eg_X1_isHigh_8.2.1, rfl⟩
theorem d_X1_isHigh_18 : zD m_X1_isHigh 18 (.ishr) 1 19 := ⟨eg_X1_isHigh_8.2.2.1, rfl⟩
theorem d_X1_isHigh_19 : zD m_X1_isHigh 19 (.iconst 1) 1 20 := ⟨eg_X1_isHigh_8.2.2.2.1, rfl⟩
theorem d_X1_isHigh_20 : zD m_X1_isHigh 20 (.iand) 1 21 := ⟨eg_X1_isHigh_8.2.2.2.2.1, rfl⟩
theorem d_X1_isHigh_21 : zD m_X1_isHigh 21 (.iconst 1) 1 22 := ⟨eg_X1_isHigh_8.2.2.2.2.2.1, rfl⟩
theorem d_X1_isHigh_22 : zDj m_X1_isHigh 22 (.if_icmp .ne) 25 29 := ⟨7, eg_X1_isHigh_8.2.2.2.2.2.2.1, rfl, by decide⟩
theorem d_X1_isHigh_25 : zD m_X1_isHigh 25 (.iconst 1) 1 26 := ⟨eg_X1_isHigh_8.2.2.2.2.2.2.2, rfl⟩
theorem d_X1_isHigh_26 : zDj m_X1_isHigh 26 (.goto) 29 30 := ⟨4, eg_X1_isHigh_16.1, rfl, by decide⟩
theorem d_X1_isHigh_29 : zD m_X1_isHigh 29 (.iconst 0) 1 30 := ⟨eg_X1_isHigh_16.2.1, rfl⟩
theorem d_X1_isHigh_30 : decode (zcc m_X1_isHigh) 30 = .ok (.ireturn, 1) := eg_X1_isHigh_16.2.2
set_option maxRecDepth 20000 in
theorem eg_X1_beginsAt_0 : decode (zcc m_X1_beginsAt) 0 = .ok (.aload_n 0, 1) ∧ decode (zcc m_X1_beginsAt) 1 = .ok (.iload_n 1, 1) ∧ decode (zcc m_X1_beginsAt) 2 = .ok (.iload_n 2, 1) ∧ decode (zcc m_X1_beginsAt) 3 = .ok (.invokevirtual 50, 3) ∧ decode (zcc m_X1_beginsAt) 6 = .ok (.ifCond .eq (18), 3) ∧ decode (zcc m_X1_beginsAt) 9 = .ok (.aload_n 0, 1) ∧ decode (zcc m_X1_beginsAt) 10 = .ok (.iload_n 1, 1) ∧ decode (zcc m_X1_beginsAt) 11 = .ok (.iload_n 2, 1) := by decide +kernel
set_option maxRecDepth 20000 in
theorem eg_X1_beginsAt_8 : decode (zcc m_X1_beginsAt) 12 = .ok (.iconst 1, 1) ∧ decode (zcc m_X1_beginsAt) 13 = .ok (.isub, 1) ∧ decode (zcc m_X1_beginsAt) 14 = .ok (.invokevirtual 50, 3) ∧ decode (zcc m_X1_beginsAt) 17 = .ok (.ifCond .ne (7), 3) ∧ decode (zcc m_X1_beginsAt) 20 = .ok (.iconst 1, 1) ∧ decode (zcc m_X1_beginsAt) 21 = .ok (.goto (4), 3) ∧ decode (zcc m_X1_beginsAt) 24 = .ok (.iconst 0, 1) ∧ decode (zcc m_X1_beginsAt) 25 = .ok (.ireturn, 1) := by decide +kernel
theorem d_X1_beginsAt_0 : zD m_X1_beginsAt 0 (.aload_n 0) 1 1 := ⟨eg_X1_beginsAt_0.1, rfl⟩
theorem d_X1_beginsAt_1 : zD m_X1_beginsAt 1 (.iload_n 1) 1 2 := ⟨eg_X1_beginsAt_0.2.1, rfl⟩
theorem d_X1_beginsAt_2 : zD m_X1_beginsAt 2 (.iload_n 2) 1 3 := ⟨eg_X1_beginsAt_0.2.2.1, rfl⟩
theorem d_X1_beginsAt_3 : zD m_X1_beginsAt 3 (.invokevirtual 50) 3 6 := ⟨eg_X1_beginsAt_0.2.2.2.1, rfl⟩
theorem d_X1_beginsAt_6 : zDj m_X1_beginsAt 6 (.ifCond .eq) 9 24 := ⟨18, eg_X1_beginsAt_0.2.2.2.2.1, rfl, by decide⟩
theorem d_X1_beginsAt_9 : zD m_X1_beginsAt 9 (.aload_n 0) 1 10 := ⟨eg_X1_beginsAt_0.2.2.2.2.2.1, rfl⟩
theorem d_X1_beginsAt_10 : zD m_X1_beginsAt 10 (.iload_n 1) 1 11 := ⟨eg_X1_beginsAt_0.2.2.2.2.2.2.1, rfl⟩
theorem d_X1_beginsAt_11 : zD m_X1_beginsAt 11 (.iload_n 2) 1 12 := ⟨eg_X1_beginsAt_0.2.2.2.2.2.2.2, rfl⟩
theorem d_X1_beginsAt_12 : zD m_X1_beginsAt 12 (.iconst 1) 1 13 := ⟨eg_X1_beginsAt_8.1, rfl⟩
theorem d_X1_beginsAt_13 : zD m_X1_beginsAt 13 (.isub) 1 14 := ⟨eg_X1_beginsAt_8.2.1, rfl⟩
theorem d_X1_beginsAt_14 : zD m_X1_beginsAt 14 (.invokevirtual 50) 3 17 := ⟨eg_X1_beginsAt_8.2.2.1, rfl⟩
theorem d_X1_beginsAt_17 : zDj m_X1_beginsAt 17 (.ifCond .ne) 20 24 := ⟨7, eg_X1_beginsAt_8.2.2.2.1, rfl, by decide⟩
theorem d_X1_beginsAt_20 : zD m_X1_beginsAt 20 (.iconst 1) 1 21 := ⟨eg_X1_beginsAt_8.2.2.2.2.1, rfl⟩
theorem d_X1_beginsAt_21 : zDj m_X1_beginsAt 21 (.goto) 24 25 := ⟨4, eg_X1_beginsAt_8.2.2.2.2.2.1, rfl, by decide⟩
theorem d_X1_beginsAt_24 : zD m_X1_beginsAt 24 (.iconst 0) 1 25 := ⟨eg_X1_beginsAt_8.2.2.2.2.2.2.1, rfl⟩
theorem d_X1_beginsAt_25 : decode (zcc m_X1_beginsAt) 25 = .ok (.ireturn, 1) := eg_X1_beginsAt_8.2.2.2.2.2.2.2
set_option maxRecDepth 20000 in
theorem eg_X1_isGood_0 : decode (zcc m_X1_isGood) 0 = .ok (.iconst 0, 1) ∧ decode (zcc m_X1_isGood) 1 = .ok (.istore_n 2, 1) ∧ decode (zcc m_X1_isGood) 2 = .ok (.iconst 0, 1) ∧ decode (zcc m_X1_isGood) 3 = .ok (.istore_n 3, 1) ∧ decode (zcc m_X1_isGood) 4 = .ok (.iload_n 3, 1) ∧ decode (zcc m_X1_isGood) 5 = .ok (.aload_n 0, 1) ∧ decode (zcc m_X1_isGood) 6 = .ok (.getfield 34, 3) ∧ decode (zcc m_X1_isGood) 9 = .ok (.if_icmp .ge (26), 3) := by decide +kernel
set_option maxRecDepth 20000 in
theorem eg_X1_isGood_8 : decode (zcc m_X1_isGood) 12 = .ok (.iload_n 2, 1) ∧ decode (zcc m_X1_isGood) 13 = .ok (.aload_n 0, 1) ∧ decode (zcc m_X1_isGood) 14 = .ok (.iload_n 1, 1) ∧ decode (zcc m_X1_isGood) 15 = .ok (.iload_n 3, 1) ∧ decode (zcc m_X1_isGood) 16 = .ok (.invokevirtual 54, 3) ∧ decode (zcc m_X1_isGood) 19 = .ok (.ifCond .eq (7), 3) ∧ decode (zcc m_X1_isGood) 22 = .ok (.iconst 1, 1) ∧ decode (zcc m_X1_isGood) 23 = .ok (.goto (4), 3) := by decide +kernel
set_option maxRecDepth 20000 in
theorem eg_X1_isGood_16 : decode (zcc m_X1_isGood) 26 = .ok (.iconst 0, 1) ∧ decode (zcc m_X1_isGood) 27 = .ok (.iadd, 1) ∧ decode (zcc m_X1_isGood) 28 = .ok (.istore_n 2, 1) ∧ decode (zcc m_X1_isGood) 29 = .ok (.iinc 3 1, 3) ∧ decode (zcc m_X1_isGood) 32 = .ok (.goto (-28), 3) ∧ decode (zcc m_X1_isGood) 35 = .ok (.iload_n 2, 1) ∧ decode (zcc m_X1_isGood) 36 = .ok (.iconst 1, 1) ∧ decode (zcc m_X1_isGood) 37 = .ok (.if_icmp .ne (7), 3) := by decide +kernel
set_option maxRecDepth 20000 in
theorem eg_X1_isGood_24 : decode (zcc m_X1_isGood) 40 = .ok (.iconst 1, 1) ∧ decode (zcc m_X1_isGood) 41 = .ok (.goto (4), 3) ∧ decode (zcc m_X1_isGood) 44 = .ok (.iconst 0, 1) ∧ decode (zcc m_X1_isGood) 45 = .ok (.ireturn, 1) := by decide +kernel
theorem d_X1_isGood_0 : zD m_X1_isGood 0 (.iconst 0) 1 1 := ⟨eg_X1_isGood_0.1, rfl⟩
theorem d_X1_isGood_1 : zD m_X1_isGood 1 (.istore_n 2) 1 2 := ⟨eg_X1_isGood_0.2.1, rfl⟩
theorem d_X1_isGood_2 : zD m_X1_isGood 2 (.iconst 0) 1 3 := ⟨eg_X1_isGood_0.2.2.1, rfl⟩
theorem d_X1_isGood_3 : zD m_X1_isGood 3 (.istore_n 3) 1 4 := ⟨eg_X1_isGood_0.2.2.2.1, rfl⟩
theorem d_X1_isGood_4 : zD m_X1_isGood 4 (.iload_n 3) 1 5 := ⟨eg_X1_isGood_0.2.2.2.2.1, rfl⟩
theorem d_X1_isGood_5 : zD m_X1_isGood 5 (.aload_n 0) 1 6 := ⟨eg_X1_isGood_0.2.2.2.2.2.1, rfl⟩
theorem d_X1_isGood_6 : zD m_X1_isGood 6 (.getfield 34) 3 9 := ⟨eg_X1_isGood_0.2.2.2.2.2.2.1, rfl⟩
theorem d_X1_isGood_9 : zDj m_X1_isGood 9 (.if_icmp .ge) 12 35 := ⟨26, eg_X1_isGood_0.2.2.2.2.2.2.2, rfl, by decide⟩
theorem d_X1_isGood_12 : zD m_X1_isGood 12 (.iload_n 2) 1 13 := ⟨eg_X1_isGood_8.1, rfl⟩
theorem d_X1_isGood_13 : zD m_X1_isGood 13 (.aload_n 0) 1 14 := ⟨eg_X1_isGood_8.2.1, rfl⟩
theorem d_X1_isGood_14 : zD m_X1_isGood 14 (.iload_n 1) 1 15 := ⟨eg_X1_isGood_8.2.2.1, rfl⟩
theorem d_X1_isGood_15 : zD m_X1_isGood 15 (.iload_n 3) 1 16 := ⟨eg_X1_isGood_8.2.2.2.1, rfl⟩
theorem d_X1_isGood_16 : zD m_X1_isGood 16 (.invokevirtual 54) 3 19 := ⟨eg_X1_isGood_8.2.2.2.2.1, rfl⟩
theorem d_X1_isGood_19 : zDj m_X1_isGood 19 (.ifCond .eq) 22 26 := ⟨7, eg_X1_isGood_8.2.2.2.2.2.1, rfl, by decide⟩
theorem d_X1_isGood_22 : zD m_X1_isGood 22 (.iconst 1) 1 23 := ⟨eg_X1_isGood_8.2.2.2.2.2.2.1, rfl⟩
theorem d_X1_isGood_23 : zDj m_X1_isGood 23 (.goto) 26 27 := ⟨4, eg_X1_isGood_8.2.2.2.2.2.2.2, rfl, by decide⟩
theorem d_X1_isGood_26 : zD m_X1_isGood 26 (.iconst 0) 1 27 := ⟨eg_X1_isGood_16.1, rfl⟩
theorem d_X1_isGood_27 : zD m_X1_isGood 27 (.iadd) 1 28 := ⟨eg_X1_isGood_16.2.1, rfl⟩
theorem d_X1_isGood_28 : zD m_X1_isGood 28 (.istore_n 2) 1 29 := ⟨eg_X1_isGood_16.2.2.1, rfl⟩
theorem d_X1_isGood_29 : zD m_X1_isGood 29 (.iinc 3 1) 3 32 := ⟨eg_X1_isGood_16.2.2.2.1, rfl⟩
theorem d_X1_isGood_32 : zDj m_X1_isGood 32 (.goto) 35 4 := ⟨-28, eg_X1_isGood_16.2.2.2.2.1, rfl, by decide⟩
theorem d_X1_isGood_35 : zD m_X1_isGood 35 (.iload_n 2) 1 36 := ⟨eg_X1_isGood_16.2.2.2.2.2.1, rfl⟩
theorem d_X1_isGood_36 : zD m_X1_isGood 36 (.iconst 1) 1 37 := ⟨eg_X1_isGood_16.2.2.2.2.2.2.1, rfl⟩
theorem d_X1_isGood_37 : zDj m_X1_isGood 37 (.if_icmp .ne) 40 44 := ⟨7, eg_X1_isGood_16.2.2.2.2.2.2.2, rfl, by decide⟩
theorem d_X1_isGood_40 : zD m_X1_isGood 40 (.iconst 1) 1 41 := ⟨eg_X1_isGood_24.1, rfl⟩
theorem d_X1_isGood_41 : zDj m_X1_isGood 41 (.goto) 44 45 := ⟨4, eg_X1_isGood_24.2.1, rfl, by decide⟩
theorem d_X1_isGood_44 : zD m_X1_isGood 44 (.iconst 0) 1 45 := ⟨eg_X1_isGood_24.2.2.1, rfl⟩
theorem d_X1_isGood_45 : decode (zcc m_X1_isGood) 45 = .ok (.ireturn, 1) := eg_X1_isGood_24.2.2.2
set_option maxRecDepth 20000 in
theorem eg_X1_startOf_0 : decode (zcc m_X1_startOf) 0 = .ok (.iconst 0, 1) ∧ decode (zcc m_X1_startOf) 1 = .ok (.istore_n 2, 1) ∧ decode (zcc m_X1_startOf) 2 = .ok (.iload_n 2, 1) ∧ decode (zcc m_X1_startOf) 3 = .ok (.aload_n 0, 1) ∧ decode (zcc m_X1_startOf) 4 = .ok (.getfield 34, 3) ∧ decode (zcc m_X1_startOf) 7 = .ok (.if_icmp .ge (20), 3) ∧ decode (zcc m_X1_startOf) 10 = .ok (.aload_n 0, 1) ∧ decode (zcc m_X1_startOf) 11 = .ok (.iload_n 1, 1) := by decide +kernel
set_option maxRecDepth 20000 in
theorem eg_X1_startOf_8 : decode (zcc m_X1_startOf) 12 = .ok (.iload_n 2, 1) ∧ decode (zcc m_X1_startOf) 13 = .ok (.invokevirtual 54, 3) ∧ decode (zcc m_X1_startOf) 16 = .ok (.ifCond .eq (5), 3) ∧ decode (zcc m_X1_startOf) 19 = .ok (.iload_n 2, 1) ∧ decode (zcc m_X1_startOf) 20 = .ok (.ireturn, 1) ∧ decode (zcc m_X1_startOf) 21 = .ok (.iinc 2 1, 3) ∧ decode (zcc m_X1_startOf) 24 = .ok (.goto (-22), 3) ∧ decode (zcc m_X1_startOf) 27 = .ok (.iconst 0, 1) := by decide +kernel
set_option maxRecDepth 20000 in
theorem eg_X1_startOf_16 : decode (zcc m_X1_startOf) 28 = .ok (.ireturn, 1) := by decide +kernel
theorem d_X1_startOf_0 : zD m_X1_startOf 0 (.iconst 0) 1 1 := ⟨eg_X1_startOf_0.1, rfl⟩
theorem d_X1_startOf_1 : zD m_X1_startOf 1 (.istore_n 2) 1 2 := ⟨eg_X1_startOf_0.2.1, rfl⟩
theorem d_X1_startOf_2 : zD m_X1_startOf 2 (.iload_n 2) 1 3 := ⟨eg_X1_startOf_0.2.2.1, rfl⟩
theorem d_X1_startOf_3 : zD m_X1_startOf 3 (.aload_n 0) 1 4 := ⟨eg_X1_startOf_0.2.2.2.1, rfl⟩
theorem d_X1_startOf_4 : zD m_X1_startOf 4 (.getfield 34) 3 7 := ⟨eg_X1_startOf_0.2.2.2.2.1, rfl⟩
theorem d_X1_startOf_7 : zDj m_X1_startOf 7 (.if_icmp .ge) 10 27 := ⟨20, eg_X1_startOf_0.2.2.2.2.2.1, rfl, by decide⟩
theorem d_X1_startOf_10 : zD m_X1_startOf 10 (.aload_n 0) 1 11 := ⟨eg_X1_startOf_0.2.2.2.2.2.2.1, rfl⟩
theorem d_X1_startOf_11 : zD m_X1_startOf 11 (.iload_n 1) 1 12 := ⟨eg_X1_startOf_0.2.2.2.2.2.2.2, rfl⟩
theorem d_X1_startOf_12 : zD m_X1_startOf 12 (.iload_n 2) 1 13 := ⟨eg_X1_startOf_8.1, rfl⟩
theorem d_X1_startOf_13 : zD m_X1_startOf 13 (.invokevirtual 54) 3 16 := ⟨eg_X1_startOf_8.2.1, rfl⟩
theorem d_X1_startOf_16 : zDj m_X1_startOf 16 (.ifCond .eq) 19 21 := ⟨5, eg_X1_startOf_8.2.2.1, rfl, by decide⟩
theorem d_X1_startOf_19 : zD m_X1_startOf 19 (.iload_n 2) 1 20 := ⟨eg_X1_startOf_8.2.2.2.1, rfl⟩
theorem d_X1_startOf_20 : decode (zcc m_X1_startOf) 20 = .ok (.ireturn, 1) := eg_X1_startOf_8.2.2.2.2.1
theorem d_X1_startOf_21 : zD m_X1_startOf 21 (.iinc 2 1) 3 24 := ⟨eg_X1_startOf_8.2.2.2.2.2.1, rfl⟩
theorem d_X1_startOf_24 : zDj m_X1_startOf 24 (.goto) 27 2 := ⟨-22, eg_X1_startOf_8.2.2.2.2.2.2.1, rfl, by decide⟩
theorem d_X1_startOf_27 : zD m_X1_startOf 27 (.iconst 0) 1 28 := ⟨eg_X1_startOf_8.2.2.2.2.2.2.2, rfl⟩
theorem d_X1_startOf_28 : decode (zcc m_X1_startOf) 28 = .ok (.ireturn, 1) := eg_X1_startOf_16
set_option maxRecDepth 20000 in
theorem eg_X1_firstOfRegion_0 : decode (zcc m_X1_firstOfRegion) 0 = .ok (.iload_n 2, 1) ∧ decode (zcc m_X1_firstOfRegion) 1 = .ok (.istore_n 3, 1) ∧ decode (zcc m_X1_firstOfRegion) 2 = .ok (.iconst 0, 1) ∧ decode (zcc m_X1_firstOfRegion) 3 = .ok (.istore 4, 2) ∧ decode (zcc m_X1_firstOfRegion) 5 = .ok (.iload 4, 2) ∧ decode (zcc m_X1_firstOfRegion) 7 = .ok (.aload_n 0, 1) ∧ decode (zcc m_X1_firstOfRegion) 8 = .ok (.getfield 34, 3) ∧ decode (zcc m_X1_firstOfRegion) 11 = .ok (.if_icmp .ge (23), 3) := by decide +kernel
set_option maxRecDepth 20000 in
theorem eg_X1_firstOfRegion_8 : decode (zcc m_X1_firstOfRegion) 14 = .ok (.aload_n 0, 1) ∧ decode (zcc m_X1_firstOfRegion) 15 = .ok (.iload_n 1, 1) ∧ decode (zcc m_X1_firstOfRegion) 16 = .ok (.iload_n 3, 1) ∧ decode (zcc m_X1_firstOfRegion) 17 = .ok (.iconst 1, 1) ∧ decode (zcc m_X1_firstOfRegion) 18 = .ok (.isub, 1) ∧ decode (zcc m_X1_firstOfRegion) 19 = .ok (.invokevirtual 50, 3) ∧ decode (zcc m_X1_firstOfRegion) 22 = .ok (.ifCond .eq (12), 3) ∧ decode (zcc m_X1_firstOfRegion) 25 = .ok (.iinc 3 (-1), 3) := by decide +kernel
set_option maxRecDepth 20000 in
theorem eg_X1_firstOfRegion_16 : decode (zcc m_X1_firstOfRegion) 28 = .ok (.iinc 4 1, 3) ∧ decode (zcc m_X1_firstOfRegion) 31 = .ok (.goto (-26), 3) ∧ decode (zcc m_X1_firstOfRegion) 34 = .ok (.iload_n 3, 1) ∧ decode (zcc m_X1_firstOfRegion) 35 = .ok (.ireturn, 1) := by decide +kernel
theorem d_X1_firstOfRegion_0 : zD m_X1_firstOfRegion 0 (.iload_n 2) 1 1 := ⟨eg_X1_firstOfRegion_0.1, rfl⟩
theorem d_X1_firstOfRegion_1 : zD m_X1_firstOfRegion 1 (.istore_n 3) 1 2 := ⟨eg_X1_firstOfRegion_0.2.1, rfl⟩
theorem d_X1_firstOfRegion_2 : zD m_X1_firstOfRegion 2 (.iconst 0) 1 3 := ⟨eg_X1_firstOfRegion_0.2.2.1, rfl⟩
theorem d_X1_firstOfRegion_3 : zD m_X1_firstOfRegion 3 (.istore 4) 2 5 := ⟨eg_X1_firstOfRegion_0.2.2.2.1, rfl⟩
theorem d_X1_firstOfRegion_5 : zD m_X1_firstOfRegion 5 (.iload 4) 2 7 := ⟨eg_X1_firstOfRegion_0.2.2.2.2.1, rfl⟩
theorem d_X1_firstOfRegion_7 : zD m_X1_firstOfRegion 7 (.aload_n 0) 1 8 := ⟨eg_X1_firstOfRegion_0.2.2.2.2.2.1, rfl⟩
theorem d_X1_firstOfRegion_8 : zD m_X1_firstOfRegion 8 (.getfield 34) 3 11 := ⟨eg_X1_firstOfRegion_0.2.2.2.2.2.2.1, rfl⟩
theorem d_X1_firstOfRegion_11 : zDj m_X1_firstOfRegion 11 (.if_icmp .ge) 14 34 := ⟨23, eg_X1_firstOfRegion_0.2.2.2.2.2.2.2, rfl, by decide⟩
theorem d_X1_firstOfRegion_14 : zD m_X1_firstOfRegion 14 (.aload_n 0) 1 15 := ⟨eg_X1_firstOfRegion_8.1, rfl⟩
theorem d_X1_firstOfRegion_15 : zD m_X1_firstOfRegion 15 (.iload_n 1) 1 16 := ⟨eg_X1_firstOfRegion_8.2.1, rfl⟩
theorem d_X1_firstOfRegion_16 : zD m_X1_firstOfRegion 16 (.iload_n 3) 1 17 := ⟨eg_X1_firstOfRegion_8.2.2.1, rfl⟩
theorem d_X1_firstOfRegion_17 : zD m_X1_firstOfRegion 17 (.iconst 1) 1 18 := ⟨eg_X1_firstOfRegion_8.2.2.2.1, rfl⟩
theorem d_X1_firstOfRegion_18 : zD m_X1_firstOfRegion 18 (.isub) 1 19 := ⟨eg_X1_firstOfRegion_8.2.2.2.2.1, rfl⟩
theorem d_X1_firstOfRegion_19 : zD m_X1_firstOfRegion 19 (.invokevirtual 50) 3 22 := ⟨eg_X1_firstOfRegion_8.2.2.2.2.2.1, rfl⟩
theorem d_X1_firstOfRegion_22 : zDj m_X1_firstOfRegion 22 (.ifCond .eq) 25 34 := ⟨12, eg_X1_firstOfRegion_8.2.2.2.2.2.2.1, rfl, by decide⟩
theorem d_X1_firstOfRegion_25 : zD m_X1_firstOfRegion 25 (.iinc 3 (-1)) 3 28 := ⟨eg_X1_firstOfRegion_8.2.2.2.2.2.2.2, rfl⟩
theorem d_X1_firstOfRegion_28 : zD m_X1_firstOfRegion 28 (.iinc 4 1) 3 31 := ⟨eg_X1_firstOfRegion_16.1, rfl⟩
theorem d_X1_firstOfRegion_31 : zDj m_X1_firstOfRegion 31 (.goto) 34 5 := ⟨-26, eg_X1_firstOfRegion_16.2.1, rfl, by decide⟩
theorem d_X1_firstOfRegion_34 : zD m_X1_firstOfRegion 34 (.iload_n 3) 1 35 := ⟨eg_X1_firstOfRegion_16.2.2.1, rfl⟩
theorem d_X1_firstOfRegion_35 : decode (zcc m_X1_firstOfRegion) 35 = .ok (.ireturn, 1) := eg_X1_firstOfRegion_16.2.2.2
set_option maxRecDepth 20000 in
theorem eg_X1_lastOfRegion_0 : decode (zcc m_X1_lastOfRegion) 0 = .ok (.iload_n 2, 1) ∧ decode (zcc m_X1_lastOfRegion) 1 = .ok (.istore_n 3, 1) ∧ decode (zcc m_X1_lastOfRegion) 2 = .ok (.iconst 0, 1) ∧ decode (zcc m_X1_lastOfRegion) 3 = .ok (.istore 4, 2) ∧ decode (zcc m_X1_lastOfRegion) 5 = .ok (.iload 4, 2) ∧ decode (zcc m_X1_lastOfRegion) 7 = .ok (.aload_n 0, 1) ∧ decode (zcc m_X1_lastOfRegion) 8 = .ok (.getfield 34, 3) ∧ decode (zcc m_X1_lastOfRegion) 11 = .ok (.if_icmp .ge (23), 3) := by decide +kernel
set_option maxRecDepth 20000 in
theorem eg_X1_lastOfRegion_8 : decode (zcc m_X1_lastOfRegion) 14 = .ok (.aload_n 0, 1) ∧ decode (zcc m_X1_lastOfRegion) 15 = .ok (.iload_n 1, 1) ∧ decode (zcc m_X1_lastOfRegion) 16 = .ok (.iload_n 3, 1) ∧ decode (zcc m_X1_lastOfRegion) 17 = .ok (.iconst 1, 1) ∧ decode (zcc m_X1_lastOfRegion) 18 = .ok (.iadd, 1) ∧ decode (zcc m_X1_lastOfRegion) 19 = .ok (.invokevirtual 50, 3) ∧ decode (zcc m_X1_lastOfRegion) 22 = .ok (.ifCond .eq (12), 3) ∧ decode (zcc m_X1_lastOfRegion) 25 = .ok (.iinc 3 1, 3) := by decide +kernel
set_option maxRecDepth 20000 in
theorem eg_X1_lastOfRegion_16 : decode (zcc m_X1_lastOfRegion) 28 = .ok (.iinc 4 1, 3) ∧ decode (zcc m_X1_lastOfRegion) 31 = .ok (.goto (-26), 3) ∧ decode (zcc m_X1_lastOfRegion) 34 = .ok (.iload_n 3, 1) ∧ decode (zcc m_X1_lastOfRegion) 35 = .ok (.ireturn, 1) := by decide +kernel
theorem d_X1_lastOfRegion_0 : zD m_X1_lastOfRegion 0 (.iload_n 2) 1 1 := ⟨eg_X1_lastOfRegion_0.1, rfl⟩
theorem d_X1_lastOfRegion_1 : zD m_X1_lastOfRegion 1 (.istore_n 3) 1 2 := ⟨eg_X1_lastOfRegion_0.2.1, rfl⟩
theorem d_X1_lastOfRegion_2 : zD m_X1_lastOfRegion 2 (.iconst 0) 1 3 := ⟨eg_X1_lastOfRegion_0.2.2.1, rfl⟩
theorem d_X1_lastOfRegion_3 : zD m_X1_lastOfRegion 3 (.istore 4) 2 5 := ⟨eg_X1_lastOfRegion_0.2.2.2.1, rfl⟩
theorem d_X1_lastOfRegion_5 : zD m_X1_lastOfRegion 5 (.iload 4) 2 7 := ⟨eg_X1_lastOfRegion_0.2.2.2.2.1, rfl⟩
theorem d_X1_lastOfRegion_7 : zD m_X1_lastOfRegion 7 (.aload_n 0) 1 8 := ⟨eg_X1_lastOfRegion_0.2.2.2.2.2.1, rfl⟩
theorem d_X1_lastOfRegion_8 : zD m_X1_lastOfRegion 8 (.getfield 34) 3 11 := ⟨eg_X1_lastOfRegion_0.2.2.2.2.2.2.1, rfl⟩
theorem d_X1_lastOfRegion_11 : zDj m_X1_lastOfRegion 11 (.if_icmp .ge) 14 34 := ⟨23, eg_X1_lastOfRegion_0.2.2.2.2.2.2.2, rfl, by decide⟩
theorem d_X1_lastOfRegion_14 : zD m_X1_lastOfRegion 14 (.aload_n 0) 1 15 := ⟨eg_X1_lastOfRegion_8.1, rfl⟩
theorem d_X1_lastOfRegion_15 : zD m_X1_lastOfRegion 15 (.iload_n 1) 1 16 := ⟨eg_X1_lastOfRegion_8.2.1, rfl⟩
theorem d_X1_lastOfRegion_16 : zD m_X1_lastOfRegion 16 (.iload_n 3) 1 17 := ⟨eg_X1_lastOfRegion_8.2.2.1, rfl⟩
theorem d_X1_lastOfRegion_17 : zD m_X1_lastOfRegion 17 (.iconst 1) 1 18 := ⟨eg_X1_lastOfRegion_8.2.2.2.1, rfl⟩
theorem d_X1_lastOfRegion_18 : zD m_X1_lastOfRegion 18 (.iadd) 1 19 := ⟨eg_X1_lastOfRegion_8.2.2.2.2.1, rfl⟩
theorem d_X1_lastOfRegion_19 : zD m_X1_lastOfRegion 19 (.invokevirtual 50) 3 22 := ⟨eg_X1_lastOfRegion_8.2.2.2.2.2.1, rfl⟩
theorem d_X1_lastOfRegion_22 : zDj m_X1_lastOfRegion 22 (.ifCond .eq) 25 34 := ⟨12, eg_X1_lastOfRegion_8.2.2.2.2.2.2.1, rfl, by decide⟩
theorem d_X1_lastOfRegion_25 : zD m_X1_lastOfRegion 25 (.iinc 3 1) 3 28 := ⟨eg_X1_lastOfRegion_8.2.2.2.2.2.2.2, rfl⟩
theorem d_X1_lastOfRegion_28 : zD m_X1_lastOfRegion 28 (.iinc 4 1) 3 31 := ⟨eg_X1_lastOfRegion_16.1, rfl⟩
theorem d_X1_lastOfRegion_31 : zDj m_X1_lastOfRegion 31 (.goto) 34 5 := ⟨-26, eg_X1_lastOfRegion_16.2.1, rfl, by decide⟩
theorem d_X1_lastOfRegion_34 : zD m_X1_lastOfRegion 34 (.iload_n 3) 1 35 := ⟨eg_X1_lastOfRegion_16.2.2.1, rfl⟩
theorem d_X1_lastOfRegion_35 : decode (zcc m_X1_lastOfRegion) 35 = .ok (.ireturn, 1) := eg_X1_lastOfRegion_16.2.2.2
set_option maxRecDepth 20000 in
theorem eg_X1_fare_0 : decode (zcc m_X1_fare) 0 = .ok (.aload_n 0, 1) ∧ decode (zcc m_X1_fare) 1 = .ok (.iload_n 1, 1) ∧ decode (zcc m_X1_fare) 2 = .ok (.iload_n 2, 1) ∧ decode (zcc m_X1_fare) 3 = .ok (.invokevirtual 57, 3) ∧ decode (zcc m_X1_fare) 6 = .ok (.istore 4, 2) ∧ decode (zcc m_X1_fare) 8 = .ok (.iconst 0, 1) ∧ decode (zcc m_X1_fare) 9 = .ok (.istore 5, 2) ∧ decode (zcc m_X1_fare) 11 = .ok (.iload_n 2, 1) := by decide +kernel
set_option maxRecDepth 20000 in
theorem eg_X1_fare_8 : decode (zcc m_X1_fare) 12 = .ok (.istore 6, 2) ∧ decode (zcc m_X1_fare) 14 = .ok (.iload_n 2, 1) ∧ decode (zcc m_X1_fare) 15 = .ok (.istore 7, 2) ∧ decode (zcc m_X1_fare) 17 = .ok (.iload 7, 2) ∧ decode (zcc m_X1_fare) 19 = .ok (.iload 4, 2) ∧ decode (zcc m_X1_fare) 21 = .ok (.if_icmp .gt (44), 3) ∧ decode (zcc m_X1_fare) 24 = .ok (.aload_n 0, 1) ∧ decode (zcc m_X1_fare) 25 = .ok (.iload_n 3, 1) := by decide +kernel
set_option maxRecDepth 20000 in
theorem eg_X1_fare_16 : decode (zcc m_X1_fare) 26 = .ok (.iload 7, 2) ∧ decode (zcc m_X1_fare) 28 = .ok (.invokevirtual 50, 3) ∧ decode (zcc m_X1_fare) 31 = .ok (.ifCond .eq (28), 3) ∧ decode (zcc m_X1_fare) 34 = .ok (.iload 7, 2) ∧ decode (zcc m_X1_fare) 36 = .ok (.iload_n 2, 1) ∧ decode (zcc m_X1_fare) 37 = .ok (.if_icmp .eq (15), 3) ∧ decode (zcc m_X1_fare) 40 = .ok (.aload_n 0, 1) ∧ decode (zcc m_X1_fare) 41 = .ok (.iload_n 3, 1) := by decide +kernel
set_option maxRecDepth 20000 in
theorem eg_X1_fare_24 : decode (zcc m_X1_fare) 42 = .ok (.iload 7, 2) ∧ decode (zcc m_X1_fare) 44 = .ok (.iconst 1, 1) ∧ decode (zcc m_X1_fare) 45 = .ok (.isub, 1) ∧ decode (zcc m_X1_fare) 46 = .ok (.invokevirtual 50, 3) ∧ decode (zcc m_X1_fare) 49 = .ok (.ifCond .ne (10), 3) ∧ decode (zcc m_X1_fare) 52 = .ok (.iinc 5 1, 3) ∧ decode (zcc m_X1_fare) 55 = .ok (.iload 7, 2) ∧ decode (zcc m_X1_fare) 57 = .ok (.istore 6, 2) := by decide +kernel
set_option maxRecDepth 20000 in
theorem eg_X1_fare_32 : decode (zcc m_X1_fare) 59 = .ok (.iinc 7 1, 3) ∧ decode (zcc m_X1_fare) 62 = .ok (.goto (-45), 3) ∧ decode (zcc m_X1_fare) 65 = .ok (.iload 5, 2) ∧ decode (zcc m_X1_fare) 67 = .ok (.iconst 1, 1) ∧ decode (zcc m_X1_fare) 68 = .ok (.if_icmp .eq (14), 3) ∧ decode (zcc m_X1_fare) 71 = .ok (.iload 5, 2) ∧ decode (zcc m_X1_fare) 73 = .ok (.ifCond .ne (7), 3) ∧ decode (zcc m_X1_fare) 76 = .ok (.iconst 1, 1) := by decide +kernel
set_option maxRecDepth 20000 in
theorem eg_X1_fare_40 : decode (zcc m_X1_fare) 77 = .ok (.goto (4), 3) ∧ decode (zcc m_X1_fare) 80 = .ok (.iconst 2, 1) ∧ decode (zcc m_X1_fare) 81 = .ok (.ireturn, 1) ∧ decode (zcc m_X1_fare) 82 = .ok (.iload_n 3, 1) ∧ decode (zcc m_X1_fare) 83 = .ok (.aload_n 0, 1) ∧ decode (zcc m_X1_fare) 84 = .ok (.invokevirtual 60, 3) ∧ decode (zcc m_X1_fare) 87 = .ok (.if_icmp .ne (5), 3) ∧ decode (zcc m_X1_fare) 90 = .ok (.iconst 3, 1) := by decide +kernel
set_option maxRecDepth 20000 in
theorem eg_X1_fare_48 : decode (zcc m_X1_fare) 91 = .ok (.ireturn, 1) ∧ decode (zcc m_X1_fare) 92 = .ok (.aload_n 0, 1) ∧ decode (zcc m_X1_fare) 93 = .ok (.aload_n 0, 1) ∧ decode (zcc m_X1_fare) 94 = .ok (.iload_n 3, 1) ∧ decode (zcc m_X1_fare) 95 = .ok (.iload 6, 2) ∧ decode (zcc m_X1_fare) 97 = .ok (.invokevirtual 64, 3) ∧ decode (zcc m_X1_fare) 100 = .ok (.putfield 67, 3) ∧ decode (zcc m_X1_fare) 103 = .ok (.iconst 0, 1) := by decide +kernel
set_option maxRecDepth 20000 in
theorem eg_X1_fare_56 : decode (zcc m_X1_fare) 104 = .ok (.ireturn, 1) := by decide +kernel
theorem d_X1_fare_0 : zD m_X1_fare 0 (.aload_n 0) 1 1 := ⟨eg_X1_fare_0.1, rfl⟩
theorem d_X1_fare_1 : zD m_X1_fare 1 (.iload_n 1) 1 2 := ⟨eg_X1_fare_0.2.1, rfl⟩
theorem d_X1_fare_2 : zD m_X1_fare 2 (.iload_n 2) 1 3 := ⟨eg_X1_fare_0.2.2.1, rfl⟩
theorem d_X1_fare_3 : zD m_X1_fare 3 (.invokevirtual 57) 3 6 := ⟨eg_X1_fare_0.2.2.2.1, rfl⟩
theorem d_X1_fare_6 : zD m_X1_fare 6 (.istore 4) 2 8 := ⟨eg_X1_fare_0.2.2.2.2.1, rfl⟩
theorem d_X1_fare_8 : zD m_X1_fare 8 (.iconst 0) 1 9 := ⟨eg_X1_fare_0.2.2.2.2.2.1, rfl⟩
theorem d_X1_fare_9 : zD m_X1_fare 9 (.istore 5) 2 11 := ⟨eg_X1_fare_0.2.2.2.2.2.2.1, rfl⟩
theorem d_X1_fare_11 : zD m_X1_fare 11 (.iload_n 2) 1 12 := ⟨eg_X1_fare_0.2.2.2.2.2.2.2, rfl⟩
theorem d_X1_fare_12 : zD m_X1_fare 12 (.istore 6) 2 14 := ⟨eg_X1_fare_8.1, rfl⟩
theorem d_X1_fare_14 : zD m_X1_fare 14 (.iload_n 2) 1 15 := ⟨eg_X1_fare_8.2.1, rfl⟩
theorem d_X1_fare_15 : zD m_X1_fare 15 (.istore 7) 2 17 := ⟨eg_X1_fare_8.2.2.1, rfl⟩
theorem d_X1_fare_17 : zD m_X1_fare 17 (.iload 7) 2 19 := ⟨eg_X1_fare_8.2.2.2.1, rfl⟩
theorem d_X1_fare_19 : zD m_X1_fare 19 (.iload 4) 2 21 := ⟨eg_X1_fare_8.2.2.2.2.1, rfl⟩
theorem d_X1_fare_21 : zDj m_X1_fare 21 (.if_icmp .gt) 24 65 := ⟨44, eg_X1_fare_8.2.2.2.2.2.1, rfl, by decide⟩
theorem d_X1_fare_24 : zD m_X1_fare 24 (.aload_n 0) 1 25 := ⟨eg_X1_fare_8.2.2.2.2.2.2.1, rfl⟩
theorem d_X1_fare_25 : zD m_X1_fare 25 (.iload_n 3) 1 26 := ⟨eg_X1_fare_8.2.2.2.2.2.2.2, rfl⟩
theorem d_X1_fare_26 : zD m_X1_fare 26 (.iload 7) 2 28 := ⟨eg_X1_fare_16.1, rfl⟩
theorem d_X1_fare_28 : zD m_X1_fare 28 (.invokevirtual 50) 3 31 := ⟨eg_X1_fare_16.2.1, rfl⟩
theorem d_X1_fare_31 : zDj m_X1_fare 31 (.ifCond .eq) 34 59 := ⟨28, eg_X1_fare_16.2.2.1, rfl, by decide⟩
theorem d_X1_fare_34 : zD m_X1_fare 34 (.iload 7) 2 36 := ⟨eg_X1_fare_16.2.2.2.1, rfl⟩
theorem d_X1_fare_36 : zD m_X1_fare 36 (.iload_n 2) 1 37 := ⟨eg_X1_fare_16.2.2.2.2.1, rfl⟩
theorem d_X1_fare_37 : zDj m_X1_fare 37 (.if_icmp .eq) 40 52 := ⟨15, eg_X1_fare_16.2.2.2.2.2.1, rfl, by decide⟩
theorem d_X1_fare_40 : zD m_X1_fare 40 (.aload_n 0) 1 41 := ⟨eg_X1_fare_16.2.2.2.2.2.2.1, rfl⟩
theorem d_X1_fare_41 : zD m_X1_fare 41 (.iload_n 3) 1 42 := ⟨eg_X1_fare_16.2.2.2.2.2.2.2, rfl⟩
theorem d_X1_fare_42 : zD m_X1_fare 42 (.iload 7) 2 44 := ⟨eg_X1_fare_24.1, rfl⟩
theorem d_X1_fare_44 : zD m_X1_fare 44 (.iconst 1) 1 45 := ⟨eg_X1_fare_24.2.1, rfl⟩
theorem d_X1_fare_45 : zD m_X1_fare 45 (.isub) 1 46 := ⟨eg_X1_fare_24.2.2.1, rfl⟩
theorem d_X1_fare_46 : zD m_X1_fare 46 (.invokevirtual 50) 3 49 := ⟨eg_X1_fare_24.2.2.2.1, rfl⟩
theorem d_X1_fare_49 : zDj m_X1_fare 49 (.ifCond .ne) 52 59 := ⟨10, eg_X1_fare_24.2.2.2.2.1, rfl, by decide⟩
theorem d_X1_fare_52 : zD m_X1_fare 52 (.iinc 5 1) 3 55 := ⟨eg_X1_fare_24.2.2.2.2.2.1, rfl⟩
theorem d_X1_fare_55 : zD m_X1_fare 55 (.iload 7) 2 57 := ⟨eg_X1_fare_24.2.2.2.2.2.2.1, rfl⟩
theorem d_X1_fare_57 : zD m_X1_fare 57 (.istore 6) 2 59 := ⟨eg_X1_fare_24.2.2.2.2.2.2.2, rfl⟩
theorem d_X1_fare_59 : zD m_X1_fare 59 (.iinc 7 1) 3 62 := ⟨eg_X1_fare_32.1, rfl⟩
theorem d_X1_fare_62 : zDj m_X1_fare 62 (.goto) 65 17 := ⟨-45, eg_X1_fare_32.2.1, rfl, by decide⟩
theorem d_X1_fare_65 : zD m_X1_fare 65 (.iload 5) 2 67 := ⟨eg_X1_fare_32.2.2.1, rfl⟩
theorem d_X1_fare_67 : zD m_X1_fare 67 (.iconst 1) 1 68 := ⟨eg_X1_fare_32.2.2.2.1, rfl⟩
theorem d_X1_fare_68 : zDj m_X1_fare 68 (.if_icmp .eq) 71 82 := ⟨14, eg_X1_fare_32.2.2.2.2.1, rfl, by decide⟩
theorem d_X1_fare_71 : zD m_X1_fare 71 (.iload 5) 2 73 := ⟨eg_X1_fare_32.2.2.2.2.2.1, rfl⟩
theorem d_X1_fare_73 : zDj m_X1_fare 73 (.ifCond .ne) 76 80 := ⟨7, eg_X1_fare_32.2.2.2.2.2.2.1, rfl, by decide⟩
theorem d_X1_fare_76 : zD m_X1_fare 76 (.iconst 1) 1 77 := ⟨eg_X1_fare_32.2.2.2.2.2.2.2, rfl⟩
theorem d_X1_fare_77 : zDj m_X1_fare 77 (.goto) 80 81 := ⟨4, eg_X1_fare_40.1, rfl, by decide⟩
theorem d_X1_fare_80 : zD m_X1_fare 80 (.iconst 2) 1 81 := ⟨eg_X1_fare_40.2.1, rfl⟩
theorem d_X1_fare_81 : decode (zcc m_X1_fare) 81 = .ok (.ireturn, 1) := eg_X1_fare_40.2.2.1
theorem d_X1_fare_82 : zD m_X1_fare 82 (.iload_n 3) 1 83 := ⟨eg_X1_fare_40.2.2.2.1, rfl⟩
theorem d_X1_fare_83 : zD m_X1_fare 83 (.aload_n 0) 1 84 := ⟨eg_X1_fare_40.2.2.2.2.1, rfl⟩
theorem d_X1_fare_84 : zD m_X1_fare 84 (.invokevirtual 60) 3 87 := ⟨eg_X1_fare_40.2.2.2.2.2.1, rfl⟩
theorem d_X1_fare_87 : zDj m_X1_fare 87 (.if_icmp .ne) 90 92 := ⟨5, eg_X1_fare_40.2.2.2.2.2.2.1, rfl, by decide⟩
theorem d_X1_fare_90 : zD m_X1_fare 90 (.iconst 3) 1 91 := ⟨eg_X1_fare_40.2.2.2.2.2.2.2, rfl⟩
theorem d_X1_fare_91 : decode (zcc m_X1_fare) 91 = .ok (.ireturn, 1) := eg_X1_fare_48.1
theorem d_X1_fare_92 : zD m_X1_fare 92 (.aload_n 0) 1 93 := ⟨eg_X1_fare_48.2.1, rfl⟩
theorem d_X1_fare_93 : zD m_X1_fare 93 (.aload_n 0) 1 94 := ⟨eg_X1_fare_48.2.2.1, rfl⟩
theorem d_X1_fare_94 : zD m_X1_fare 94 (.iload_n 3) 1 95 := ⟨eg_X1_fare_48.2.2.2.1, rfl⟩
theorem d_X1_fare_95 : zD m_X1_fare 95 (.iload 6) 2 97 := ⟨eg_X1_fare_48.2.2.2.2.1, rfl⟩
theorem d_X1_fare_97 : zD m_X1_fare 97 (.invokevirtual 64) 3 100 := ⟨eg_X1_fare_48.2.2.2.2.2.1, rfl⟩
theorem d_X1_fare_100 : zD m_X1_fare 100 (.putfield 67) 3 103 := ⟨eg_X1_fare_48.2.2.2.2.2.2.1, rfl⟩
theorem d_X1_fare_103 : zD m_X1_fare 103 (.iconst 0) 1 104 := ⟨eg_X1_fare_48.2.2.2.2.2.2.2, rfl⟩
theorem d_X1_fare_104 : decode (zcc m_X1_fare) 104 = .ok (.ireturn, 1) := eg_X1_fare_56
set_option maxRecDepth 20000 in
theorem eg_X1_goRound_0 : decode (zcc m_X1_goRound) 0 = .ok (.aload_n 1, 1) ∧ decode (zcc m_X1_goRound) 1 = .ok (.getfield 70, 3) ∧ decode (zcc m_X1_goRound) 4 = .ok (.bipush 12, 2) ∧ decode (zcc m_X1_goRound) 6 = .ok (.invokestatic 75, 3) ∧ decode (zcc m_X1_goRound) 9 = .ok (.istore_n 2, 1) ∧ decode (zcc m_X1_goRound) 10 = .ok (.aload_n 0, 1) ∧ decode (zcc m_X1_goRound) 11 = .ok (.aload_n 1, 1) ∧ decode (zcc m_X1_goRound) 12 = .ok (.getfield 78, 3) := by decide +kernel
set_option maxRecDepth 20000 in
theorem eg_X1_goRound_8 : decode (zcc m_X1_goRound) 15 = .ok (.iconst 0, 1) ∧ decode (zcc m_X1_goRound) 16 = .ok (.iaload, 1) ∧ decode (zcc m_X1_goRound) 17 = .ok (.invokevirtual 81, 3) ∧ decode (zcc m_X1_goRound) 20 = .ok (.istore_n 3, 1) ∧ decode (zcc m_X1_goRound) 21 = .ok (.iload_n 3, 1) ∧ decode (zcc m_X1_goRound) 22 = .ok (.istore 4, 2) ∧ decode (zcc m_X1_goRound) 24 = .ok (.aload_n 0, 1) ∧ decode (zcc m_X1_goRound) 25 = .ok (.iconst 0, 1) := by decide +kernel
set_option maxRecDepth 20000 in
theorem eg_X1_goRound_16 : decode (zcc m_X1_goRound) 26 = .ok (.putfield 85, 3) ∧ decode (zcc m_X1_goRound) 29 = .ok (.iconst 1, 1) ∧ decode (zcc m_X1_goRound) 30 = .ok (.istore 5, 2) ∧ decode (zcc m_X1_goRound) 32 = .ok (.iload 5, 2) ∧ decode (zcc m_X1_goRound) 34 = .ok (.iload_n 2, 1) ∧ decode (zcc m_X1_goRound) 35 = .ok (.if_icmp .gt (68), 3) ∧ decode (zcc m_X1_goRound) 38 = .ok (.aload_n 0, 1) ∧ decode (zcc m_X1_goRound) 39 = .ok (.getfield 85, 3) := by decide +kernel
set_option maxRecDepth 20000 in
theorem eg_X1_goRound_24 : decode (zcc m_X1_goRound) 42 = .ok (.ifCond .ne (61), 3) ∧ decode (zcc m_X1_goRound) 45 = .ok (.iload 5, 2) ∧ decode (zcc m_X1_goRound) 47 = .ok (.iload_n 2, 1) ∧ decode (zcc m_X1_goRound) 48 = .ok (.if_icmp .ge (8), 3) ∧ decode (zcc m_X1_goRound) 51 = .ok (.iload 5, 2) ∧ decode (zcc m_X1_goRound) 53 = .ok (.goto (4), 3) ∧ decode (zcc m_X1_goRound) 56 = .ok (.iconst 0, 1) ∧ decode (zcc m_X1_goRound) 57 = .ok (.istore 6, 2) := by decide +kernel
set_option maxRecDepth 20000 in
theorem eg_X1_goRound_32 : decode (zcc m_X1_goRound) 59 = .ok (.aload_n 0, 1) ∧ decode (zcc m_X1_goRound) 60 = .ok (.aload_n 0, 1) ∧ decode (zcc m_X1_goRound) 61 = .ok (.aload_n 1, 1) ∧ decode (zcc m_X1_goRound) 62 = .ok (.getfield 78, 3) ∧ decode (zcc m_X1_goRound) 65 = .ok (.iload 5, 2) ∧ decode (zcc m_X1_goRound) 67 = .ok (.iconst 1, 1) ∧ decode (zcc m_X1_goRound) 68 = .ok (.isub, 1) ∧ decode (zcc m_X1_goRound) 69 = .ok (.iaload, 1) := by decide +kernel
set_option maxRecDepth 20000 in
theorem eg_X1_goRound_40 : decode (zcc m_X1_goRound) 70 = .ok (.iload 4, 2) ∧ decode (zcc m_X1_goRound) 72 = .ok (.aload_n 1, 1) ∧ decode (zcc m_X1_goRound) 73 = .ok (.getfield 78, 3) ∧ decode (zcc m_X1_goRound) 76 = .ok (.iload 6, 2) ∧ decode (zcc m_X1_goRound) 78 = .ok (.iaload, 1) ∧ decode (zcc m_X1_goRound) 79 = .ok (.invokevirtual 88, 3) ∧ decode (zcc m_X1_goRound) 82 = .ok (.putfield 85, 3) ∧ decode (zcc m_X1_goRound) 85 = .ok (.aload_n 0, 1) := by decide +kernel
set_option maxRecDepth 20000 in
theorem eg_X1_goRound_48 : decode (zcc m_X1_goRound) 86 = .ok (.iload 6, 2) ∧ decode (zcc m_X1_goRound) 88 = .ok (.putfield 92, 3) ∧ decode (zcc m_X1_goRound) 91 = .ok (.aload_n 0, 1) ∧ decode (zcc m_X1_goRound) 92 = .ok (.getfield 67, 3) ∧ decode (zcc m_X1_goRound) 95 = .ok (.istore 4, 2) ∧ decode (zcc m_X1_goRound) 97 = .ok (.iinc 5 1, 3) ∧ decode (zcc m_X1_goRound) 100 = .ok (.goto (-68), 3) ∧ decode (zcc m_X1_goRound) 103 = .ok (.aload_n 0, 1) := by decide +kernel
set_option maxRecDepth 20000 in
theorem eg_X1_goRound_56 : decode (zcc m_X1_goRound) 104 = .ok (.aload_n 0, 1) ∧ decode (zcc m_X1_goRound) 105 = .ok (.iload 4, 2) ∧ decode (zcc m_X1_goRound) 107 = .ok (.iload_n 3, 1) ∧ decode (zcc m_X1_goRound) 108 = .ok (.isub, 1) ∧ decode (zcc m_X1_goRound) 109 = .ok (.invokevirtual 95, 3) ∧ decode (zcc m_X1_goRound) 112 = .ok (.putfield 98, 3) ∧ decode (zcc m_X1_goRound) 115 = .ok (.return_, 1) := by decide +kernel
theorem d_X1_goRound_0 : zD m_X1_goRound 0 (.aload_n 1) 1 1 := ⟨eg_X1_goRound_0.1, rfl⟩
theorem d_X1_goRound_1 : zD m_X1_goRound 1 (.getfield 70) 3 4 := ⟨eg_X1_goRound_0.2.1, rfl⟩
theorem d_X1_goRound_4 : zD m_X1_goRound 4 (.bipush 12) 2 6 := ⟨eg_X1_goRound_0.2.2.1, rfl⟩
theorem d_X1_goRound_6 : zD m_X1_goRound 6 (.invokestatic 75) 3 9 := ⟨eg_X1_goRound_0.2.2.2.1, rfl⟩
theorem d_X1_goRound_9 : zD m_X1_goRound 9 (.istore_n 2) 1 10 := ⟨eg_X1_goRound_0.2.2.2.2.1, rfl⟩
theorem d_X1_goRound_10 : zD m_X1_goRound 10 (.aload_n 0) 1 11 := ⟨eg_X1_goRound_0.2.2.2.2.2.1, rfl⟩
theorem d_X1_goRound_11 : zD m_X1_goRound 11 (.aload_n 1) 1 12 := ⟨eg_X1_goRound_0.2.2.2.2.2.2.1, rfl⟩
theorem d_X1_goRound_12 : zD m_X1_goRound 12 (.getfield 78) 3 15 := ⟨eg_X1_goRound_0.2.2.2.2.2.2.2, rfl⟩
theorem d_X1_goRound_15 : zD m_X1_goRound 15 (.iconst 0) 1 16 := ⟨eg_X1_goRound_8.1, rfl⟩
theorem d_X1_goRound_16 : zD m_X1_goRound 16 (.iaload) 1 17 := ⟨eg_X1_goRound_8.2.1, rfl⟩
theorem d_X1_goRound_17 : zD m_X1_goRound 17 (.invokevirtual 81) 3 20 := ⟨eg_X1_goRound_8.2.2.1, rfl⟩
theorem d_X1_goRound_20 : zD m_X1_goRound 20 (.istore_n 3) 1 21 := ⟨eg_X1_goRound_8.2.2.2.1, rfl⟩
theorem d_X1_goRound_21 : zD m_X1_goRound 21 (.iload_n 3) 1 22 := ⟨eg_X1_goRound_8.2.2.2.2.1, rfl⟩
theorem d_X1_goRound_22 : zD m_X1_goRound 22 (.istore 4) 2 24 := ⟨eg_X1_goRound_8.2.2.2.2.2.1, rfl⟩
theorem d_X1_goRound_24 : zD m_X1_goRound 24 (.aload_n 0) 1 25 := ⟨eg_X1_goRound_8.2.2.2.2.2.2.1, rfl⟩
theorem d_X1_goRound_25 : zD m_X1_goRound 25 (.iconst 0) 1 26 := ⟨eg_X1_goRound_8.2.2.2.2.2.2.2, rfl⟩
theorem d_X1_goRound_26 : zD m_X1_goRound 26 (.putfield 85) 3 29 := ⟨eg_X1_goRound_16.1, rfl⟩
theorem d_X1_goRound_29 : zD m_X1_goRound 29 (.iconst 1) 1 30 := ⟨eg_X1_goRound_16.2.1, rfl⟩
theorem d_X1_goRound_30 : zD m_X1_goRound 30 (.istore 5) 2 32 := ⟨eg_X1_goRound_16.2.2.1, rfl⟩
theorem d_X1_goRound_32 : zD m_X1_goRound 32 (.iload 5) 2 34 := ⟨eg_X1_goRound_16.2.2.2.1, rfl⟩
theorem d_X1_goRound_34 : zD m_X1_goRound 34 (.iload_n 2) 1 35 := ⟨eg_X1_goRound_16.2.2.2.2.1, rfl⟩
theorem d_X1_goRound_35 : zDj m_X1_goRound 35 (.if_icmp .gt) 38 103 := ⟨68, eg_X1_goRound_16.2.2.2.2.2.1, rfl, by decide⟩
theorem d_X1_goRound_38 : zD m_X1_goRound 38 (.aload_n 0) 1 39 := ⟨eg_X1_goRound_16.2.2.2.2.2.2.1, rfl⟩
theorem d_X1_goRound_39 : zD m_X1_goRound 39 (.getfield 85) 3 42 := ⟨eg_X1_goRound_16.2.2.2.2.2.2.2, rfl⟩
theorem d_X1_goRound_42 : zDj m_X1_goRound 42 (.ifCond .ne) 45 103 := ⟨61, eg_X1_goRound_24.1, rfl, by decide⟩
theorem d_X1_goRound_45 : zD m_X1_goRound 45 (.iload 5) 2 47 := ⟨eg_X1_goRound_24.2.1, rfl⟩
theorem d_X1_goRound_47 : zD m_X1_goRound 47 (.iload_n 2) 1 48 := ⟨eg_X1_goRound_24.2.2.1, rfl⟩
theorem d_X1_goRound_48 : zDj m_X1_goRound 48 (.if_icmp .ge) 51 56 := ⟨8, eg_X1_goRound_24.2.2.2.1, rfl, by decide⟩
theorem d_X1_goRound_51 : zD m_X1_goRound 51 (.iload 5) 2 53 := ⟨eg_X1_goRound_24.2.2.2.2.1, rfl⟩
theorem d_X1_goRound_53 : zDj m_X1_goRound 53 (.goto) 56 57 := ⟨4, eg_X1_goRound_24.2.2.2.2.2.1, rfl, by decide⟩
theorem d_X1_goRound_56 : zD m_X1_goRound 56 (.iconst 0) 1 57 := ⟨eg_X1_goRound_24.2.2.2.2.2.2.1, rfl⟩
theorem d_X1_goRound_57 : zD m_X1_goRound 57 (.istore 6) 2 59 := ⟨eg_X1_goRound_24.2.2.2.2.2.2.2, rfl⟩
theorem d_X1_goRound_59 : zD m_X1_goRound 59 (.aload_n 0) 1 60 := ⟨eg_X1_goRound_32.1, rfl⟩
theorem d_X1_goRound_60 : zD m_X1_goRound 60 (.aload_n 0) 1 61 := ⟨eg_X1_goRound_32.2.1, rfl⟩
theorem d_X1_goRound_61 : zD m_X1_goRound 61 (.aload_n 1) 1 62 := ⟨eg_X1_goRound_32.2.2.1, rfl⟩
theorem d_X1_goRound_62 : zD m_X1_goRound 62 (.getfield 78) 3 65 := ⟨eg_X1_goRound_32.2.2.2.1, rfl⟩
theorem d_X1_goRound_65 : zD m_X1_goRound 65 (.iload 5) 2 67 := ⟨eg_X1_goRound_32.2.2.2.2.1, rfl⟩
theorem d_X1_goRound_67 : zD m_X1_goRound 67 (.iconst 1) 1 68 := ⟨eg_X1_goRound_32.2.2.2.2.2.1, rfl⟩
theorem d_X1_goRound_68 : zD m_X1_goRound 68 (.isub) 1 69 := ⟨eg_X1_goRound_32.2.2.2.2.2.2.1, rfl⟩
theorem d_X1_goRound_69 : zD m_X1_goRound 69 (.iaload) 1 70 := ⟨eg_X1_goRound_32.2.2.2.2.2.2.2, rfl⟩
theorem d_X1_goRound_70 : zD m_X1_goRound 70 (.iload 4) 2 72 := ⟨eg_X1_goRound_40.1, rfl⟩
theorem d_X1_goRound_72 : zD m_X1_goRound 72 (.aload_n 1) 1 73 := ⟨eg_X1_goRound_40.2.1, rfl⟩
theorem d_X1_goRound_73 : zD m_X1_goRound 73 (.getfield 78) 3 76 := ⟨eg_X1_goRound_40.2.2.1, rfl⟩
theorem d_X1_goRound_76 : zD m_X1_goRound 76 (.iload 6) 2 78 := ⟨eg_X1_goRound_40.2.2.2.1, rfl⟩
theorem d_X1_goRound_78 : zD m_X1_goRound 78 (.iaload) 1 79 := ⟨eg_X1_goRound_40.2.2.2.2.1, rfl⟩
theorem d_X1_goRound_79 : zD m_X1_goRound 79 (.invokevirtual 88) 3 82 := ⟨eg_X1_goRound_40.2.2.2.2.2.1, rfl⟩
theorem d_X1_goRound_82 : zD m_X1_goRound 82 (.putfield 85) 3 85 := ⟨eg_X1_goRound_40.2.2.2.2.2.2.1, rfl⟩
theorem d_X1_goRound_85 : zD m_X1_goRound 85 (.aload_n 0) 1 86 := ⟨eg_X1_goRound_40.2.2.2.2.2.2.2, rfl⟩
theorem d_X1_goRound_86 : zD m_X1_goRound 86 (.iload 6) 2 88 := ⟨eg_X1_goRound_48.1, rfl⟩
theorem d_X1_goRound_88 : zD m_X1_goRound 88 (.putfield 92) 3 91 := ⟨eg_X1_goRound_48.2.1, rfl⟩
theorem d_X1_goRound_91 : zD m_X1_goRound 91 (.aload_n 0) 1 92 := ⟨eg_X1_goRound_48.2.2.1, rfl⟩
theorem d_X1_goRound_92 : zD m_X1_goRound 92 (.getfield 67) 3 95 := ⟨eg_X1_goRound_48.2.2.2.1, rfl⟩
theorem d_X1_goRound_95 : zD m_X1_goRound 95 (.istore 4) 2 97 := ⟨eg_X1_goRound_48.2.2.2.2.1, rfl⟩
theorem d_X1_goRound_97 : zD m_X1_goRound 97 (.iinc 5 1) 3 100 := ⟨eg_X1_goRound_48.2.2.2.2.2.1, rfl⟩
theorem d_X1_goRound_100 : zDj m_X1_goRound 100 (.goto) 103 32 := ⟨-68, eg_X1_goRound_48.2.2.2.2.2.2.1, rfl, by decide⟩
theorem d_X1_goRound_103 : zD m_X1_goRound 103 (.aload_n 0) 1 104 := ⟨eg_X1_goRound_48.2.2.2.2.2.2.2, rfl⟩
theorem d_X1_goRound_104 : zD m_X1_goRound 104 (.aload_n 0) 1 105 := ⟨eg_X1_goRound_56.1, rfl⟩
theorem d_X1_goRound_105 : zD m_X1_goRound 105 (.iload 4) 2 107 := ⟨eg_X1_goRound_56.2.1, rfl⟩
theorem d_X1_goRound_107 : zD m_X1_goRound 107 (.iload_n 3) 1 108 := ⟨eg_X1_goRound_56.2.2.1, rfl⟩
theorem d_X1_goRound_108 : zD m_X1_goRound 108 (.isub) 1 109 := ⟨eg_X1_goRound_56.2.2.2.1, rfl⟩
theorem d_X1_goRound_109 : zD m_X1_goRound 109 (.invokevirtual 95) 3 112 := ⟨eg_X1_goRound_56.2.2.2.2.1, rfl⟩
theorem d_X1_goRound_112 : zD m_X1_goRound 112 (.putfield 98) 3 115 := ⟨eg_X1_goRound_56.2.2.2.2.2.1, rfl⟩
theorem d_X1_goRound_115 : decode (zcc m_X1_goRound) 115 = .ok (.return_, 1) := eg_X1_goRound_56.2.2.2.2.2.2
set_option maxRecDepth 20000 in
theorem eg_X1_wellsIn_0 : decode (zcc m_X1_wellsIn) 0 = .ok (.iload_n 1, 1) ∧ decode (zcc m_X1_wellsIn) 1 = .ok (.aload_n 0, 1) ∧ decode (zcc m_X1_wellsIn) 2 = .ok (.getfield 34, 3) ∧ decode (zcc m_X1_wellsIn) 5 = .ok (.iconst 4, 1) ∧ decode (zcc m_X1_wellsIn) 6 = .ok (.if_icmp .ne (7), 3) ∧ decode (zcc m_X1_wellsIn) 9 = .ok (.iconst 4, 1) ∧ decode (zcc m_X1_wellsIn) 10 = .ok (.goto (4), 3) ∧ decode (zcc m_X1_wellsIn) 13 = .ok (.iconst 3, 1) := by decide +kernel
set_option maxRecDepth 20000 in
theorem eg_X1_wellsIn_8 : decode (zcc m_X1_wellsIn) 14 = .ok (.invokestatic 101, 3) ∧ decode (zcc m_X1_wellsIn) 17 = .ok (.ireturn, 1) := by decide +kernel
theorem d_X1_wellsIn_0 : zD m_X1_wellsIn 0 (.iload_n 1) 1 1 := ⟨eg_X1_wellsIn_0.1, rfl⟩
theorem d_X1_wellsIn_1 : zD m_X1_wellsIn 1 (.aload_n 0) 1 2 := ⟨eg_X1_wellsIn_0.2.1, rfl⟩
theorem d_X1_wellsIn_2 : zD m_X1_wellsIn 2 (.getfield 34) 3 5 := ⟨eg_X1_wellsIn_0.2.2.1, rfl⟩
theorem d_X1_wellsIn_5 : zD m_X1_wellsIn 5 (.iconst 4) 1 6 := ⟨eg_X1_wellsIn_0.2.2.2.1, rfl⟩
theorem d_X1_wellsIn_6 : zDj m_X1_wellsIn 6 (.if_icmp .ne) 9 13 := ⟨7, eg_X1_wellsIn_0.2.2.2.2.1, rfl, by decide⟩
theorem d_X1_wellsIn_9 : zD m_X1_wellsIn 9 (.iconst 4) 1 10 := ⟨eg_X1_wellsIn_0.2.2.2.2.2.1, rfl⟩
theorem d_X1_wellsIn_10 : zDj m_X1_wellsIn 10 (.goto) 13 14 := ⟨4, eg_X1_wellsIn_0.2.2.2.2.2.2.1, rfl, by decide⟩
theorem d_X1_wellsIn_13 : zD m_X1_wellsIn 13 (.iconst 3) 1 14 := ⟨eg_X1_wellsIn_0.2.2.2.2.2.2.2, rfl⟩
theorem d_X1_wellsIn_14 : zD m_X1_wellsIn 14 (.invokestatic 101) 3 17 := ⟨eg_X1_wellsIn_8.1, rfl⟩
theorem d_X1_wellsIn_17 : decode (zcc m_X1_wellsIn) 17 = .ok (.ireturn, 1) := eg_X1_wellsIn_8.2
set_option maxRecDepth 20000 in
theorem eg_X1_listRegions_0 : decode (zcc m_X1_listRegions) 0 = .ok (.aload_n 0, 1) ∧ decode (zcc m_X1_listRegions) 1 = .ok (.iconst 0, 1) ∧ decode (zcc m_X1_listRegions) 2 = .ok (.putfield 104, 3) ∧ decode (zcc m_X1_listRegions) 5 = .ok (.iconst 1, 1) ∧ decode (zcc m_X1_listRegions) 6 = .ok (.istore_n 1, 1) ∧ decode (zcc m_X1_listRegions) 7 = .ok (.iload_n 1, 1) ∧ decode (zcc m_X1_listRegions) 8 = .ok (.aload_n 0, 1) ∧ decode (zcc m_X1_listRegions) 9 = .ok (.invokevirtual 60, 3) := by decide +kernel
set_option maxRecDepth 20000 in
theorem eg_X1_listRegions_8 : decode (zcc m_X1_listRegions) 12 = .ok (.if_icmp .ge (87), 3) ∧ decode (zcc m_X1_listRegions) 15 = .ok (.iconst 0, 1) ∧ decode (zcc m_X1_listRegions) 16 = .ok (.istore_n 2, 1) ∧ decode (zcc m_X1_listRegions) 17 = .ok (.iload_n 2, 1) ∧ decode (zcc m_X1_listRegions) 18 = .ok (.aload_n 0, 1) ∧ decode (zcc m_X1_listRegions) 19 = .ok (.getfield 34, 3) ∧ decode (zcc m_X1_listRegions) 22 = .ok (.if_icmp .ge (71), 3) ∧ decode (zcc m_X1_listRegions) 25 = .ok (.aload_n 0, 1) := by decide +kernel
set_option maxRecDepth 20000 in
theorem eg_X1_listRegions_16 : decode (zcc m_X1_listRegions) 26 = .ok (.iload_n 1, 1) ∧ decode (zcc m_X1_listRegions) 27 = .ok (.iload_n 2, 1) ∧ decode (zcc m_X1_listRegions) 28 = .ok (.invokevirtual 54, 3) ∧ decode (zcc m_X1_listRegions) 31 = .ok (.ifCond .eq (56), 3) ∧ decode (zcc m_X1_listRegions) 34 = .ok (.aload_n 0, 1) ∧ decode (zcc m_X1_listRegions) 35 = .ok (.getfield 104, 3) ∧ decode (zcc m_X1_listRegions) 38 = .ok (.bipush 16, 2) ∧ decode (zcc m_X1_listRegions) 40 = .ok (.if_icmp .ge (47), 3) := by decide +kernel
set_option maxRecDepth 20000 in
theorem eg_X1_listRegions_24 : decode (zcc m_X1_listRegions) 43 = .ok (.aload_n 0, 1) ∧ decode (zcc m_X1_listRegions) 44 = .ok (.getfield 11, 3) ∧ decode (zcc m_X1_listRegions) 47 = .ok (.aload_n 0, 1) ∧ decode (zcc m_X1_listRegions) 48 = .ok (.getfield 104, 3) ∧ decode (zcc m_X1_listRegions) 51 = .ok (.iload_n 1, 1) ∧ decode (zcc m_X1_listRegions) 52 = .ok (.iastore, 1) ∧ decode (zcc m_X1_listRegions) 53 = .ok (.aload_n 0, 1) ∧ decode (zcc m_X1_listRegions) 54 = .ok (.getfield 15, 3) := by decide +kernel
set_option maxRecDepth 20000 in
theorem eg_X1_listRegions_32 : decode (zcc m_X1_listRegions) 57 = .ok (.aload_n 0, 1) ∧ decode (zcc m_X1_listRegions) 58 = .ok (.getfield 104, 3) ∧ decode (zcc m_X1_listRegions) 61 = .ok (.iload_n 2, 1) ∧ decode (zcc m_X1_listRegions) 62 = .ok (.iastore, 1) ∧ decode (zcc m_X1_listRegions) 63 = .ok (.aload_n 0, 1) ∧ decode (zcc m_X1_listRegions) 64 = .ok (.getfield 18, 3) ∧ decode (zcc m_X1_listRegions) 67 = .ok (.iload_n 1, 1) ∧ decode (zcc m_X1_listRegions) 68 = .ok (.iconst 4, 1) := by decide +kernel
set_option maxRecDepth 20000 in
theorem eg_X1_listRegions_40 : decode (zcc m_X1_listRegions) 69 = .ok (.imul, 1) ∧ decode (zcc m_X1_listRegions) 70 = .ok (.iload_n 2, 1) ∧ decode (zcc m_X1_listRegions) 71 = .ok (.iadd, 1) ∧ decode (zcc m_X1_listRegions) 72 = .ok (.aload_n 0, 1) ∧ decode (zcc m_X1_listRegions) 73 = .ok (.getfield 104, 3) ∧ decode (zcc m_X1_listRegions) 76 = .ok (.iastore, 1) ∧ decode (zcc m_X1_listRegions) 77 = .ok (.aload_n 0, 1) ∧ decode (zcc m_X1_listRegions) 78 = .ok (.dup, 1) := by decide +kernel
set_option maxRecDepth 20000 in
theorem eg_X1_listRegions_48 : decode (zcc m_X1_listRegions) 79 = .ok (.getfield 104, 3) ∧ decode (zcc m_X1_listRegions) 82 = .ok (.iconst 1, 1) ∧ decode (zcc m_X1_listRegions) 83 = .ok (.iadd, 1) ∧ decode (zcc m_X1_listRegions) 84 = .ok (.putfield 104, 3) ∧ decode (zcc m_X1_listRegions) 87 = .ok (.iinc 2 1, 3) ∧ decode (zcc m_X1_listRegions) 90 = .ok (.goto (-73), 3) ∧ decode (zcc m_X1_listRegions) 93 = .ok (.iinc 1 1, 3) ∧ decode (zcc m_X1_listRegions) 96 = .ok (.goto (-89), 3) := by decide +kernel
set_option maxRecDepth 20000 in
theorem eg_X1_listRegions_56 : decode (zcc m_X1_listRegions) 99 = .ok (.return_, 1) := by decide +kernel
theorem d_X1_listRegions_0 : zD m_X1_listRegions 0 (.aload_n 0) 1 1 := ⟨eg_X1_listRegions_0.1, rfl⟩
theorem d_X1_listRegions_1 : zD m_X1_listRegions 1 (.iconst 0) 1 2 := ⟨eg_X1_listRegions_0.2.1, rfl⟩
theorem d_X1_listRegions_2 : zD m_X1_listRegions 2 (.putfield 104) 3 5 := ⟨eg_X1_listRegions_0.2.2.1, rfl⟩
theorem d_X1_listRegions_5 : zD m_X1_listRegions 5 (.iconst 1) 1 6 := ⟨eg_X1_listRegions_0.2.2.2.1, rfl⟩
theorem d_X1_listRegions_6 : zD m_X1_listRegions 6 (.istore_n 1) 1 7 := ⟨eg_X1_listRegions_0.2.2.2.2.1, rfl⟩
theorem d_X1_listRegions_7 : zD m_X1_listRegions 7 (.iload_n 1) 1 8 := ⟨eg_X1_listRegions_0.2.2.2.2.2.1, rfl⟩
theorem d_X1_listRegions_8 : zD m_X1_listRegions 8 (.aload_n 0) 1 9 := ⟨eg_X1_listRegions_0.2.2.2.2.2.2.1, rfl⟩
theorem d_X1_listRegions_9 : zD m_X1_listRegions 9 (.invokevirtual 60) 3 12 := ⟨eg_X1_listRegions_0.2.2.2.2.2.2.2, rfl⟩
theorem d_X1_listRegions_12 : zDj m_X1_listRegions 12 (.if_icmp .ge) 15 99 := ⟨87, eg_X1_listRegions_8.1, rfl, by decide⟩
theorem d_X1_listRegions_15 : zD m_X1_listRegions 15 (.iconst 0) 1 16 := ⟨eg_X1_listRegions_8.2.1, rfl⟩
theorem d_X1_listRegions_16 : zD m_X1_listRegions 16 (.istore_n 2) 1 17 := ⟨eg_X1_listRegions_8.2.2.1, rfl⟩
theorem d_X1_listRegions_17 : zD m_X1_listRegions 17 (.iload_n 2) 1 18 := ⟨eg_X1_listRegions_8.2.2.2.1, rfl⟩
theorem d_X1_listRegions_18 : zD m_X1_listRegions 18 (.aload_n 0) 1 19 := ⟨eg_X1_listRegions_8.2.2.2.2.1, rfl⟩
theorem d_X1_listRegions_19 : zD m_X1_listRegions 19 (.getfield 34) 3 22 := ⟨eg_X1_listRegions_8.2.2.2.2.2.1, rfl⟩
theorem d_X1_listRegions_22 : zDj m_X1_listRegions 22 (.if_icmp .ge) 25 93 := ⟨71, eg_X1_listRegions_8.2.2.2.2.2.2.1, rfl, by decide⟩
theorem d_X1_listRegions_25 : zD m_X1_listRegions 25 (.aload_n 0) 1 26 := ⟨eg_X1_listRegions_8.2.2.2.2.2.2.2, rfl⟩
theorem d_X1_listRegions_26 : zD m_X1_listRegions 26 (.iload_n 1) 1 27 := ⟨eg_X1_listRegions_16.1, rfl⟩
theorem d_X1_listRegions_27 : zD m_X1_listRegions 27 (.iload_n 2) 1 28 := ⟨eg_X1_listRegions_16.2.1, rfl⟩
theorem d_X1_listRegions_28 : zD m_X1_listRegions 28 (.invokevirtual 54) 3 31 := ⟨eg_X1_listRegions_16.2.2.1, rfl⟩
theorem d_X1_listRegions_31 : zDj m_X1_listRegions 31 (.ifCond .eq) 34 87 := ⟨56, eg_X1_listRegions_16.2.2.2.1, rfl, by decide⟩
theorem d_X1_listRegions_34 : zD m_X1_listRegions 34 (.aload_n 0) 1 35 := ⟨eg_X1_listRegions_16.2.2.2.2.1, rfl⟩
theorem d_X1_listRegions_35 : zD m_X1_listRegions 35 (.getfield 104) 3 38 := ⟨eg_X1_listRegions_16.2.2.2.2.2.1, rfl⟩
theorem d_X1_listRegions_38 : zD m_X1_listRegions 38 (.bipush 16) 2 40 := ⟨eg_X1_listRegions_16.2.2.2.2.2.2.1, rfl⟩
theorem d_X1_listRegions_40 : zDj m_X1_listRegions 40 (.if_icmp .ge) 43 87 := ⟨47, eg_X1_listRegions_16.2.2.2.2.2.2.2, rfl, by decide⟩
theorem d_X1_listRegions_43 : zD m_X1_listRegions 43 (.aload_n 0) 1 44 := ⟨eg_X1_listRegions_24.1, rfl⟩
theorem d_X1_listRegions_44 : zD m_X1_listRegions 44 (.getfield 11) 3 47 := ⟨eg_X1_listRegions_24.2.1, rfl⟩
theorem d_X1_listRegions_47 : zD m_X1_listRegions 47 (.aload_n 0) 1 48 := ⟨eg_X1_listRegions_24.2.2.1, rfl⟩
theorem d_X1_listRegions_48 : zD m_X1_listRegions 48 (.getfield 104) 3 51 := ⟨eg_X1_listRegions_24.2.2.2.1, rfl⟩
theorem d_X1_listRegions_51 : zD m_X1_listRegions 51 (.iload_n 1) 1 52 := ⟨eg_X1_listRegions_24.2.2.2.2.1, rfl⟩
theorem d_X1_listRegions_52 : zD m_X1_listRegions 52 (.iastore) 1 53 := ⟨eg_X1_listRegions_24.2.2.2.2.2.1, rfl⟩
theorem d_X1_listRegions_53 : zD m_X1_listRegions 53 (.aload_n 0) 1 54 := ⟨eg_X1_listRegions_24.2.2.2.2.2.2.1, rfl⟩
theorem d_X1_listRegions_54 : zD m_X1_listRegions 54 (.getfield 15) 3 57 := ⟨eg_X1_listRegions_24.2.2.2.2.2.2.2, rfl⟩
theorem d_X1_listRegions_57 : zD m_X1_listRegions 57 (.aload_n 0) 1 58 := ⟨eg_X1_listRegions_32.1, rfl⟩
theorem d_X1_listRegions_58 : zD m_X1_listRegions 58 (.getfield 104) 3 61 := ⟨eg_X1_listRegions_32.2.1, rfl⟩
theorem d_X1_listRegions_61 : zD m_X1_listRegions 61 (.iload_n 2) 1 62 := ⟨eg_X1_listRegions_32.2.2.1, rfl⟩
theorem d_X1_listRegions_62 : zD m_X1_listRegions 62 (.iastore) 1 63 := ⟨eg_X1_listRegions_32.2.2.2.1, rfl⟩
theorem d_X1_listRegions_63 : zD m_X1_listRegions 63 (.aload_n 0) 1 64 := ⟨eg_X1_listRegions_32.2.2.2.2.1, rfl⟩
theorem d_X1_listRegions_64 : zD m_X1_listRegions 64 (.getfield 18) 3 67 := ⟨eg_X1_listRegions_32.2.2.2.2.2.1, rfl⟩
theorem d_X1_listRegions_67 : zD m_X1_listRegions 67 (.iload_n 1) 1 68 := ⟨eg_X1_listRegions_32.2.2.2.2.2.2.1, rfl⟩
theorem d_X1_listRegions_68 : zD m_X1_listRegions 68 (.iconst 4) 1 69 := ⟨eg_X1_listRegions_32.2.2.2.2.2.2.2, rfl⟩
theorem d_X1_listRegions_69 : zD m_X1_listRegions 69 (.imul) 1 70 := ⟨eg_X1_listRegions_40.1, rfl⟩
theorem d_X1_listRegions_70 : zD m_X1_listRegions 70 (.iload_n 2) 1 71 := ⟨eg_X1_listRegions_40.2.1, rfl⟩
theorem d_X1_listRegions_71 : zD m_X1_listRegions 71 (.iadd) 1 72 := ⟨eg_X1_listRegions_40.2.2.1, rfl⟩
theorem d_X1_listRegions_72 : zD m_X1_listRegions 72 (.aload_n 0) 1 73 := ⟨eg_X1_listRegions_40.2.2.2.1, rfl⟩
theorem d_X1_listRegions_73 : zD m_X1_listRegions 73 (.getfield 104) 3 76 := ⟨eg_X1_listRegions_40.2.2.2.2.1, rfl⟩
theorem d_X1_listRegions_76 : zD m_X1_listRegions 76 (.iastore) 1 77 := ⟨eg_X1_listRegions_40.2.2.2.2.2.1, rfl⟩
theorem d_X1_listRegions_77 : zD m_X1_listRegions 77 (.aload_n 0) 1 78 := ⟨eg_X1_listRegions_40.2.2.2.2.2.2.1, rfl⟩
theorem d_X1_listRegions_78 : zD m_X1_listRegions 78 (.dup) 1 79 := ⟨eg_X1_listRegions_40.2.2.2.2.2.2.2, rfl⟩
theorem d_X1_listRegions_79 : zD m_X1_listRegions 79 (.getfield 104) 3 82 := ⟨eg_X1_listRegions_48.1, rfl⟩
theorem d_X1_listRegions_82 : zD m_X1_listRegions 82 (.iconst 1) 1 83 := ⟨eg_X1_listRegions_48.2.1, rfl⟩
theorem d_X1_listRegions_83 : zD m_X1_listRegions 83 (.iadd) 1 84 := ⟨eg_X1_listRegions_48.2.2.1, rfl⟩
theorem d_X1_listRegions_84 : zD m_X1_listRegions 84 (.putfield 104) 3 87 := ⟨eg_X1_listRegions_48.2.2.2.1, rfl⟩
theorem d_X1_listRegions_87 : zD m_X1_listRegions 87 (.iinc 2 1) 3 90 := ⟨eg_X1_listRegions_48.2.2.2.2.1, rfl⟩
theorem d_X1_listRegions_90 : zDj m_X1_listRegions 90 (.goto) 93 17 := ⟨-73, eg_X1_listRegions_48.2.2.2.2.2.1, rfl, by decide⟩
theorem d_X1_listRegions_93 : zD m_X1_listRegions 93 (.iinc 1 1) 3 96 := ⟨eg_X1_listRegions_48.2.2.2.2.2.2.1, rfl⟩
theorem d_X1_listRegions_96 : zDj m_X1_listRegions 96 (.goto) 99 7 := ⟨-89, eg_X1_listRegions_48.2.2.2.2.2.2.2, rfl, by decide⟩
theorem d_X1_listRegions_99 : decode (zcc m_X1_listRegions) 99 = .ok (.return_, 1) := eg_X1_listRegions_56
set_option maxRecDepth 20000 in
theorem eg_X1_listGoing_0 : decode (zcc m_X1_listGoing) 0 = .ok (.aload_n 0, 1) ∧ decode (zcc m_X1_listGoing) 1 = .ok (.getfield 21, 3) ∧ decode (zcc m_X1_listGoing) 4 = .ok (.iconst (-1), 1) ∧ decode (zcc m_X1_listGoing) 5 = .ok (.invokestatic 107, 3) ∧ decode (zcc m_X1_listGoing) 8 = .ok (.iconst 0, 1) ∧ decode (zcc m_X1_listGoing) 9 = .ok (.istore_n 1, 1) ∧ decode (zcc m_X1_listGoing) 10 = .ok (.iload_n 1, 1) ∧ decode (zcc m_X1_listGoing) 11 = .ok (.aload_n 0, 1) := by decide +kernel
set_option maxRecDepth 20000 in
theorem eg_X1_listGoing_8 : decode (zcc m_X1_listGoing) 12 = .ok (.getfield 104, 3) ∧ decode (zcc m_X1_listGoing) 15 = .ok (.if_icmp .ge (97), 3) ∧ decode (zcc m_X1_listGoing) 18 = .ok (.iconst 1, 1) ∧ decode (zcc m_X1_listGoing) 19 = .ok (.istore_n 2, 1) ∧ decode (zcc m_X1_listGoing) 20 = .ok (.iload_n 2, 1) ∧ decode (zcc m_X1_listGoing) 21 = .ok (.aload_n 0, 1) ∧ decode (zcc m_X1_listGoing) 22 = .ok (.invokevirtual 60, 3) ∧ decode (zcc m_X1_listGoing) 25 = .ok (.if_icmp .ge (81), 3) := by decide +kernel
set_option maxRecDepth 20000 in
theorem eg_X1_listGoing_16 : decode (zcc m_X1_listGoing) 28 = .ok (.aload_n 0, 1) ∧ decode (zcc m_X1_listGoing) 29 = .ok (.aload_n 0, 1) ∧ decode (zcc m_X1_listGoing) 30 = .ok (.getfield 11, 3) ∧ decode (zcc m_X1_listGoing) 33 = .ok (.iload_n 1, 1) ∧ decode (zcc m_X1_listGoing) 34 = .ok (.iaload, 1) ∧ decode (zcc m_X1_listGoing) 35 = .ok (.aload_n 0, 1) ∧ decode (zcc m_X1_listGoing) 36 = .ok (.getfield 15, 3) ∧ decode (zcc m_X1_listGoing) 39 = .ok (.iload_n 1, 1) := by decide +kernel
set_option maxRecDepth 20000 in
theorem eg_X1_listGoing_24 : decode (zcc m_X1_listGoing) 40 = .ok (.iaload, 1) ∧ decode (zcc m_X1_listGoing) 41 = .ok (.iload_n 2, 1) ∧ decode (zcc m_X1_listGoing) 42 = .ok (.invokevirtual 88, 3) ∧ decode (zcc m_X1_listGoing) 45 = .ok (.ifCond .ne (55), 3) ∧ decode (zcc m_X1_listGoing) 48 = .ok (.aload_n 0, 1) ∧ decode (zcc m_X1_listGoing) 49 = .ok (.aload_n 0, 1) ∧ decode (zcc m_X1_listGoing) 50 = .ok (.getfield 67, 3) ∧ decode (zcc m_X1_listGoing) 53 = .ok (.invokevirtual 95, 3) := by decide +kernel
set_option maxRecDepth 20000 in
theorem eg_X1_listGoing_32 : decode (zcc m_X1_listGoing) 56 = .ok (.istore_n 3, 1) ∧ decode (zcc m_X1_listGoing) 57 = .ok (.aload_n 0, 1) ∧ decode (zcc m_X1_listGoing) 58 = .ok (.getfield 21, 3) ∧ decode (zcc m_X1_listGoing) 61 = .ok (.iload_n 1, 1) ∧ decode (zcc m_X1_listGoing) 62 = .ok (.bipush 16, 2) ∧ decode (zcc m_X1_listGoing) 64 = .ok (.imul, 1) ∧ decode (zcc m_X1_listGoing) 65 = .ok (.iload_n 2, 1) ∧ decode (zcc m_X1_listGoing) 66 = .ok (.iadd, 1) := by decide +kernel
set_option maxRecDepth 20000 in
theorem eg_X1_listGoing_40 : decode (zcc m_X1_listGoing) 67 = .ok (.aload_n 0, 1) ∧ decode (zcc m_X1_listGoing) 68 = .ok (.getfield 18, 3) ∧ decode (zcc m_X1_listGoing) 71 = .ok (.iload_n 2, 1) ∧ decode (zcc m_X1_listGoing) 72 = .ok (.iconst 4, 1) ∧ decode (zcc m_X1_listGoing) 73 = .ok (.imul, 1) ∧ decode (zcc m_X1_listGoing) 74 = .ok (.aload_n 0, 1) ∧ decode (zcc m_X1_listGoing) 75 = .ok (.getfield 67, 3) ∧ decode (zcc m_X1_listGoing) 78 = .ok (.iadd, 1) := by decide +kernel
set_option maxRecDepth 20000 in
theorem eg_X1_listGoing_48 : decode (zcc m_X1_listGoing) 79 = .ok (.iload_n 3, 1) ∧ decode (zcc m_X1_listGoing) 80 = .ok (.aload_n 0, 1) ∧ decode (zcc m_X1_listGoing) 81 = .ok (.getfield 34, 3) ∧ decode (zcc m_X1_listGoing) 84 = .ok (.imul, 1) ∧ decode (zcc m_X1_listGoing) 85 = .ok (.isub, 1) ∧ decode (zcc m_X1_listGoing) 86 = .ok (.iaload, 1) ∧ decode (zcc m_X1_listGoing) 87 = .ok (.iastore, 1) ∧ decode (zcc m_X1_listGoing) 88 = .ok (.aload_n 0, 1) := by decide +kernel
set_option maxRecDepth 20000 in
theorem eg_X1_listGoing_56 : decode (zcc m_X1_listGoing) 89 = .ok (.getfield 24, 3) ∧ decode (zcc m_X1_listGoing) 92 = .ok (.iload_n 1, 1) ∧ decode (zcc m_X1_listGoing) 93 = .ok (.bipush 16, 2) ∧ decode (zcc m_X1_listGoing) 95 = .ok (.imul, 1) ∧ decode (zcc m_X1_listGoing) 96 = .ok (.iload_n 2, 1) ∧ decode (zcc m_X1_listGoing) 97 = .ok (.iadd, 1) ∧ decode (zcc m_X1_listGoing) 98 = .ok (.iload_n 3, 1) ∧ decode (zcc m_X1_listGoing) 99 = .ok (.iastore, 1) := by decide +kernel
set_option maxRecDepth 20000 in
theorem eg_X1_listGoing_64 : decode (zcc m_X1_listGoing) 100 = .ok (.iinc 2 1, 3) ∧ decode (zcc m_X1_listGoing) 103 = .ok (.goto (-83), 3) ∧ decode (zcc m_X1_listGoing) 106 = .ok (.iinc 1 1, 3) ∧ decode (zcc m_X1_listGoing) 109 = .ok (.goto (-99), 3) ∧ decode (zcc m_X1_listGoing) 112 = .ok (.return_, 1) := by decide +kernel
theorem d_X1_listGoing_0 : zD m_X1_listGoing 0 (.aload_n 0) 1 1 := ⟨eg_X1_listGoing_0.1, rfl⟩
theorem d_X1_listGoing_1 : zD m_X1_listGoing 1 (.getfield 21) 3 4 := ⟨eg_X1_listGoing_0.2.1, rfl⟩
theorem d_X1_listGoing_4 : zD m_X1_listGoing 4 (.iconst (-1)) 1 5 := ⟨eg_X1_listGoing_0.2.2.1, rfl⟩
theorem d_X1_listGoing_5 : zD m_X1_listGoing 5 (.invokestatic 107) 3 8 := ⟨eg_X1_listGoing_0.2.2.2.1, rfl⟩
theorem d_X1_listGoing_8 : zD m_X1_listGoing 8 (.iconst 0) 1 9 := ⟨eg_X1_listGoing_0.2.2.2.2.1, rfl⟩
theorem d_X1_listGoing_9 : zD m_X1_listGoing 9 (.istore_n 1) 1 10 := ⟨eg_X1_listGoing_0.2.2.2.2.2.1, rfl⟩
theorem d_X1_listGoing_10 : zD m_X1_listGoing 10 (.iload_n 1) 1 11 := ⟨eg_X1_listGoing_0.2.2.2.2.2.2.1, rfl⟩
theorem d_X1_listGoing_11 : zD m_X1_listGoing 11 (.aload_n 0) 1 12 := ⟨eg_X1_listGoing_0.2.2.2.2.2.2.2, rfl⟩
theorem d_X1_listGoing_12 : zD m_X1_listGoing 12 (.getfield 104) 3 15 := ⟨eg_X1_listGoing_8.1, rfl⟩
theorem d_X1_listGoing_15 : zDj m_X1_listGoing 15 (.if_icmp .ge) 18 112 := ⟨97, eg_X1_listGoing_8.2.1, rfl, by decide⟩
theorem d_X1_listGoing_18 : zD m_X1_listGoing 18 (.iconst 1) 1 19 := ⟨eg_X1_listGoing_8.2.2.1, rfl⟩
theorem d_X1_listGoing_19 : zD m_X1_listGoing 19 (.istore_n 2) 1 20 := ⟨eg_X1_listGoing_8.2.2.2.1, rfl⟩
theorem d_X1_listGoing_20 : zD m_X1_listGoing 20 (.iload_n 2) 1 21 := ⟨eg_X1_listGoing_8.2.2.2.2.1, rfl⟩
theorem d_X1_listGoing_21 : zD m_X1_listGoing 21 (.aload_n 0) 1 22 := ⟨eg_X1_listGoing_8.2.2.2.2.2.1, rfl⟩
theorem d_X1_listGoing_22 : zD m_X1_listGoing 22 (.invokevirtual 60) 3 25 := ⟨eg_X1_listGoing_8.2.2.2.2.2.2.1, rfl⟩
theorem d_X1_listGoing_25 : zDj m_X1_listGoing 25 (.if_icmp .ge) 28 106 := ⟨81, eg_X1_listGoing_8.2.2.2.2.2.2.2, rfl, by decide⟩
theorem d_X1_listGoing_28 : zD m_X1_listGoing 28 (.aload_n 0) 1 29 := ⟨eg_X1_listGoing_16.1, rfl⟩
theorem d_X1_listGoing_29 : zD m_X1_listGoing 29 (.aload_n 0) 1 30 := ⟨eg_X1_listGoing_16.2.1, rfl⟩
theorem d_X1_listGoing_30 : zD m_X1_listGoing 30 (.getfield 11) 3 33 := ⟨eg_X1_listGoing_16.2.2.1, rfl⟩
theorem d_X1_listGoing_33 : zD m_X1_listGoing 33 (.iload_n 1) 1 34 := ⟨eg_X1_listGoing_16.2.2.2.1, rfl⟩
theorem d_X1_listGoing_34 : zD m_X1_listGoing 34 (.iaload) 1 35 := ⟨eg_X1_listGoing_16.2.2.2.2.1, rfl⟩
theorem d_X1_listGoing_35 : zD m_X1_listGoing 35 (.aload_n 0) 1 36 := ⟨eg_X1_listGoing_16.2.2.2.2.2.1, rfl⟩
theorem d_X1_listGoing_36 : zD m_X1_listGoing 36 (.getfield 15) 3 39 := ⟨eg_X1_listGoing_16.2.2.2.2.2.2.1, rfl⟩
theorem d_X1_listGoing_39 : zD m_X1_listGoing 39 (.iload_n 1) 1 40 := ⟨eg_X1_listGoing_16.2.2.2.2.2.2.2, rfl⟩
theorem d_X1_listGoing_40 : zD m_X1_listGoing 40 (.iaload) 1 41 := ⟨eg_X1_listGoing_24.1, rfl⟩
theorem d_X1_listGoing_41 : zD m_X1_listGoing 41 (.iload_n 2) 1 42 := ⟨eg_X1_listGoing_24.2.1, rfl⟩
theorem d_X1_listGoing_42 : zD m_X1_listGoing 42 (.invokevirtual 88) 3 45 := ⟨eg_X1_listGoing_24.2.2.1, rfl⟩
theorem d_X1_listGoing_45 : zDj m_X1_listGoing 45 (.ifCond .ne) 48 100 := ⟨55, eg_X1_listGoing_24.2.2.2.1, rfl, by decide⟩
theorem d_X1_listGoing_48 : zD m_X1_listGoing 48 (.aload_n 0) 1 49 := ⟨eg_X1_listGoing_24.2.2.2.2.1, rfl⟩
theorem d_X1_listGoing_49 : zD m_X1_listGoing 49 (.aload_n 0) 1 50 := ⟨eg_X1_listGoing_24.2.2.2.2.2.1, rfl⟩
theorem d_X1_listGoing_50 : zD m_X1_listGoing 50 (.getfield 67) 3 53 := ⟨eg_X1_listGoing_24.2.2.2.2.2.2.1, rfl⟩
theorem d_X1_listGoing_53 : zD m_X1_listGoing 53 (.invokevirtual 95) 3 56 := ⟨eg_X1_listGoing_24.2.2.2.2.2.2.2, rfl⟩
theorem d_X1_listGoing_56 : zD m_X1_listGoing 56 (.istore_n 3) 1 57 := ⟨eg_X1_listGoing_32.1, rfl⟩
theorem d_X1_listGoing_57 : zD m_X1_listGoing 57 (.aload_n 0) 1 58 := ⟨eg_X1_listGoing_32.2.1, rfl⟩
theorem d_X1_listGoing_58 : zD m_X1_listGoing 58 (.getfield 21) 3 61 := ⟨eg_X1_listGoing_32.2.2.1, rfl⟩
theorem d_X1_listGoing_61 : zD m_X1_listGoing 61 (.iload_n 1) 1 62 := ⟨eg_X1_listGoing_32.2.2.2.1, rfl⟩
theorem d_X1_listGoing_62 : zD m_X1_listGoing 62 (.bipush 16) 2 64 := ⟨eg_X1_listGoing_32.2.2.2.2.1, rfl⟩
theorem d_X1_listGoing_64 : zD m_X1_listGoing 64 (.imul) 1 65 := ⟨eg_X1_listGoing_32.2.2.2.2.2.1, rfl⟩
theorem d_X1_listGoing_65 : zD m_X1_listGoing 65 (.iload_n 2) 1 66 := ⟨eg_X1_listGoing_32.2.2.2.2.2.2.1, rfl⟩
theorem d_X1_listGoing_66 : zD m_X1_listGoing 66 (.iadd) 1 67 := ⟨eg_X1_listGoing_32.2.2.2.2.2.2.2, rfl⟩
theorem d_X1_listGoing_67 : zD m_X1_listGoing 67 (.aload_n 0) 1 68 := ⟨eg_X1_listGoing_40.1, rfl⟩
theorem d_X1_listGoing_68 : zD m_X1_listGoing 68 (.getfield 18) 3 71 := ⟨eg_X1_listGoing_40.2.1, rfl⟩
theorem d_X1_listGoing_71 : zD m_X1_listGoing 71 (.iload_n 2) 1 72 := ⟨eg_X1_listGoing_40.2.2.1, rfl⟩
theorem d_X1_listGoing_72 : zD m_X1_listGoing 72 (.iconst 4) 1 73 := ⟨eg_X1_listGoing_40.2.2.2.1, rfl⟩
theorem d_X1_listGoing_73 : zD m_X1_listGoing 73 (.imul) 1 74 := ⟨eg_X1_listGoing_40.2.2.2.2.1, rfl⟩
theorem d_X1_listGoing_74 : zD m_X1_listGoing 74 (.aload_n 0) 1 75 := ⟨eg_X1_listGoing_40.2.2.2.2.2.1, rfl⟩
theorem d_X1_listGoing_75 : zD m_X1_listGoing 75 (.getfield 67) 3 78 := ⟨eg_X1_listGoing_40.2.2.2.2.2.2.1, rfl⟩
theorem d_X1_listGoing_78 : zD m_X1_listGoing 78 (.iadd) 1 79 := ⟨eg_X1_listGoing_40.2.2.2.2.2.2.2, rfl⟩
theorem d_X1_listGoing_79 : zD m_X1_listGoing 79 (.iload_n 3) 1 80 := ⟨eg_X1_listGoing_48.1, rfl⟩
theorem d_X1_listGoing_80 : zD m_X1_listGoing 80 (.aload_n 0) 1 81 := ⟨eg_X1_listGoing_48.2.1, rfl⟩
theorem d_X1_listGoing_81 : zD m_X1_listGoing 81 (.getfield 34) 3 84 := ⟨eg_X1_listGoing_48.2.2.1, rfl⟩
theorem d_X1_listGoing_84 : zD m_X1_listGoing 84 (.imul) 1 85 := ⟨eg_X1_listGoing_48.2.2.2.1, rfl⟩
theorem d_X1_listGoing_85 : zD m_X1_listGoing 85 (.isub) 1 86 := ⟨eg_X1_listGoing_48.2.2.2.2.1, rfl⟩
theorem d_X1_listGoing_86 : zD m_X1_listGoing 86 (.iaload) 1 87 := ⟨eg_X1_listGoing_48.2.2.2.2.2.1, rfl⟩
theorem d_X1_listGoing_87 : zD m_X1_listGoing 87 (.iastore) 1 88 := ⟨eg_X1_listGoing_48.2.2.2.2.2.2.1, rfl⟩
theorem d_X1_listGoing_88 : zD m_X1_listGoing 88 (.aload_n 0) 1 89 := ⟨eg_X1_listGoing_48.2.2.2.2.2.2.2, rfl⟩
theorem d_X1_listGoing_89 : zD m_X1_listGoing 89 (.getfield 24) 3 92 := ⟨eg_X1_listGoing_56.1, rfl⟩
theorem d_X1_listGoing_92 : zD m_X1_listGoing 92 (.iload_n 1) 1 93 := ⟨eg_X1_listGoing_56.2.1, rfl⟩
theorem d_X1_listGoing_93 : zD m_X1_listGoing 93 (.bipush 16) 2 95 := ⟨eg_X1_listGoing_56.2.2.1, rfl⟩
theorem d_X1_listGoing_95 : zD m_X1_listGoing 95 (.imul) 1 96 := ⟨eg_X1_listGoing_56.2.2.2.1, rfl⟩
theorem d_X1_listGoing_96 : zD m_X1_listGoing 96 (.iload_n 2) 1 97 := ⟨eg_X1_listGoing_56.2.2.2.2.1, rfl⟩
theorem d_X1_listGoing_97 : zD m_X1_listGoing 97 (.iadd) 1 98 := ⟨eg_X1_listGoing_56.2.2.2.2.2.1, rfl⟩
theorem d_X1_listGoing_98 : zD m_X1_listGoing 98 (.iload_n 3) 1 99 := ⟨eg_X1_listGoing_56.2.2.2.2.2.2.1, rfl⟩
theorem d_X1_listGoing_99 : zD m_X1_listGoing 99 (.iastore) 1 100 := ⟨eg_X1_listGoing_56.2.2.2.2.2.2.2, rfl⟩
theorem d_X1_listGoing_100 : zD m_X1_listGoing 100 (.iinc 2 1) 3 103 := ⟨eg_X1_listGoing_64.1, rfl⟩
theorem d_X1_listGoing_103 : zDj m_X1_listGoing 103 (.goto) 106 20 := ⟨-83, eg_X1_listGoing_64.2.1, rfl, by decide⟩
theorem d_X1_listGoing_106 : zD m_X1_listGoing 106 (.iinc 1 1) 3 109 := ⟨eg_X1_listGoing_64.2.2.1, rfl⟩
theorem d_X1_listGoing_109 : zDj m_X1_listGoing 109 (.goto) 112 10 := ⟨-99, eg_X1_listGoing_64.2.2.2.1, rfl, by decide⟩
theorem d_X1_listGoing_112 : decode (zcc m_X1_listGoing) 112 = .ok (.return_, 1) := eg_X1_listGoing_64.2.2.2.2
set_option maxRecDepth 20000 in
theorem eg_X1_waysRound_0 : decode (zcc m_X1_waysRound) 0 = .ok (.aload_n 0, 1) ∧ decode (zcc m_X1_waysRound) 1 = .ok (.iload_n 1, 1) ∧ decode (zcc m_X1_waysRound) 2 = .ok (.invokevirtual 113, 3) ∧ decode (zcc m_X1_waysRound) 5 = .ok (.ifCond .ne (5), 3) ∧ decode (zcc m_X1_waysRound) 8 = .ok (.lconst 0, 1) ∧ decode (zcc m_X1_waysRound) 9 = .ok (.lreturn, 1) ∧ decode (zcc m_X1_waysRound) 10 = .ok (.aload_n 0, 1) ∧ decode (zcc m_X1_waysRound) 11 = .ok (.getfield 18, 3) := by decide +kernel
set_option maxRecDepth 20000 in
theorem eg_X1_waysRound_8 : decode (zcc m_X1_waysRound) 14 = .ok (.iload_n 1, 1) ∧ decode (zcc m_X1_waysRound) 15 = .ok (.iconst 4, 1) ∧ decode (zcc m_X1_waysRound) 16 = .ok (.imul, 1) ∧ decode (zcc m_X1_waysRound) 17 = .ok (.aload_n 0, 1) ∧ decode (zcc m_X1_waysRound) 18 = .ok (.iload_n 1, 1) ∧ decode (zcc m_X1_waysRound) 19 = .ok (.invokevirtual 81, 3) ∧ decode (zcc m_X1_waysRound) 22 = .ok (.iadd, 1) ∧ decode (zcc m_X1_waysRound) 23 = .ok (.iaload, 1) := by decide +kernel
set_option maxRecDepth 20000 in
theorem eg_X1_waysRound_16 : decode (zcc m_X1_waysRound) 24 = .ok (.istore 4, 2) ∧ decode (zcc m_X1_waysRound) 26 = .ok (.aload_n 0, 1) ∧ decode (zcc m_X1_waysRound) 27 = .ok (.getfield 27, 3) ∧ decode (zcc m_X1_waysRound) 30 = .ok (.lconst 0, 1) ∧ decode (zcc m_X1_waysRound) 31 = .ok (.invokestatic 117, 3) ∧ decode (zcc m_X1_waysRound) 34 = .ok (.aload_n 0, 1) ∧ decode (zcc m_X1_waysRound) 35 = .ok (.getfield 27, 3) ∧ decode (zcc m_X1_waysRound) 38 = .ok (.iload 4, 2) := by decide +kernel
set_option maxRecDepth 20000 in
theorem eg_X1_waysRound_24 : decode (zcc m_X1_waysRound) 40 = .ok (.bipush 16, 2) ∧ decode (zcc m_X1_waysRound) 42 = .ok (.imul, 1) ∧ decode (zcc m_X1_waysRound) 43 = .ok (.bipush 8, 2) ∧ decode (zcc m_X1_waysRound) 45 = .ok (.iadd, 1) ∧ decode (zcc m_X1_waysRound) 46 = .ok (.lconst 1, 1) ∧ decode (zcc m_X1_waysRound) 47 = .ok (.lastore, 1) ∧ decode (zcc m_X1_waysRound) 48 = .ok (.iconst 1, 1) ∧ decode (zcc m_X1_waysRound) 49 = .ok (.istore 5, 2) := by decide +kernel
set_option maxRecDepth 20000 in
theorem eg_X1_waysRound_32 : decode (zcc m_X1_waysRound) 51 = .ok (.iload 5, 2) ∧ decode (zcc m_X1_waysRound) 53 = .ok (.iload_n 2, 1) ∧ decode (zcc m_X1_waysRound) 54 = .ok (.if_icmp .ge (13), 3) ∧ decode (zcc m_X1_waysRound) 57 = .ok (.aload_n 0, 1) ∧ decode (zcc m_X1_waysRound) 58 = .ok (.invokevirtual 120, 3) ∧ decode (zcc m_X1_waysRound) 61 = .ok (.iinc 5 1, 3) ∧ decode (zcc m_X1_waysRound) 64 = .ok (.goto (-13), 3) ∧ decode (zcc m_X1_waysRound) 67 = .ok (.lconst 0, 1) := by decide +kernel
set_option maxRecDepth 20000 in
theorem eg_X1_waysRound_40 : decode (zcc m_X1_waysRound) 68 = .ok (.lstore 5, 2) ∧ decode (zcc m_X1_waysRound) 70 = .ok (.iconst 0, 1) ∧ decode (zcc m_X1_waysRound) 71 = .ok (.istore 7, 2) ∧ decode (zcc m_X1_waysRound) 73 = .ok (.iload 7, 2) ∧ decode (zcc m_X1_waysRound) 75 = .ok (.aload_n 0, 1) ∧ decode (zcc m_X1_waysRound) 76 = .ok (.getfield 104, 3) ∧ decode (zcc m_X1_waysRound) 79 = .ok (.if_icmp .ge (74), 3) ∧ decode (zcc m_X1_waysRound) 82 = .ok (.iload 7, 2) := by decide +kernel
set_option maxRecDepth 20000 in
theorem eg_X1_waysRound_48 : decode (zcc m_X1_waysRound) 84 = .ok (.bipush 16, 2) ∧ decode (zcc m_X1_waysRound) 86 = .ok (.imul, 1) ∧ decode (zcc m_X1_waysRound) 87 = .ok (.iload_n 1, 1) ∧ decode (zcc m_X1_waysRound) 88 = .ok (.iadd, 1) ∧ decode (zcc m_X1_waysRound) 89 = .ok (.istore 8, 2) ∧ decode (zcc m_X1_waysRound) 91 = .ok (.bipush 8, 2) ∧ decode (zcc m_X1_waysRound) 93 = .ok (.iload_n 3, 1) ∧ decode (zcc m_X1_waysRound) 94 = .ok (.iadd, 1) := by decide +kernel
set_option maxRecDepth 20000 in
theorem eg_X1_waysRound_56 : decode (zcc m_X1_waysRound) 95 = .ok (.aload_n 0, 1) ∧ decode (zcc m_X1_waysRound) 96 = .ok (.getfield 24, 3) ∧ decode (zcc m_X1_waysRound) 99 = .ok (.iload 8, 2) ∧ decode (zcc m_X1_waysRound) 101 = .ok (.iaload, 1) ∧ decode (zcc m_X1_waysRound) 102 = .ok (.isub, 1) ∧ decode (zcc m_X1_waysRound) 103 = .ok (.istore 9, 2) ∧ decode (zcc m_X1_waysRound) 105 = .ok (.aload_n 0, 1) ∧ decode (zcc m_X1_waysRound) 106 = .ok (.getfield 21, 3) := by decide +kernel
set_option maxRecDepth 20000 in
theorem eg_X1_waysRound_64 : decode (zcc m_X1_waysRound) 109 = .ok (.iload 8, 2) ∧ decode (zcc m_X1_waysRound) 111 = .ok (.iaload, 1) ∧ decode (zcc m_X1_waysRound) 112 = .ok (.iload 4, 2) ∧ decode (zcc m_X1_waysRound) 114 = .ok (.if_icmp .ne (33), 3) ∧ decode (zcc m_X1_waysRound) 117 = .ok (.iload 9, 2) ∧ decode (zcc m_X1_waysRound) 119 = .ok (.ifCond .lt (28), 3) ∧ decode (zcc m_X1_waysRound) 122 = .ok (.iload 9, 2) ∧ decode (zcc m_X1_waysRound) 124 = .ok (.bipush 16, 2) := by decide +kernel
set_option maxRecDepth 20000 in
theorem eg_X1_waysRound_72 : decode (zcc m_X1_waysRound) 126 = .ok (.if_icmp .ge (21), 3) ∧ decode (zcc m_X1_waysRound) 129 = .ok (.lload 5, 2) ∧ decode (zcc m_X1_waysRound) 131 = .ok (.aload_n 0, 1) ∧ decode (zcc m_X1_waysRound) 132 = .ok (.getfield 27, 3) ∧ decode (zcc m_X1_waysRound) 135 = .ok (.iload 7, 2) ∧ decode (zcc m_X1_waysRound) 137 = .ok (.bipush 16, 2) ∧ decode (zcc m_X1_waysRound) 139 = .ok (.imul, 1) ∧ decode (zcc m_X1_waysRound) 140 = .ok (.iload 9, 2) := by decide +kernel
set_option maxRecDepth 20000 in
theorem eg_X1_waysRound_80 : decode (zcc m_X1_waysRound) 142 = .ok (.iadd, 1) ∧ decode (zcc m_X1_waysRound) 143 = .ok (.laload, 1) ∧ decode (zcc m_X1_waysRound) 144 = .ok (.ladd, 1) ∧ decode (zcc m_X1_waysRound) 145 = .ok (.lstore 5, 2) ∧ decode (zcc m_X1_waysRound) 147 = .ok (.iinc 7 1, 3) ∧ decode (zcc m_X1_waysRound) 150 = .ok (.goto (-77), 3) ∧ decode (zcc m_X1_waysRound) 153 = .ok (.lload 5, 2) ∧ decode (zcc m_X1_waysRound) 155 = .ok (.lreturn, 1) := by decide +kernel
theorem d_X1_waysRound_0 : zD m_X1_waysRound 0 (.aload_n 0) 1 1 := ⟨eg_X1_waysRound_0.1, rfl⟩
theorem d_X1_waysRound_1 : zD m_X1_waysRound 1 (.iload_n 1) 1 2 := ⟨eg_X1_waysRound_0.2.1, rfl⟩
theorem d_X1_waysRound_2 : zD m_X1_waysRound 2 (.invokevirtual 113) 3 5 := ⟨eg_X1_waysRound_0.2.2.1, rfl⟩
theorem d_X1_waysRound_5 : zDj m_X1_waysRound 5 (.ifCond .ne) 8 10 := ⟨5, eg_X1_waysRound_0.2.2.2.1, rfl, by decide⟩
theorem d_X1_waysRound_8 : zD m_X1_waysRound 8 (.lconst 0) 1 9 := ⟨eg_X1_waysRound_0.2.2.2.2.1, rfl⟩
theorem d_X1_waysRound_9 : decode (zcc m_X1_waysRound) 9 = .ok (.lreturn, 1) := eg_X1_waysRound_0.2.2.2.2.2.1
theorem d_X1_waysRound_10 : zD m_X1_waysRound 10 (.aload_n 0) 1 11 := ⟨eg_X1_waysRound_0.2.2.2.2.2.2.1, rfl⟩
theorem d_X1_waysRound_11 : zD m_X1_waysRound 11 (.getfield 18) 3 14 := ⟨eg_X1_waysRound_0.2.2.2.2.2.2.2, rfl⟩
theorem d_X1_waysRound_14 : zD m_X1_waysRound 14 (.iload_n 1) 1 15 := ⟨eg_X1_waysRound_8.1, rfl⟩
theorem d_X1_waysRound_15 : zD m_X1_waysRound 15 (.iconst 4) 1 16 := ⟨eg_X1_waysRound_8.2.1, rfl⟩
theorem d_X1_waysRound_16 : zD m_X1_waysRound 16 (.imul) 1 17 := ⟨eg_X1_waysRound_8.2.2.1, rfl⟩
theorem d_X1_waysRound_17 : zD m_X1_waysRound 17 (.aload_n 0) 1 18 := ⟨eg_X1_waysRound_8.2.2.2.1, rfl⟩
theorem d_X1_waysRound_18 : zD m_X1_waysRound 18 (.iload_n 1) 1 19 := ⟨eg_X1_waysRound_8.2.2.2.2.1, rfl⟩
theorem d_X1_waysRound_19 : zD m_X1_waysRound 19 (.invokevirtual 81) 3 22 := ⟨eg_X1_waysRound_8.2.2.2.2.2.1, rfl⟩
theorem d_X1_waysRound_22 : zD m_X1_waysRound 22 (.iadd) 1 23 := ⟨eg_X1_waysRound_8.2.2.2.2.2.2.1, rfl⟩
theorem d_X1_waysRound_23 : zD m_X1_waysRound 23 (.iaload) 1 24 := ⟨eg_X1_waysRound_8.2.2.2.2.2.2.2, rfl⟩
theorem d_X1_waysRound_24 : zD m_X1_waysRound 24 (.istore 4) 2 26 := ⟨eg_X1_waysRound_16.1, rfl⟩
theorem d_X1_waysRound_26 : zD m_X1_waysRound 26 (.aload_n 0) 1 27 := ⟨eg_X1_waysRound_16.2.1, rfl⟩
theorem d_X1_waysRound_27 : zD m_X1_waysRound 27 (.getfield 27) 3 30 := ⟨eg_X1_waysRound_16.2.2.1, rfl⟩
theorem d_X1_waysRound_30 : zD m_X1_waysRound 30 (.lconst 0) 1 31 := ⟨eg_X1_waysRound_16.2.2.2.1, rfl⟩
theorem d_X1_waysRound_31 : zD m_X1_waysRound 31 (.invokestatic 117) 3 34 := ⟨eg_X1_waysRound_16.2.2.2.2.1, rfl⟩
theorem d_X1_waysRound_34 : zD m_X1_waysRound 34 (.aload_n 0) 1 35 := ⟨eg_X1_waysRound_16.2.2.2.2.2.1, rfl⟩
theorem d_X1_waysRound_35 : zD m_X1_waysRound 35 (.getfield 27) 3 38 := ⟨eg_X1_waysRound_16.2.2.2.2.2.2.1, rfl⟩
theorem d_X1_waysRound_38 : zD m_X1_waysRound 38 (.iload 4) 2 40 := ⟨eg_X1_waysRound_16.2.2.2.2.2.2.2, rfl⟩
theorem d_X1_waysRound_40 : zD m_X1_waysRound 40 (.bipush 16) 2 42 := ⟨eg_X1_waysRound_24.1, rfl⟩
theorem d_X1_waysRound_42 : zD m_X1_waysRound 42 (.imul) 1 43 := ⟨eg_X1_waysRound_24.2.1, rfl⟩
theorem d_X1_waysRound_43 : zD m_X1_waysRound 43 (.bipush 8) 2 45 := ⟨eg_X1_waysRound_24.2.2.1, rfl⟩
theorem d_X1_waysRound_45 : zD m_X1_waysRound 45 (.iadd) 1 46 := ⟨eg_X1_waysRound_24.2.2.2.1, rfl⟩
theorem d_X1_waysRound_46 : zD m_X1_waysRound 46 (.lconst 1) 1 47 := ⟨eg_X1_waysRound_24.2.2.2.2.1, rfl⟩
theorem d_X1_waysRound_47 : zD m_X1_waysRound 47 (.lastore) 1 48 := ⟨eg_X1_waysRound_24.2.2.2.2.2.1, rfl⟩
theorem d_X1_waysRound_48 : zD m_X1_waysRound 48 (.iconst 1) 1 49 := ⟨eg_X1_waysRound_24.2.2.2.2.2.2.1, rfl⟩
theorem d_X1_waysRound_49 : zD m_X1_waysRound 49 (.istore 5) 2 51 := ⟨eg_X1_waysRound_24.2.2.2.2.2.2.2, rfl⟩
theorem d_X1_waysRound_51 : zD m_X1_waysRound 51 (.iload 5) 2 53 := ⟨eg_X1_waysRound_32.1, rfl⟩
theorem d_X1_waysRound_53 : zD m_X1_waysRound 53 (.iload_n 2) 1 54 := ⟨eg_X1_waysRound_32.2.1, rfl⟩
theorem d_X1_waysRound_54 : zDj m_X1_waysRound 54 (.if_icmp .ge) 57 67 := ⟨13, eg_X1_waysRound_32.2.2.1, rfl, by decide⟩
theorem d_X1_waysRound_57 : zD m_X1_waysRound 57 (.aload_n 0) 1 58 := ⟨eg_X1_waysRound_32.2.2.2.1, rfl⟩
theorem d_X1_waysRound_58 : zD m_X1_waysRound 58 (.invokevirtual 120) 3 61 := ⟨eg_X1_waysRound_32.2.2.2.2.1, rfl⟩
theorem d_X1_waysRound_61 : zD m_X1_waysRound 61 (.iinc 5 1) 3 64 := ⟨eg_X1_waysRound_32.2.2.2.2.2.1, rfl⟩
theorem d_X1_waysRound_64 : zDj m_X1_waysRound 64 (.goto) 67 51 := ⟨-13, eg_X1_waysRound_32.2.2.2.2.2.2.1, rfl, by decide⟩
theorem d_X1_waysRound_67 : zD m_X1_waysRound 67 (.lconst 0) 1 68 := ⟨eg_X1_waysRound_32.2.2.2.2.2.2.2, rfl⟩
theorem d_X1_waysRound_68 : zD m_X1_waysRound 68 (.lstore 5) 2 70 := ⟨eg_X1_waysRound_40.1, rfl⟩
theorem d_X1_waysRound_70 : zD m_X1_waysRound 70 (.iconst 0) 1 71 := ⟨eg_X1_waysRound_40.2.1, rfl⟩
theorem d_X1_waysRound_71 : zD m_X1_waysRound 71 (.istore 7) 2 73 := ⟨eg_X1_waysRound_40.2.2.1, rfl⟩
theorem d_X1_waysRound_73 : zD m_X1_waysRound 73 (.iload 7) 2 75 := ⟨eg_X1_waysRound_40.2.2.2.1, rfl⟩
theorem d_X1_waysRound_75 : zD m_X1_waysRound 75 (.aload_n 0) 1 76 := ⟨eg_X1_waysRound_40.2.2.2.2.1, rfl⟩
theorem d_X1_waysRound_76 : zD m_X1_waysRound 76 (.getfield 104) 3 79 := ⟨eg_X1_waysRound_40.2.2.2.2.2.1, rfl⟩
theorem d_X1_waysRound_79 : zDj m_X1_waysRound 79 (.if_icmp .ge) 82 153 := ⟨74, eg_X1_waysRound_40.2.2.2.2.2.2.1, rfl, by decide⟩
theorem d_X1_waysRound_82 : zD m_X1_waysRound 82 (.iload 7) 2 84 := ⟨eg_X1_waysRound_40.2.2.2.2.2.2.2, rfl⟩
theorem d_X1_waysRound_84 : zD m_X1_waysRound 84 (.bipush 16) 2 86 := ⟨eg_X1_waysRound_48.1, rfl⟩
theorem d_X1_waysRound_86 : zD m_X1_waysRound 86 (.imul) 1 87 := ⟨eg_X1_waysRound_48.2.1, rfl⟩
theorem d_X1_waysRound_87 : zD m_X1_waysRound 87 (.iload_n 1) 1 88 := ⟨eg_X1_waysRound_48.2.2.1, rfl⟩
theorem d_X1_waysRound_88 : zD m_X1_waysRound 88 (.iadd) 1 89 := ⟨eg_X1_waysRound_48.2.2.2.1, rfl⟩
theorem d_X1_waysRound_89 : zD m_X1_waysRound 89 (.istore 8) 2 91 := ⟨eg_X1_waysRound_48.2.2.2.2.1, rfl⟩
theorem d_X1_waysRound_91 : zD m_X1_waysRound 91 (.bipush 8) 2 93 := ⟨eg_X1_waysRound_48.2.2.2.2.2.1, rfl⟩
theorem d_X1_waysRound_93 : zD m_X1_waysRound 93 (.iload_n 3) 1 94 := ⟨eg_X1_waysRound_48.2.2.2.2.2.2.1, rfl⟩
theorem d_X1_waysRound_94 : zD m_X1_waysRound 94 (.iadd) 1 95 := ⟨eg_X1_waysRound_48.2.2.2.2.2.2.2, rfl⟩
theorem d_X1_waysRound_95 : zD m_X1_waysRound 95 (.aload_n 0) 1 96 := ⟨eg_X1_waysRound_56.1, rfl⟩
theorem d_X1_waysRound_96 : zD m_X1_waysRound 96 (.getfield 24) 3 99 := ⟨eg_X1_waysRound_56.2.1, rfl⟩
theorem d_X1_waysRound_99 : zD m_X1_waysRound 99 (.iload 8) 2 101 := ⟨eg_X1_waysRound_56.2.2.1, rfl⟩
theorem d_X1_waysRound_101 : zD m_X1_waysRound 101 (.iaload) 1 102 := ⟨eg_X1_waysRound_56.2.2.2.1, rfl⟩
theorem d_X1_waysRound_102 : zD m_X1_waysRound 102 (.isub) 1 103 := ⟨eg_X1_waysRound_56.2.2.2.2.1, rfl⟩
theorem d_X1_waysRound_103 : zD m_X1_waysRound 103 (.istore 9) 2 105 := ⟨eg_X1_waysRound_56.2.2.2.2.2.1, rfl⟩
theorem d_X1_waysRound_105 : zD m_X1_waysRound 105 (.aload_n 0) 1 106 := ⟨eg_X1_waysRound_56.2.2.2.2.2.2.1, rfl⟩
theorem d_X1_waysRound_106 : zD m_X1_waysRound 106 (.getfield 21) 3 109 := ⟨eg_X1_waysRound_56.2.2.2.2.2.2.2, rfl⟩
theorem d_X1_waysRound_109 : zD m_X1_waysRound 109 (.iload 8) 2 111 := ⟨eg_X1_waysRound_64.1, rfl⟩
theorem d_X1_waysRound_111 : zD m_X1_waysRound 111 (.iaload) 1 112 := ⟨eg_X1_waysRound_64.2.1, rfl⟩
theorem d_X1_waysRound_112 : zD m_X1_waysRound 112 (.iload 4) 2 114 := ⟨eg_X1_waysRound_64.2.2.1, rfl⟩
theorem d_X1_waysRound_114 : zDj m_X1_waysRound 114 (.if_icmp .ne) 117 147 := ⟨33, eg_X1_waysRound_64.2.2.2.1, rfl, by decide⟩
theorem d_X1_waysRound_117 : zD m_X1_waysRound 117 (.iload 9) 2 119 := ⟨eg_X1_waysRound_64.2.2.2.2.1, rfl⟩
theorem d_X1_waysRound_119 : zDj m_X1_waysRound 119 (.ifCond .lt) 122 147 := ⟨28, eg_X1_waysRound_64.2.2.2.2.2.1, rfl, by decide⟩
theorem d_X1_waysRound_122 : zD m_X1_waysRound 122 (.iload 9) 2 124 := ⟨eg_X1_waysRound_64.2.2.2.2.2.2.1, rfl⟩
theorem d_X1_waysRound_124 : zD m_X1_waysRound 124 (.bipush 16) 2 126 := ⟨eg_X1_waysRound_64.2.2.2.2.2.2.2, rfl⟩
theorem d_X1_waysRound_126 : zDj m_X1_waysRound 126 (.if_icmp .ge) 129 147 := ⟨21, eg_X1_waysRound_72.1, rfl, by decide⟩
theorem d_X1_waysRound_129 : zD m_X1_waysRound 129 (.lload 5) 2 131 := ⟨eg_X1_waysRound_72.2.1, rfl⟩
theorem d_X1_waysRound_131 : zD m_X1_waysRound 131 (.aload_n 0) 1 132 := ⟨eg_X1_waysRound_72.2.2.1, rfl⟩
theorem d_X1_waysRound_132 : zD m_X1_waysRound 132 (.getfield 27) 3 135 := ⟨eg_X1_waysRound_72.2.2.2.1, rfl⟩
theorem d_X1_waysRound_135 : zD m_X1_waysRound 135 (.iload 7) 2 137 := ⟨eg_X1_waysRound_72.2.2.2.2.1, rfl⟩
theorem d_X1_waysRound_137 : zD m_X1_waysRound 137 (.bipush 16) 2 139 := ⟨eg_X1_waysRound_72.2.2.2.2.2.1, rfl⟩
theorem d_X1_waysRound_139 : zD m_X1_waysRound 139 (.imul) 1 140 := ⟨eg_X1_waysRound_72.2.2.2.2.2.2.1, rfl⟩
theorem d_X1_waysRound_140 : zD m_X1_waysRound 140 (.iload 9) 2 142 := ⟨eg_X1_waysRound_72.2.2.2.2.2.2.2, rfl⟩
theorem d_X1_waysRound_142 : zD m_X1_waysRound 142 (.iadd) 1 143 := ⟨eg_X1_waysRound_80.1, rfl⟩
theorem d_X1_waysRound_143 : zD m_X1_waysRound 143 (.laload) 1 144 := ⟨eg_X1_waysRound_80.2.1, rfl⟩
theorem d_X1_waysRound_144 : zD m_X1_waysRound 144 (.ladd) 1 145 := ⟨eg_X1_waysRound_80.2.2.1, rfl⟩
theorem d_X1_waysRound_145 : zD m_X1_waysRound 145 (.lstore 5) 2 147 := ⟨eg_X1_waysRound_80.2.2.2.1, rfl⟩
theorem d_X1_waysRound_147 : zD m_X1_waysRound 147 (.iinc 7 1) 3 150 := ⟨eg_X1_waysRound_80.2.2.2.2.1, rfl⟩
theorem d_X1_waysRound_150 : zDj m_X1_waysRound 150 (.goto) 153 73 := ⟨-77, eg_X1_waysRound_80.2.2.2.2.2.1, rfl, by decide⟩
theorem d_X1_waysRound_153 : zD m_X1_waysRound 153 (.lload 5) 2 155 := ⟨eg_X1_waysRound_80.2.2.2.2.2.2.1, rfl⟩
theorem d_X1_waysRound_155 : decode (zcc m_X1_waysRound) 155 = .ok (.lreturn, 1) := eg_X1_waysRound_80.2.2.2.2.2.2.2
set_option maxRecDepth 20000 in
theorem eg_X1_goOnByAWord_0 : decode (zcc m_X1_goOnByAWord) 0 = .ok (.aload_n 0, 1) ∧ decode (zcc m_X1_goOnByAWord) 1 = .ok (.getfield 31, 3) ∧ decode (zcc m_X1_goOnByAWord) 4 = .ok (.lconst 0, 1) ∧ decode (zcc m_X1_goOnByAWord) 5 = .ok (.invokestatic 117, 3) ∧ decode (zcc m_X1_goOnByAWord) 8 = .ok (.iconst 0, 1) ∧ decode (zcc m_X1_goOnByAWord) 9 = .ok (.istore_n 1, 1) ∧ decode (zcc m_X1_goOnByAWord) 10 = .ok (.iload_n 1, 1) ∧ decode (zcc m_X1_goOnByAWord) 11 = .ok (.aload_n 0, 1) := by decide +kernel
set_option maxRecDepth 20000 in
theorem eg_X1_goOnByAWord_8 : decode (zcc m_X1_goOnByAWord) 12 = .ok (.getfield 104, 3) ∧ decode (zcc m_X1_goOnByAWord) 15 = .ok (.if_icmp .ge (58), 3) ∧ decode (zcc m_X1_goOnByAWord) 18 = .ok (.iconst 1, 1) ∧ decode (zcc m_X1_goOnByAWord) 19 = .ok (.istore_n 2, 1) ∧ decode (zcc m_X1_goOnByAWord) 20 = .ok (.iload_n 2, 1) ∧ decode (zcc m_X1_goOnByAWord) 21 = .ok (.aload_n 0, 1) ∧ decode (zcc m_X1_goOnByAWord) 22 = .ok (.invokevirtual 60, 3) ∧ decode (zcc m_X1_goOnByAWord) 25 = .ok (.if_icmp .ge (42), 3) := by decide +kernel
set_option maxRecDepth 20000 in
theorem eg_X1_goOnByAWord_16 : decode (zcc m_X1_goOnByAWord) 28 = .ok (.iload_n 1, 1) ∧ decode (zcc m_X1_goOnByAWord) 29 = .ok (.bipush 16, 2) ∧ decode (zcc m_X1_goOnByAWord) 31 = .ok (.imul, 1) ∧ decode (zcc m_X1_goOnByAWord) 32 = .ok (.iload_n 2, 1) ∧ decode (zcc m_X1_goOnByAWord) 33 = .ok (.iadd, 1) ∧ decode (zcc m_X1_goOnByAWord) 34 = .ok (.istore_n 3, 1) ∧ decode (zcc m_X1_goOnByAWord) 35 = .ok (.aload_n 0, 1) ∧ decode (zcc m_X1_goOnByAWord) 36 = .ok (.getfield 21, 3) := by decide +kernel
set_option maxRecDepth 20000 in
theorem eg_X1_goOnByAWord_24 : decode (zcc m_X1_goOnByAWord) 39 = .ok (.iload_n 3, 1) ∧ decode (zcc m_X1_goOnByAWord) 40 = .ok (.iaload, 1) ∧ decode (zcc m_X1_goOnByAWord) 41 = .ok (.ifCond .lt (20), 3) ∧ decode (zcc m_X1_goOnByAWord) 44 = .ok (.aload_n 0, 1) ∧ decode (zcc m_X1_goOnByAWord) 45 = .ok (.iload_n 1, 1) ∧ decode (zcc m_X1_goOnByAWord) 46 = .ok (.aload_n 0, 1) ∧ decode (zcc m_X1_goOnByAWord) 47 = .ok (.getfield 21, 3) ∧ decode (zcc m_X1_goOnByAWord) 50 = .ok (.iload_n 3, 1) := by decide +kernel
set_option maxRecDepth 20000 in
theorem eg_X1_goOnByAWord_32 : decode (zcc m_X1_goOnByAWord) 51 = .ok (.iaload, 1) ∧ decode (zcc m_X1_goOnByAWord) 52 = .ok (.aload_n 0, 1) ∧ decode (zcc m_X1_goOnByAWord) 53 = .ok (.getfield 24, 3) ∧ decode (zcc m_X1_goOnByAWord) 56 = .ok (.iload_n 3, 1) ∧ decode (zcc m_X1_goOnByAWord) 57 = .ok (.iaload, 1) ∧ decode (zcc m_X1_goOnByAWord) 58 = .ok (.invokevirtual 123, 3) ∧ decode (zcc m_X1_goOnByAWord) 61 = .ok (.iinc 2 1, 3) ∧ decode (zcc m_X1_goOnByAWord) 64 = .ok (.goto (-44), 3) := by decide +kernel
set_option maxRecDepth 20000 in
theorem eg_X1_goOnByAWord_40 : decode (zcc m_X1_goOnByAWord) 67 = .ok (.iinc 1 1, 3) ∧ decode (zcc m_X1_goOnByAWord) 70 = .ok (.goto (-60), 3) ∧ decode (zcc m_X1_goOnByAWord) 73 = .ok (.aload_n 0, 1) ∧ decode (zcc m_X1_goOnByAWord) 74 = .ok (.getfield 27, 3) ∧ decode (zcc m_X1_goOnByAWord) 77 = .ok (.astore_n 1, 1) ∧ decode (zcc m_X1_goOnByAWord) 78 = .ok (.aload_n 0, 1) ∧ decode (zcc m_X1_goOnByAWord) 79 = .ok (.aload_n 0, 1) ∧ decode (zcc m_X1_goOnByAWord) 80 = .ok (.getfield 31, 3) := by decide +kernel
set_option maxRecDepth 20000 in
theorem eg_X1_goOnByAWord_48 : decode (zcc m_X1_goOnByAWord) 83 = .ok (.putfield 27, 3) ∧ decode (zcc m_X1_goOnByAWord) 86 = .ok (.aload_n 0, 1) ∧ decode (zcc m_X1_goOnByAWord) 87 = .ok (.aload_n 1, 1) ∧ decode (zcc m_X1_goOnByAWord) 88 = .ok (.putfield 31, 3) ∧ decode (zcc m_X1_goOnByAWord) 91 = .ok (.return_, 1) := by decide +kernel
theorem d_X1_goOnByAWord_0 : zD m_X1_goOnByAWord 0 (.aload_n 0) 1 1 := ⟨eg_X1_goOnByAWord_0.1, rfl⟩
theorem d_X1_goOnByAWord_1 : zD m_X1_goOnByAWord 1 (.getfield 31) 3 4 := ⟨eg_X1_goOnByAWord_0.2.1, rfl⟩
theorem d_X1_goOnByAWord_4 : zD m_X1_goOnByAWord 4 (.lconst 0) 1 5 := ⟨eg_X1_goOnByAWord_0.2.2.1, rfl⟩
theorem d_X1_goOnByAWord_5 : zD m_X1_goOnByAWord 5 (.invokestatic 117) 3 8 := ⟨eg_X1_goOnByAWord_0.2.2.2.1, rfl⟩
theorem d_X1_goOnByAWord_8 : zD m_X1_goOnByAWord 8 (.iconst 0) 1 9 := ⟨eg_X1_goOnByAWord_0.2.2.2.2.1, rfl⟩
theorem d_X1_goOnByAWord_9 : zD m_X1_goOnByAWord 9 (.istore_n 1) 1 10 := ⟨eg_X1_goOnByAWord_0.2.2.2.2.2.1, rfl⟩
theorem d_X1_goOnByAWord_10 : zD m_X1_goOnByAWord 10 (.iload_n 1) 1 11 := ⟨eg_X1_goOnByAWord_0.2.2.2.2.2.2.1, rfl⟩
theorem d_X1_goOnByAWord_11 : zD m_X1_goOnByAWord 11 (.aload_n 0) 1 12 := ⟨eg_X1_goOnByAWord_0.2.2.2.2.2.2.2, rfl⟩
theorem d_X1_goOnByAWord_12 : zD m_X1_goOnByAWord 12 (.getfield 104) 3 15 := ⟨eg_X1_goOnByAWord_8.1, rfl⟩
theorem d_X1_goOnByAWord_15 : zDj m_X1_goOnByAWord 15 (.if_icmp .ge) 18 73 := ⟨58, eg_X1_goOnByAWord_8.2.1, rfl, by decide⟩
theorem d_X1_goOnByAWord_18 : zD m_X1_goOnByAWord 18 (.iconst 1) 1 19 := ⟨eg_X1_goOnByAWord_8.2.2.1, rfl⟩
theorem d_X1_goOnByAWord_19 : zD m_X1_goOnByAWord 19 (.istore_n 2) 1 20 := ⟨eg_X1_goOnByAWord_8.2.2.2.1, rfl⟩
theorem d_X1_goOnByAWord_20 : zD m_X1_goOnByAWord 20 (.iload_n 2) 1 21 := ⟨eg_X1_goOnByAWord_8.2.2.2.2.1, rfl⟩
theorem d_X1_goOnByAWord_21 : zD m_X1_goOnByAWord 21 (.aload_n 0) 1 22 := ⟨eg_X1_goOnByAWord_8.2.2.2.2.2.1, rfl⟩
theorem d_X1_goOnByAWord_22 : zD m_X1_goOnByAWord 22 (.invokevirtual 60) 3 25 := ⟨eg_X1_goOnByAWord_8.2.2.2.2.2.2.1, rfl⟩
theorem d_X1_goOnByAWord_25 : zDj m_X1_goOnByAWord 25 (.if_icmp .ge) 28 67 := ⟨42, eg_X1_goOnByAWord_8.2.2.2.2.2.2.2, rfl, by decide⟩
theorem d_X1_goOnByAWord_28 : zD m_X1_goOnByAWord 28 (.iload_n 1) 1 29 := ⟨eg_X1_goOnByAWord_16.1, rfl⟩
theorem d_X1_goOnByAWord_29 : zD m_X1_goOnByAWord 29 (.bipush 16) 2 31 := ⟨eg_X1_goOnByAWord_16.2.1, rfl⟩
theorem d_X1_goOnByAWord_31 : zD m_X1_goOnByAWord 31 (.imul) 1 32 := ⟨eg_X1_goOnByAWord_16.2.2.1, rfl⟩
theorem d_X1_goOnByAWord_32 : zD m_X1_goOnByAWord 32 (.iload_n 2) 1 33 := ⟨eg_X1_goOnByAWord_16.2.2.2.1, rfl⟩
theorem d_X1_goOnByAWord_33 : zD m_X1_goOnByAWord 33 (.iadd) 1 34 := ⟨eg_X1_goOnByAWord_16.2.2.2.2.1, rfl⟩
theorem d_X1_goOnByAWord_34 : zD m_X1_goOnByAWord 34 (.istore_n 3) 1 35 := ⟨eg_X1_goOnByAWord_16.2.2.2.2.2.1, rfl⟩
theorem d_X1_goOnByAWord_35 : zD m_X1_goOnByAWord 35 (.aload_n 0) 1 36 := ⟨eg_X1_goOnByAWord_16.2.2.2.2.2.2.1, rfl⟩
theorem d_X1_goOnByAWord_36 : zD m_X1_goOnByAWord 36 (.getfield 21) 3 39 := ⟨eg_X1_goOnByAWord_16.2.2.2.2.2.2.2, rfl⟩
theorem d_X1_goOnByAWord_39 : zD m_X1_goOnByAWord 39 (.iload_n 3) 1 40 := ⟨eg_X1_goOnByAWord_24.1, rfl⟩
theorem d_X1_goOnByAWord_40 : zD m_X1_goOnByAWord 40 (.iaload) 1 41 := ⟨eg_X1_goOnByAWord_24.2.1, rfl⟩
theorem d_X1_goOnByAWord_41 : zDj m_X1_goOnByAWord 41 (.ifCond .lt) 44 61 := ⟨20, eg_X1_goOnByAWord_24.2.2.1, rfl, by decide⟩
theorem d_X1_goOnByAWord_44 : zD m_X1_goOnByAWord 44 (.aload_n 0) 1 45 := ⟨eg_X1_goOnByAWord_24.2.2.2.1, rfl⟩
theorem d_X1_goOnByAWord_45 : zD m_X1_goOnByAWord 45 (.iload_n 1) 1 46 := ⟨eg_X1_goOnByAWord_24.2.2.2.2.1, rfl⟩
theorem d_X1_goOnByAWord_46 : zD m_X1_goOnByAWord 46 (.aload_n 0) 1 47 := ⟨eg_X1_goOnByAWord_24.2.2.2.2.2.1, rfl⟩
theorem d_X1_goOnByAWord_47 : zD m_X1_goOnByAWord 47 (.getfield 21) 3 50 := ⟨eg_X1_goOnByAWord_24.2.2.2.2.2.2.1, rfl⟩
theorem d_X1_goOnByAWord_50 : zD m_X1_goOnByAWord 50 (.iload_n 3) 1 51 := ⟨eg_X1_goOnByAWord_24.2.2.2.2.2.2.2, rfl⟩
theorem d_X1_goOnByAWord_51 : zD m_X1_goOnByAWord 51 (.iaload) 1 52 := ⟨eg_X1_goOnByAWord_32.1, rfl⟩
theorem d_X1_goOnByAWord_52 : zD m_X1_goOnByAWord 52 (.aload_n 0) 1 53 := ⟨eg_X1_goOnByAWord_32.2.1, rfl⟩
theorem d_X1_goOnByAWord_53 : zD m_X1_goOnByAWord 53 (.getfield 24) 3 56 := ⟨eg_X1_goOnByAWord_32.2.2.1, rfl⟩
theorem d_X1_goOnByAWord_56 : zD m_X1_goOnByAWord 56 (.iload_n 3) 1 57 := ⟨eg_X1_goOnByAWord_32.2.2.2.1, rfl⟩
theorem d_X1_goOnByAWord_57 : zD m_X1_goOnByAWord 57 (.iaload) 1 58 := ⟨eg_X1_goOnByAWord_32.2.2.2.2.1, rfl⟩
theorem d_X1_goOnByAWord_58 : zD m_X1_goOnByAWord 58 (.invokevirtual 123) 3 61 := ⟨eg_X1_goOnByAWord_32.2.2.2.2.2.1, rfl⟩
theorem d_X1_goOnByAWord_61 : zD m_X1_goOnByAWord 61 (.iinc 2 1) 3 64 := ⟨eg_X1_goOnByAWord_32.2.2.2.2.2.2.1, rfl⟩
theorem d_X1_goOnByAWord_64 : zDj m_X1_goOnByAWord 64 (.goto) 67 20 := ⟨-44, eg_X1_goOnByAWord_32.2.2.2.2.2.2.2, rfl, by decide⟩
theorem d_X1_goOnByAWord_67 : zD m_X1_goOnByAWord 67 (.iinc 1 1) 3 70 := ⟨eg_X1_goOnByAWord_40.1, rfl⟩
theorem d_X1_goOnByAWord_70 : zDj m_X1_goOnByAWord 70 (.goto) 73 10 := ⟨-60, eg_X1_goOnByAWord_40.2.1, rfl, by decide⟩
theorem d_X1_goOnByAWord_73 : zD m_X1_goOnByAWord 73 (.aload_n 0) 1 74 := ⟨eg_X1_goOnByAWord_40.2.2.1, rfl⟩
theorem d_X1_goOnByAWord_74 : zD m_X1_goOnByAWord 74 (.getfield 27) 3 77 := ⟨eg_X1_goOnByAWord_40.2.2.2.1, rfl⟩
theorem d_X1_goOnByAWord_77 : zD m_X1_goOnByAWord 77 (.astore_n 1) 1 78 := ⟨eg_X1_goOnByAWord_40.2.2.2.2.1, rfl⟩
theorem d_X1_goOnByAWord_78 : zD m_X1_goOnByAWord 78 (.aload_n 0) 1 79 := ⟨eg_X1_goOnByAWord_40.2.2.2.2.2.1, rfl⟩
theorem d_X1_goOnByAWord_79 : zD m_X1_goOnByAWord 79 (.aload_n 0) 1 80 := ⟨eg_X1_goOnByAWord_40.2.2.2.2.2.2.1, rfl⟩
theorem d_X1_goOnByAWord_80 : zD m_X1_goOnByAWord 80 (.getfield 31) 3 83 := ⟨eg_X1_goOnByAWord_40.2.2.2.2.2.2.2, rfl⟩
theorem d_X1_goOnByAWord_83 : zD m_X1_goOnByAWord 83 (.putfield 27) 3 86 := ⟨eg_X1_goOnByAWord_48.1, rfl⟩
theorem d_X1_goOnByAWord_86 : zD m_X1_goOnByAWord 86 (.aload_n 0) 1 87 := ⟨eg_X1_goOnByAWord_48.2.1, rfl⟩
theorem d_X1_goOnByAWord_87 : zD m_X1_goOnByAWord 87 (.aload_n 1) 1 88 := ⟨eg_X1_goOnByAWord_48.2.2.1, rfl⟩
theorem d_X1_goOnByAWord_88 : zD m_X1_goOnByAWord 88 (.putfield 31) 3 91 := ⟨eg_X1_goOnByAWord_48.2.2.2.1, rfl⟩
theorem d_X1_goOnByAWord_91 : decode (zcc m_X1_goOnByAWord) 91 = .ok (.return_, 1) := eg_X1_goOnByAWord_48.2.2.2.2
set_option maxRecDepth 20000 in
theorem eg_X1_addWays_0 : decode (zcc m_X1_addWays) 0 = .ok (.iconst 0, 1) ∧ decode (zcc m_X1_addWays) 1 = .ok (.iload_n 3, 1) ∧ decode (zcc m_X1_addWays) 2 = .ok (.ineg, 1) ∧ decode (zcc m_X1_addWays) 3 = .ok (.invokestatic 127, 3) ∧ decode (zcc m_X1_addWays) 6 = .ok (.istore 4, 2) ∧ decode (zcc m_X1_addWays) 8 = .ok (.iload 4, 2) ∧ decode (zcc m_X1_addWays) 10 = .ok (.bipush 16, 2) ∧ decode (zcc m_X1_addWays) 12 = .ok (.if_icmp .ge (47), 3) := by decide +kernel
set_option maxRecDepth 20000 in
theorem eg_X1_addWays_8 : decode (zcc m_X1_addWays) 15 = .ok (.iload 4, 2) ∧ decode (zcc m_X1_addWays) 17 = .ok (.iload_n 3, 1) ∧ decode (zcc m_X1_addWays) 18 = .ok (.iadd, 1) ∧ decode (zcc m_X1_addWays) 19 = .ok (.bipush 16, 2) ∧ decode (zcc m_X1_addWays) 21 = .ok (.if_icmp .ge (38), 3) ∧ decode (zcc m_X1_addWays) 24 = .ok (.aload_n 0, 1) ∧ decode (zcc m_X1_addWays) 25 = .ok (.getfield 31, 3) ∧ decode (zcc m_X1_addWays) 28 = .ok (.iload_n 2, 1) := by decide +kernel
set_option maxRecDepth 20000 in
theorem eg_X1_addWays_16 : decode (zcc m_X1_addWays) 29 = .ok (.bipush 16, 2) ∧ decode (zcc m_X1_addWays) 31 = .ok (.imul, 1) ∧ decode (zcc m_X1_addWays) 32 = .ok (.iload 4, 2) ∧ decode (zcc m_X1_addWays) 34 = .ok (.iadd, 1) ∧ decode (zcc m_X1_addWays) 35 = .ok (.iload_n 3, 1) ∧ decode (zcc m_X1_addWays) 36 = .ok (.iadd, 1) ∧ decode (zcc m_X1_addWays) 37 = .ok (.dup2, 1) ∧ decode (zcc m_X1_addWays) 38 = .ok (.laload, 1) := by decide +kernel
set_option maxRecDepth 20000 in
theorem eg_X1_addWays_24 : decode (zcc m_X1_addWays) 39 = .ok (.aload_n 0, 1) ∧ decode (zcc m_X1_addWays) 40 = .ok (.getfield 27, 3) ∧ decode (zcc m_X1_addWays) 43 = .ok (.iload_n 1, 1) ∧ decode (zcc m_X1_addWays) 44 = .ok (.bipush 16, 2) ∧ decode (zcc m_X1_addWays) 46 = .ok (.imul, 1) ∧ decode (zcc m_X1_addWays) 47 = .ok (.iload 4, 2) ∧ decode (zcc m_X1_addWays) 49 = .ok (.iadd, 1) ∧ decode (zcc m_X1_addWays) 50 = .ok (.laload, 1) := by decide +kernel
set_option maxRecDepth 20000 in
theorem eg_X1_addWays_32 : decode (zcc m_X1_addWays) 51 = .ok (.ladd, 1) ∧ decode (zcc m_X1_addWays) 52 = .ok (.lastore, 1) ∧ decode (zcc m_X1_addWays) 53 = .ok (.iinc 4 1, 3) ∧ decode (zcc m_X1_addWays) 56 = .ok (.goto (-48), 3) ∧ decode (zcc m_X1_addWays) 59 = .ok (.return_, 1) := by decide +kernel
theorem d_X1_addWays_0 : zD m_X1_addWays 0 (.iconst 0) 1 1 := ⟨eg_X1_addWays_0.1, rfl⟩
theorem d_X1_addWays_1 : zD m_X1_addWays 1 (.iload_n 3) 1 2 := ⟨eg_X1_addWays_0.2.1, rfl⟩
theorem d_X1_addWays_2 : zD m_X1_addWays 2 (.ineg) 1 3 := ⟨eg_X1_addWays_0.2.2.1, rfl⟩
theorem d_X1_addWays_3 : zD m_X1_addWays 3 (.invokestatic 127) 3 6 := ⟨eg_X1_addWays_0.2.2.2.1, rfl⟩
theorem d_X1_addWays_6 : zD m_X1_addWays 6 (.istore 4) 2 8 := ⟨eg_X1_addWays_0.2.2.2.2.1, rfl⟩
theorem d_X1_addWays_8 : zD m_X1_addWays 8 (.iload 4) 2 10 := ⟨eg_X1_addWays_0.2.2.2.2.2.1, rfl⟩
theorem d_X1_addWays_10 : zD m_X1_addWays 10 (.bipush 16) 2 12 := ⟨eg_X1_addWays_0.2.2.2.2.2.2.1, rfl⟩
theorem d_X1_addWays_12 : zDj m_X1_addWays 12 (.if_icmp .ge) 15 59 := ⟨47, eg_X1_addWays_0.2.2.2.2.2.2.2, rfl, by decide⟩
theorem d_X1_addWays_15 : zD m_X1_addWays 15 (.iload 4) 2 17 := ⟨eg_X1_addWays_8.1, rfl⟩
theorem d_X1_addWays_17 : zD m_X1_addWays 17 (.iload_n 3) 1 18 := ⟨eg_X1_addWays_8.2.1, rfl⟩
theorem d_X1_addWays_18 : zD m_X1_addWays 18 (.iadd) 1 19 := ⟨eg_X1_addWays_8.2.2.1, rfl⟩
theorem d_X1_addWays_19 : zD m_X1_addWays 19 (.bipush 16) 2 21 := ⟨eg_X1_addWays_8.2.2.2.1, rfl⟩
theorem d_X1_addWays_21 : zDj m_X1_addWays 21 (.if_icmp .ge) 24 59 := ⟨38, eg_X1_addWays_8.2.2.2.2.1, rfl, by decide⟩
theorem d_X1_addWays_24 : zD m_X1_addWays 24 (.aload_n 0) 1 25 := ⟨eg_X1_addWays_8.2.2.2.2.2.1, rfl⟩
theorem d_X1_addWays_25 : zD m_X1_addWays 25 (.getfield 31) 3 28 := ⟨eg_X1_addWays_8.2.2.2.2.2.2.1, rfl⟩
theorem d_X1_addWays_28 : zD m_X1_addWays 28 (.iload_n 2) 1 29 := ⟨eg_X1_addWays_8.2.2.2.2.2.2.2, rfl⟩
theorem d_X1_addWays_29 : zD m_X1_addWays 29 (.bipush 16) 2 31 := ⟨eg_X1_addWays_16.1, rfl⟩
theorem d_X1_addWays_31 : zD m_X1_addWays 31 (.imul) 1 32 := ⟨eg_X1_addWays_16.2.1, rfl⟩
theorem d_X1_addWays_32 : zD m_X1_addWays 32 (.iload 4) 2 34 := ⟨eg_X1_addWays_16.2.2.1, rfl⟩
theorem d_X1_addWays_34 : zD m_X1_addWays 34 (.iadd) 1 35 := ⟨eg_X1_addWays_16.2.2.2.1, rfl⟩
theorem d_X1_addWays_35 : zD m_X1_addWays 35 (.iload_n 3) 1 36 := ⟨eg_X1_addWays_16.2.2.2.2.1, rfl⟩
theorem d_X1_addWays_36 : zD m_X1_addWays 36 (.iadd) 1 37 := ⟨eg_X1_addWays_16.2.2.2.2.2.1, rfl⟩
theorem d_X1_addWays_37 : zD m_X1_addWays 37 (.dup2) 1 38 := ⟨eg_X1_addWays_16.2.2.2.2.2.2.1, rfl⟩
theorem d_X1_addWays_38 : zD m_X1_addWays 38 (.laload) 1 39 := ⟨eg_X1_addWays_16.2.2.2.2.2.2.2, rfl⟩
theorem d_X1_addWays_39 : zD m_X1_addWays 39 (.aload_n 0) 1 40 := ⟨eg_X1_addWays_24.1, rfl⟩
theorem d_X1_addWays_40 : zD m_X1_addWays 40 (.getfield 27) 3 43 := ⟨eg_X1_addWays_24.2.1, rfl⟩
theorem d_X1_addWays_43 : zD m_X1_addWays 43 (.iload_n 1) 1 44 := ⟨eg_X1_addWays_24.2.2.1, rfl⟩
theorem d_X1_addWays_44 : zD m_X1_addWays 44 (.bipush 16) 2 46 := ⟨eg_X1_addWays_24.2.2.2.1, rfl⟩
theorem d_X1_addWays_46 : zD m_X1_addWays 46 (.imul) 1 47 := ⟨eg_X1_addWays_24.2.2.2.2.1, rfl⟩
theorem d_X1_addWays_47 : zD m_X1_addWays 47 (.iload 4) 2 49 := ⟨eg_X1_addWays_24.2.2.2.2.2.1, rfl⟩
theorem d_X1_addWays_49 : zD m_X1_addWays 49 (.iadd) 1 50 := ⟨eg_X1_addWays_24.2.2.2.2.2.2.1, rfl⟩
theorem d_X1_addWays_50 : zD m_X1_addWays 50 (.laload) 1 51 := ⟨eg_X1_addWays_24.2.2.2.2.2.2.2, rfl⟩
theorem d_X1_addWays_51 : zD m_X1_addWays 51 (.ladd) 1 52 := ⟨eg_X1_addWays_32.1, rfl⟩
theorem d_X1_addWays_52 : zD m_X1_addWays 52 (.lastore) 1 53 := ⟨eg_X1_addWays_32.2.1, rfl⟩
theorem d_X1_addWays_53 : zD m_X1_addWays 53 (.iinc 4 1) 3 56 := ⟨eg_X1_addWays_32.2.2.1, rfl⟩
theorem d_X1_addWays_56 : zDj m_X1_addWays 56 (.goto) 59 8 := ⟨-48, eg_X1_addWays_32.2.2.2.1, rfl, by decide⟩
theorem d_X1_addWays_59 : decode (zcc m_X1_addWays) 59 = .ok (.return_, 1) := eg_X1_addWays_32.2.2.2.2
