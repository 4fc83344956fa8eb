set_option maxRecDepth 20000 in
theorem eg_J9_floorDiv_7cf53_0 : decode (zcc m_J9_floorDiv_7cf53) 0 = .ok (.iload_n 0, 1) ∧ decode (zcc m_J9_floorDiv_7cf53) 1 = .ok (.iload_n 1, 1) ∧ decode (zcc m_J9_floorDiv_7cf53) 2 = .ok (.idiv, 1) ∧ decode (zcc m_J9_floorDiv_7cf53) 3 = .ok (.istore_n 2, 1) ∧ decode (zcc m_J9_floorDiv_7cf53) 4 = .ok (.iload_n 0, 1) ∧ decode (zcc m_J9_floorDiv_7cf53) 5 = .ok (.iload_n 1, 1) ∧ decode (zcc m_J9_floorDiv_7cf53) 6 = .ok (.ixor, 1) ∧ decode (zcc m_J9_floorDiv_7cf53) 7 = .ok (.ifCond .ge (14), 3) := by decide +kernel
set_option maxRecDepth 20000 in
theorem eg_J9_floorDiv_7cf53_8 : decode (zcc m_J9_floorDiv_7cf53) 10 = .ok (.iload_n 2, 1) ∧ decode (zcc m_J9_floorDiv_7cf53) 11 = .ok (.iload_n 1, 1) ∧ decode (zcc m_J9_floorDiv_7cf53) 12 = .ok (.imul, 1) ∧ decode (zcc m_J9_floorDiv_7cf53) 13 = .ok (.iload_n 0, 1) ∧ decode (zcc m_J9_floorDiv_7cf53) 14 = .ok (.if_icmp .eq (7), 3) ∧ decode (zcc m_J9_floorDiv_7cf53) 17 = .ok (.iload_n 2, 1) ∧ decode (zcc m_J9_floorDiv_7cf53) 18 = .ok (.iconst 1, 1) ∧ decode (zcc m_J9_floorDiv_7cf53) 19 = .ok (.isub, 1) := by decide +kernel
set_option maxRecDepth 20000 in
theorem eg_J9_floorDiv_7cf53_16 : decode (zcc m_J9_floorDiv_7cf53) 20 = .ok (.ireturn, 1) ∧ decode (zcc m_J9_floorDiv_7cf53) 21 = .ok (.iload_n 2, 1) ∧ decode (zcc m_J9_floorDiv_7cf53) 22 = .ok (.ireturn, 1) := by decide +kernel
theorem d_J9_floorDiv_7cf53_0 : zD m_J9_floorDiv_7cf53 0 (.iload_n 0) 1 1 := ⟨eg_J9_floorDiv_7cf53_0.1, rfl⟩
theorem d_J9_floorDiv_7cf53_1 : zD m_J9_floorDiv_7cf53 1 (.iload_n 1) 1 2 := ⟨eg_J9_floorDiv_7cf53_0.2.1, rfl⟩
theorem d_J9_floorDiv_7cf53_2 : zD m_J9_floorDiv_7cf53 2 (.idiv) 1 3 := ⟨eg_J9_floorDiv_7cf53_0.2.2.1, rfl⟩
theorem d_J9_floorDiv_7cf53_3 : zD m_J9_floorDiv_7cf53 3 (.istore_n 2) 1 4 := ⟨eg_J9_floorDiv_7cf53_0.2.2.2.1, rfl⟩
theorem d_J9_floorDiv_7cf53_4 : zD m_J9_floorDiv_7cf53 4 (.iload_n 0) 1 5 := ⟨eg_J9_floorDiv_7cf53_0.2.2.2.2.1, rfl⟩
theorem d_J9_floorDiv_7cf53_5 : zD m_J9_floorDiv_7cf53 5 (.iload_n 1) 1 6 := ⟨eg_J9_floorDiv_7cf53_0.2.2.2.2.2.1, rfl⟩
theorem d_J9_floorDiv_7cf53_6 : zD m_J9_floorDiv_7cf53 6 (.ixor) 1 7 := ⟨eg_J9_floorDiv_7cf53_0.2.2.2.2.2.2.1, rfl⟩
theorem d_J9_floorDiv_7cf53_7 : zDj m_J9_floorDiv_7cf53 7 (.ifCond .ge) 10 21 := ⟨14, eg_J9_floorDiv_7cf53_0.2.2.2.2.2.2.2, rfl, by decide⟩
theorem d_J9_floorDiv_7cf53_10 : zD m_J9_floorDiv_7cf53 10 (.iload_n 2) 1 11 := ⟨eg_J9_floorDiv_7cf53_8.1, rfl⟩
theorem d_J9_floorDiv_7cf53_11 : zD m_J9_floorDiv_7cf53 11 (.iload_n 1) 1 12 := ⟨eg_J9_floorDiv_7cf53_8.2.1, rfl⟩
theorem d_J9_floorDiv_7cf53_12 : zD m_J9_floorDiv_7cf53 12 (.imul) 1 13 := ⟨eg_J9_floorDiv_7cf53_8.2.2.1, rfl⟩
theorem d_J9_floorDiv_7cf53_13 : zD m_J9_floorDiv_7cf53 13 (.iload_n 0) 1 14 := ⟨eg_J9_floorDiv_7cf53_8.2.2.2.1, rfl⟩
theorem d_J9_floorDiv_7cf53_14 : zDj m_J9_floorDiv_7cf53 14 (.if_icmp .eq) 17 21 := ⟨7, eg_J9_floorDiv_7cf53_8.2.2.2.2.1, rfl, by decide⟩
theorem d_J9_floorDiv_7cf53_17 : zD m_J9_floorDiv_7cf53 17 (.iload_n 2) 1 18 := ⟨eg_J9_floorDiv_7cf53_8.2.2.2.2.2.1, rfl⟩
theorem d_J9_floorDiv_7cf53_18 : zD m_J9_floorDiv_7cf53 18 (.iconst 1) 1 19 := ⟨eg_J9_floorDiv_7cf53_8.2.2.2.2.2.2.1, rfl⟩
theorem d_J9_floorDiv_7cf53_19 : zD m_J9_floorDiv_7cf53 19 (.isub) 1 20 := ⟨eg_J9_floorDiv_7cf53_8.2.2.2.2.2.2.2, rfl⟩
theorem d_J9_floorDiv_7cf53_20 : decode (zcc m_J9_floorDiv_7cf53) 20 = .ok (.ireturn, 1) := eg_J9_floorDiv_7cf53_16.1
theorem d_J9_floorDiv_7cf53_21 : zD m_J9_floorDiv_7cf53 21 (.iload_n 2) 1 22 := ⟨eg_J9_floorDiv_7cf53_16.2.1, rfl⟩
theorem d_J9_floorDiv_7cf53_22 : decode (zcc m_J9_floorDiv_7cf53) 22 = .ok (.ireturn, 1) := eg_J9_floorDiv_7cf53_16.2.2
set_option maxRecDepth 20000 in
theorem eg_J9_floorMod_7cf53_0 : decode (zcc m_J9_floorMod_7cf53) 0 = .ok (.iload_n 0, 1) ∧ decode (zcc m_J9_floorMod_7cf53) 1 = .ok (.iload_n 1, 1) ∧ decode (zcc m_J9_floorMod_7cf53) 2 = .ok (.irem, 1) ∧ decode (zcc m_J9_floorMod_7cf53) 3 = .ok (.istore_n 2, 1) ∧ decode (zcc m_J9_floorMod_7cf53) 4 = .ok (.iload_n 0, 1) ∧ decode (zcc m_J9_floorMod_7cf53) 5 = .ok (.iload_n 1, 1) ∧ decode (zcc m_J9_floorMod_7cf53) 6 = .ok (.ixor, 1) ∧ decode (zcc m_J9_floorMod_7cf53) 7 = .ok (.ifCond .ge (11), 3) := by decide +kernel
set_option maxRecDepth 20000 in
theorem eg_J9_floorMod_7cf53_8 : decode (zcc m_J9_floorMod_7cf53) 10 = .ok (.iload_n 2, 1) ∧ decode (zcc m_J9_floorMod_7cf53) 11 = .ok (.ifCond .eq (7), 3) ∧ decode (zcc m_J9_floorMod_7cf53) 14 = .ok (.iload_n 2, 1) ∧ decode (zcc m_J9_floorMod_7cf53) 15 = .ok (.iload_n 1, 1) ∧ decode (zcc m_J9_floorMod_7cf53) 16 = .ok (.iadd, 1) ∧ decode (zcc m_J9_floorMod_7cf53) 17 = .ok (.ireturn, 1) ∧ decode (zcc m_J9_floorMod_7cf53) 18 = .ok (.iload_n 2, 1) ∧ decode (zcc m_J9_floorMod_7cf53) 19 = .ok (.ireturn, 1) := by decide +kernel
theorem d_J9_floorMod_7cf53_0 : zD m_J9_floorMod_7cf53 0 (.iload_n 0) 1 1 := ⟨eg_J9_floorMod_7cf53_0.1, rfl⟩
theorem d_J9_floorMod_7cf53_1 : zD m_J9_floorMod_7cf53 1 (.iload_n 1) 1 2 := ⟨eg_J9_floorMod_7cf53_0.2.1, rfl⟩
theorem d_J9_floorMod_7cf53_2 : zD m_J9_floorMod_7cf53 2 (.irem) 1 3 := ⟨eg_J9_floorMod_7cf53_0.2.2.1, rfl⟩
theorem d_J9_floorMod_7cf53_3 : zD m_J9_floorMod_7cf53 3 (.istore_n 2) 1 4 := ⟨eg_J9_floorMod_7cf53_0.2.2.2.1, rfl⟩
theorem d_J9_floorMod_7cf53_4 : zD m_J9_floorMod_7cf53 4 (.iload_n 0) 1 5 := ⟨eg_J9_floorMod_7cf53_0.2.2.2.2.1, rfl⟩
theorem d_J9_floorMod_7cf53_5 : zD m_J9_floorMod_7cf53 5 (.iload_n 1) 1 6 := ⟨eg_J9_floorMod_7cf53_0.2.2.2.2.2.1, rfl⟩
theorem d_J9_floorMod_7cf53_6 : zD m_J9_floorMod_7cf53 6 (.ixor) 1 7 := ⟨eg_J9_floorMod_7cf53_0.2.2.2.2.2.2.1, rfl⟩
theorem d_J9_floorMod_7cf53_7 : zDj m_J9_floorMod_7cf53 7 (.ifCond .ge) 10 18 := ⟨11, eg_J9_floorMod_7cf53_0.2.2.2.2.2.2.2, rfl, by decide⟩
theorem d_J9_floorMod_7cf53_10 : zD m_J9_floorMod_7cf53 10 (.iload_n 2) 1 11 := ⟨eg_J9_floorMod_7cf53_8.1, rfl⟩
theorem d_J9_floorMod_7cf53_11 : zDj m_J9_floorMod_7cf53 11 (.ifCond .eq) 14 18 := ⟨7, eg_J9_floorMod_7cf53_8.2.1, rfl, by decide⟩
theorem d_J9_floorMod_7cf53_14 : zD m_J9_floorMod_7cf53 14 (.iload_n 2) 1 15 := ⟨eg_J9_floorMod_7cf53_8.2.2.1, rfl⟩
theorem d_J9_floorMod_7cf53_15 : zD m_J9_floorMod_7cf53 15 (.iload_n 1) 1 16 := ⟨eg_J9_floorMod_7cf53_8.2.2.2.1, rfl⟩
theorem d_J9_floorMod_7cf53_16 : zD m_J9_floorMod_7cf53 16 (.iadd) 1 17 := ⟨eg_J9_floorMod_7cf53_8.2.2.2.2.1, rfl⟩
theorem d_J9_floorMod_7cf53_17 : decode (zcc m_J9_floorMod_7cf53) 17 = .ok (.ireturn, 1) := eg_J9_floorMod_7cf53_8.2.2.2.2.2.1
theorem d_J9_floorMod_7cf53_18 : zD m_J9_floorMod_7cf53 18 (.iload_n 2) 1 19 := ⟨eg_J9_floorMod_7cf53_8.2.2.2.2.2.2.1, rfl⟩
theorem d_J9_floorMod_7cf53_19 : decode (zcc m_J9_floorMod_7cf53) 19 = .ok (.ireturn, 1) := eg_J9_floorMod_7cf53_8.2.2.2.2.2.2.2
set_option maxRecDepth 20000 in
theorem eg_J0_length_8abf5_0 : decode (zcc m_J0_length_8abf5) 0 = .ok (.aload_n 0, 1) ∧ decode (zcc m_J0_length_8abf5) 1 = .ok (.getfield 9, 3) ∧ decode (zcc m_J0_length_8abf5) 4 = .ok (.arraylength, 1) ∧ decode (zcc m_J0_length_8abf5) 5 = .ok (.aload_n 0, 1) ∧ decode (zcc m_J0_length_8abf5) 6 = .ok (.invokevirtual 335, 3) ∧ decode (zcc m_J0_length_8abf5) 9 = .ok (.ishr, 1) ∧ decode (zcc m_J0_length_8abf5) 10 = .ok (.ireturn, 1) := by decide +kernel
theorem d_J0_length_8abf5_0 : zD m_J0_length_8abf5 0 (.aload_n 0) 1 1 := ⟨eg_J0_length_8abf5_0.1, rfl⟩
theorem d_J0_length_8abf5_1 : zD m_J0_length_8abf5 1 (.getfield 9) 3 4 := ⟨eg_J0_length_8abf5_0.2.1, rfl⟩
theorem d_J0_length_8abf5_4 : zD m_J0_length_8abf5 4 (.arraylength) 1 5 := ⟨eg_J0_length_8abf5_0.2.2.1, rfl⟩
theorem d_J0_length_8abf5_5 : zD m_J0_length_8abf5 5 (.aload_n 0) 1 6 := ⟨eg_J0_length_8abf5_0.2.2.2.1, rfl⟩
theorem d_J0_length_8abf5_6 : zD m_J0_length_8abf5 6 (.invokevirtual 335) 3 9 := ⟨eg_J0_length_8abf5_0.2.2.2.2.1, rfl⟩
theorem d_J0_length_8abf5_9 : zD m_J0_length_8abf5 9 (.ishr) 1 10 := ⟨eg_J0_length_8abf5_0.2.2.2.2.2.1, rfl⟩
theorem d_J0_length_8abf5_10 : decode (zcc m_J0_length_8abf5) 10 = .ok (.ireturn, 1) := eg_J0_length_8abf5_0.2.2.2.2.2.2
set_option maxRecDepth 20000 in
theorem eg_J0_charAt_5068e_0 : decode (zcc m_J0_charAt_5068e) 0 = .ok (.aload_n 0, 1) ∧ decode (zcc m_J0_charAt_5068e) 1 = .ok (.invokevirtual 492, 3) ∧ decode (zcc m_J0_charAt_5068e) 4 = .ok (.ifCond .eq (12), 3) ∧ decode (zcc m_J0_charAt_5068e) 7 = .ok (.aload_n 0, 1) ∧ decode (zcc m_J0_charAt_5068e) 8 = .ok (.getfield 9, 3) ∧ decode (zcc m_J0_charAt_5068e) 11 = .ok (.iload_n 1, 1) ∧ decode (zcc m_J0_charAt_5068e) 12 = .ok (.invokestatic 495, 3) ∧ decode (zcc m_J0_charAt_5068e) 15 = .ok (.ireturn, 1) := by decide +kernel
set_option maxRecDepth 20000 in
theorem eg_J0_charAt_5068e_8 : decode (zcc m_J0_charAt_5068e) 16 = .ok (.aload_n 0, 1) ∧ decode (zcc m_J0_charAt_5068e) 17 = .ok (.getfield 9, 3) ∧ decode (zcc m_J0_charAt_5068e) 20 = .ok (.iload_n 1, 1) ∧ decode (zcc m_J0_charAt_5068e) 21 = .ok (.invokestatic 498, 3) ∧ decode (zcc m_J0_charAt_5068e) 24 = .ok (.ireturn, 1) := by decide +kernel
theorem d_J0_charAt_5068e_0 : zD m_J0_charAt_5068e 0 (.aload_n 0) 1 1 := ⟨eg_J0_charAt_5068e_0.1, rfl⟩
theorem d_J0_charAt_5068e_1 : zD m_J0_charAt_5068e 1 (.invokevirtual 492) 3 4 := ⟨eg_J0_charAt_5068e_0.2.1, rfl⟩
theorem d_J0_charAt_5068e_4 : zDj m_J0_charAt_5068e 4 (.ifCond .eq) 7 16 := ⟨12, eg_J0_charAt_5068e_0.2.2.1, rfl, by decide⟩
theorem d_J0_charAt_5068e_7 : zD m_J0_charAt_5068e 7 (.aload_n 0) 1 8 := ⟨eg_J0_charAt_5068e_0.2.2.2.1, rfl⟩
theorem d_J0_charAt_5068e_8 : zD m_J0_charAt_5068e 8 (.getfield 9) 3 11 := ⟨eg_J0_charAt_5068e_0.2.2.2.2.1, rfl⟩
theorem d_J0_charAt_5068e_11 : zD m_J0_charAt_5068e 11 (.iload_n 1) 1 12 := ⟨eg_J0_charAt_5068e_0.2.2.2.2.2.1, rfl⟩
theorem d_J0_charAt_5068e_12 : zD m_J0_charAt_5068e 12 (.invokestatic 495) 3 15 := ⟨eg_J0_charAt_5068e_0.2.2.2.2.2.2.1, rfl⟩
theorem d_J0_charAt_5068e_15 : decode (zcc m_J0_charAt_5068e) 15 = .ok (.ireturn, 1) := eg_J0_charAt_5068e_0.2.2.2.2.2.2.2
theorem d_J0_charAt_5068e_16 : zD m_J0_charAt_5068e 16 (.aload_n 0) 1 17 := ⟨eg_J0_charAt_5068e_8.1, rfl⟩
theorem d_J0_charAt_5068e_17 : zD m_J0_charAt_5068e 17 (.getfield 9) 3 20 := ⟨eg_J0_charAt_5068e_8.2.1, rfl⟩
theorem d_J0_charAt_5068e_20 : zD m_J0_charAt_5068e 20 (.iload_n 1) 1 21 := ⟨eg_J0_charAt_5068e_8.2.2.1, rfl⟩
theorem d_J0_charAt_5068e_21 : zD m_J0_charAt_5068e 21 (.invokestatic 498) 3 24 := ⟨eg_J0_charAt_5068e_8.2.2.2.1, rfl⟩
theorem d_J0_charAt_5068e_24 : decode (zcc m_J0_charAt_5068e) 24 = .ok (.ireturn, 1) := eg_J0_charAt_5068e_8.2.2.2.2
set_option maxRecDepth 20000 in
theorem eg_J0_coder_7d493_0 : decode (zcc m_J0_coder_7d493) 0 = .ok (.getstatic 38, 3) ∧ decode (zcc m_J0_coder_7d493) 3 = .ok (.ifCond .eq (10), 3) ∧ decode (zcc m_J0_coder_7d493) 6 = .ok (.aload_n 0, 1) ∧ decode (zcc m_J0_coder_7d493) 7 = .ok (.getfield 15, 3) ∧ decode (zcc m_J0_coder_7d493) 10 = .ok (.goto (4), 3) ∧ decode (zcc m_J0_coder_7d493) 13 = .ok (.iconst 1, 1) ∧ decode (zcc m_J0_coder_7d493) 14 = .ok (.ireturn, 1) := by decide +kernel
theorem d_J0_coder_7d493_0 : zD m_J0_coder_7d493 0 (.getstatic 38) 3 3 := ⟨eg_J0_coder_7d493_0.1, rfl⟩
theorem d_J0_coder_7d493_3 : zDj m_J0_coder_7d493 3 (.ifCond .eq) 6 13 := ⟨10, eg_J0_coder_7d493_0.2.1, rfl, by decide⟩
theorem d_J0_coder_7d493_6 : zD m_J0_coder_7d493 6 (.aload_n 0) 1 7 := ⟨eg_J0_coder_7d493_0.2.2.1, rfl⟩
theorem d_J0_coder_7d493_7 : zD m_J0_coder_7d493 7 (.getfield 15) 3 10 := ⟨eg_J0_coder_7d493_0.2.2.2.1, rfl⟩
theorem d_J0_coder_7d493_10 : zDj m_J0_coder_7d493 10 (.goto) 13 14 := ⟨4, eg_J0_coder_7d493_0.2.2.2.2.1, rfl, by decide⟩
theorem d_J0_coder_7d493_13 : zD m_J0_coder_7d493 13 (.iconst 1) 1 14 := ⟨eg_J0_coder_7d493_0.2.2.2.2.2.1, rfl⟩
theorem d_J0_coder_7d493_14 : decode (zcc m_J0_coder_7d493) 14 = .ok (.ireturn, 1) := eg_J0_coder_7d493_0.2.2.2.2.2.2
set_option maxRecDepth 20000 in
theorem eg_J0_isLatin1_aae02_0 : decode (zcc m_J0_isLatin1_aae02) 0 = .ok (.getstatic 38, 3) ∧ decode (zcc m_J0_isLatin1_aae02) 3 = .ok (.ifCond .eq (14), 3) ∧ decode (zcc m_J0_isLatin1_aae02) 6 = .ok (.aload_n 0, 1) ∧ decode (zcc m_J0_isLatin1_aae02) 7 = .ok (.getfield 15, 3) ∧ decode (zcc m_J0_isLatin1_aae02) 10 = .ok (.ifCond .ne (7), 3) ∧ decode (zcc m_J0_isLatin1_aae02) 13 = .ok (.iconst 1, 1) ∧ decode (zcc m_J0_isLatin1_aae02) 14 = .ok (.goto (4), 3) ∧ decode (zcc m_J0_isLatin1_aae02) 17 = .ok (.iconst 0, 1) := by decide +kernel
set_option maxRecDepth 20000 in
theorem eg_J0_isLatin1_aae02_8 : decode (zcc m_J0_isLatin1_aae02) 18 = .ok (.ireturn, 1) := by decide +kernel
theorem d_J0_isLatin1_aae02_0 : zD m_J0_isLatin1_aae02 0 (.getstatic 38) 3 3 := ⟨eg_J0_isLatin1_aae02_0.1, rfl⟩
theorem d_J0_isLatin1_aae02_3 : zDj m_J0_isLatin1_aae02 3 (.ifCond .eq) 6 17 := ⟨14, eg_J0_isLatin1_aae02_0.2.1, rfl, by decide⟩
theorem d_J0_isLatin1_aae02_6 : zD m_J0_isLatin1_aae02 6 (.aload_n 0) 1 7 := ⟨eg_J0_isLatin1_aae02_0.2.2.1, rfl⟩
theorem d_J0_isLatin1_aae02_7 : zD m_J0_isLatin1_aae02 7 (.getfield 15) 3 10 := ⟨eg_J0_isLatin1_aae02_0.2.2.2.1, rfl⟩
theorem d_J0_isLatin1_aae02_10 : zDj m_J0_isLatin1_aae02 10 (.ifCond .ne) 13 17 := ⟨7, eg_J0_isLatin1_aae02_0.2.2.2.2.1, rfl, by decide⟩
theorem d_J0_isLatin1_aae02_13 : zD m_J0_isLatin1_aae02 13 (.iconst 1) 1 14 := ⟨eg_J0_isLatin1_aae02_0.2.2.2.2.2.1, rfl⟩
theorem d_J0_isLatin1_aae02_14 : zDj m_J0_isLatin1_aae02 14 (.goto) 17 18 := ⟨4, eg_J0_isLatin1_aae02_0.2.2.2.2.2.2.1, rfl, by decide⟩
theorem d_J0_isLatin1_aae02_17 : zD m_J0_isLatin1_aae02 17 (.iconst 0) 1 18 := ⟨eg_J0_isLatin1_aae02_0.2.2.2.2.2.2.2, rfl⟩
theorem d_J0_isLatin1_aae02_18 : decode (zcc m_J0_isLatin1_aae02) 18 = .ok (.ireturn, 1) := eg_J0_isLatin1_aae02_8
set_option maxRecDepth 20000 in
theorem eg_J0_checkIndex_df160_0 : decode (zcc m_J0_checkIndex_df160) 0 = .ok (.iload_n 0, 1) ∧ decode (zcc m_J0_checkIndex_df160) 1 = .ok (.iload_n 1, 1) ∧ decode (zcc m_J0_checkIndex_df160) 2 = .ok (.getstatic 1053, 3) ∧ decode (zcc m_J0_checkIndex_df160) 5 = .ok (.invokestatic 1059, 3) ∧ decode (zcc m_J0_checkIndex_df160) 8 = .ok (.pop, 1) ∧ decode (zcc m_J0_checkIndex_df160) 9 = .ok (.return_, 1) := by decide +kernel
theorem d_J0_checkIndex_df160_0 : zD m_J0_checkIndex_df160 0 (.iload_n 0) 1 1 := ⟨eg_J0_checkIndex_df160_0.1, rfl⟩
theorem d_J0_checkIndex_df160_1 : zD m_J0_checkIndex_df160 1 (.iload_n 1) 1 2 := ⟨eg_J0_checkIndex_df160_0.2.1, rfl⟩
theorem d_J0_checkIndex_df160_2 : zD m_J0_checkIndex_df160 2 (.getstatic 1053) 3 5 := ⟨eg_J0_checkIndex_df160_0.2.2.1, rfl⟩
theorem d_J0_checkIndex_df160_5 : zD m_J0_checkIndex_df160 5 (.invokestatic 1059) 3 8 := ⟨eg_J0_checkIndex_df160_0.2.2.2.1, rfl⟩
theorem d_J0_checkIndex_df160_8 : zD m_J0_checkIndex_df160 8 (.pop) 1 9 := ⟨eg_J0_checkIndex_df160_0.2.2.2.2.1, rfl⟩
theorem d_J0_checkIndex_df160_9 : decode (zcc m_J0_checkIndex_df160) 9 = .ok (.return_, 1) := eg_J0_checkIndex_df160_0.2.2.2.2.2
set_option maxRecDepth 20000 in
theorem eg_J1_charAt_3b067_0 : decode (zcc m_J1_charAt_3b067) 0 = .ok (.iload_n 1, 1) ∧ decode (zcc m_J1_charAt_3b067) 1 = .ok (.aload_n 0, 1) ∧ decode (zcc m_J1_charAt_3b067) 2 = .ok (.arraylength, 1) ∧ decode (zcc m_J1_charAt_3b067) 3 = .ok (.invokestatic 9, 3) ∧ decode (zcc m_J1_charAt_3b067) 6 = .ok (.aload_n 0, 1) ∧ decode (zcc m_J1_charAt_3b067) 7 = .ok (.iload_n 1, 1) ∧ decode (zcc m_J1_charAt_3b067) 8 = .ok (.baload, 1) ∧ decode (zcc m_J1_charAt_3b067) 9 = .ok (.sipush 255, 3) := by decide +kernel
set_option maxRecDepth 20000 in
theorem eg_J1_charAt_3b067_8 : decode (zcc m_J1_charAt_3b067) 12 = .ok (.iand, 1) ∧ decode (zcc m_J1_charAt_3b067) 13 = .ok (.i2c, 1) ∧ decode (zcc m_J1_charAt_3b067) 14 = .ok (.ireturn, 1) := by decide +kernel
theorem d_J1_charAt_3b067_0 : zD m_J1_charAt_3b067 0 (.iload_n 1) 1 1 := ⟨eg_J1_charAt_3b067_0.1, rfl⟩
theorem d_J1_charAt_3b067_1 : zD m_J1_charAt_3b067 1 (.aload_n 0) 1 2 := ⟨eg_J1_charAt_3b067_0.2.1, rfl⟩
theorem d_J1_charAt_3b067_2 : zD m_J1_charAt_3b067 2 (.arraylength) 1 3 := ⟨eg_J1_charAt_3b067_0.2.2.1, rfl⟩
theorem d_J1_charAt_3b067_3 : zD m_J1_charAt_3b067 3 (.invokestatic 9) 3 6 := ⟨eg_J1_charAt_3b067_0.2.2.2.1, rfl⟩
theorem d_J1_charAt_3b067_6 : zD m_J1_charAt_3b067 6 (.aload_n 0) 1 7 := ⟨eg_J1_charAt_3b067_0.2.2.2.2.1, rfl⟩
theorem d_J1_charAt_3b067_7 : zD m_J1_charAt_3b067 7 (.iload_n 1) 1 8 := ⟨eg_J1_charAt_3b067_0.2.2.2.2.2.1, rfl⟩
theorem d_J1_charAt_3b067_8 : zD m_J1_charAt_3b067 8 (.baload) 1 9 := ⟨eg_J1_charAt_3b067_0.2.2.2.2.2.2.1, rfl⟩
theorem d_J1_charAt_3b067_9 : zD m_J1_charAt_3b067 9 (.sipush 255) 3 12 := ⟨eg_J1_charAt_3b067_0.2.2.2.2.2.2.2, rfl⟩
theorem d_J1_charAt_3b067_12 : zD m_J1_charAt_3b067 12 (.iand) 1 13 := ⟨eg_J1_charAt_3b067_8.1, rfl⟩
theorem d_J1_charAt_3b067_13 : zD m_J1_charAt_3b067 13 (.i2c) 1 14 := ⟨eg_J1_charAt_3b067_8.2.1, rfl⟩
theorem d_J1_charAt_3b067_14 : decode (zcc m_J1_charAt_3b067) 14 = .ok (.ireturn, 1) := eg_J1_charAt_3b067_8.2.2
set_option maxRecDepth 20000 in
theorem eg_J2_getChar_3b067_0 : decode (zcc m_J2_getChar_3b067) 0 = .ok (.getstatic 44, 3) ∧ decode (zcc m_J2_getChar_3b067) 3 = .ok (.ifCond .ne (25), 3) ∧ decode (zcc m_J2_getChar_3b067) 6 = .ok (.iload_n 1, 1) ∧ decode (zcc m_J2_getChar_3b067) 7 = .ok (.ifCond .lt (11), 3) ∧ decode (zcc m_J2_getChar_3b067) 10 = .ok (.iload_n 1, 1) ∧ decode (zcc m_J2_getChar_3b067) 11 = .ok (.aload_n 0, 1) ∧ decode (zcc m_J2_getChar_3b067) 12 = .ok (.invokestatic 48, 3) ∧ decode (zcc m_J2_getChar_3b067) 15 = .ok (.if_icmp .lt (13), 3) := by decide +kernel
set_option maxRecDepth 20000 in
theorem eg_J2_getChar_3b067_8 : decode (zcc m_J2_getChar_3b067) 18 = .ok (.new 52, 3) ∧ decode (zcc m_J2_getChar_3b067) 21 = .ok (.dup, 1) ∧ decode (zcc m_J2_getChar_3b067) 22 = .ok (.ldc 54, 2) ∧ decode (zcc m_J2_getChar_3b067) 24 = .ok (.invokespecial 56, 3) ∧ decode (zcc m_J2_getChar_3b067) 27 = .ok (.athrow, 1) ∧ decode (zcc m_J2_getChar_3b067) 28 = .ok (.iload_n 1, 1) ∧ decode (zcc m_J2_getChar_3b067) 29 = .ok (.iconst 1, 1) ∧ decode (zcc m_J2_getChar_3b067) 30 = .ok (.ishl, 1) := by decide +kernel
set_option maxRecDepth 20000 in
theorem eg_J2_getChar_3b067_16 : decode (zcc m_J2_getChar_3b067) 31 = .ok (.istore_n 1, 1) ∧ decode (zcc m_J2_getChar_3b067) 32 = .ok (.aload_n 0, 1) ∧ decode (zcc m_J2_getChar_3b067) 33 = .ok (.iload_n 1, 1) ∧ decode (zcc m_J2_getChar_3b067) 34 = .ok (.iinc 1 1, 3) ∧ decode (zcc m_J2_getChar_3b067) 37 = .ok (.baload, 1) ∧ decode (zcc m_J2_getChar_3b067) 38 = .ok (.sipush 255, 3) ∧ decode (zcc m_J2_getChar_3b067) 41 = .ok (.iand, 1) ∧ decode (zcc m_J2_getChar_3b067) 42 = .ok (.getstatic 59, 3) := by decide +kernel
set_option maxRecDepth 20000 in
theorem eg_J2_getChar_3b067_24 : decode (zcc m_J2_getChar_3b067) 45 = .ok (.ishl, 1) ∧ decode (zcc m_J2_getChar_3b067) 46 = .ok (.aload_n 0, 1) ∧ decode (zcc m_J2_getChar_3b067) 47 = .ok (.iload_n 1, 1) ∧ decode (zcc m_J2_getChar_3b067) 48 = .ok (.baload, 1) ∧ decode (zcc m_J2_getChar_3b067) 49 = .ok (.sipush 255, 3) ∧ decode (zcc m_J2_getChar_3b067) 52 = .ok (.iand, 1) ∧ decode (zcc m_J2_getChar_3b067) 53 = .ok (.getstatic 63, 3) ∧ decode (zcc m_J2_getChar_3b067) 56 = .ok (.ishl, 1) := by decide +kernel
set_option maxRecDepth 20000 in
theorem eg_J2_getChar_3b067_32 : decode (zcc m_J2_getChar_3b067) 57 = .ok (.ior, 1) ∧ decode (zcc m_J2_getChar_3b067) 58 = .ok (.i2c, 1) ∧ decode (zcc m_J2_getChar_3b067) 59 = .ok (.ireturn, 1) := by decide +kernel
theorem d_J2_getChar_3b067_0 : zD m_J2_getChar_3b067 0 (.getstatic 44) 3 3 := ⟨eg_J2_getChar_3b067_0.1, rfl⟩
theorem d_J2_getChar_3b067_3 : zDj m_J2_getChar_3b067 3 (.ifCond .ne) 6 28 := ⟨25, eg_J2_getChar_3b067_0.2.1, rfl, by decide⟩
theorem d_J2_getChar_3b067_6 : zD m_J2_getChar_3b067 6 (.iload_n 1) 1 7 := ⟨eg_J2_getChar_3b067_0.2.2.1, rfl⟩
theorem d_J2_getChar_3b067_7 : zDj m_J2_getChar_3b067 7 (.ifCond .lt) 10 18 := ⟨11, eg_J2_getChar_3b067_0.2.2.2.1, rfl, by decide⟩
theorem d_J2_getChar_3b067_10 : zD m_J2_getChar_3b067 10 (.iload_n 1) 1 11 := ⟨eg_J2_getChar_3b067_0.2.2.2.2.1, rfl⟩
theorem d_J2_getChar_3b067_11 : zD m_J2_getChar_3b067 11 (.aload_n 0) 1 12 := ⟨eg_J2_getChar_3b067_0.2.2.2.2.2.1, rfl⟩
theorem d_J2_getChar_3b067_12 : zD m_J2_getChar_3b067 12 (.invokestatic 48) 3 15 := ⟨eg_J2_getChar_3b067_0.2.2.2.2.2.2.1, rfl⟩
theorem d_J2_getChar_3b067_15 : zDj m_J2_getChar_3b067 15 (.if_icmp .lt) 18 28 := ⟨13, eg_J2_getChar_3b067_0.2.2.2.2.2.2.2, rfl, by decide⟩
theorem d_J2_getChar_3b067_18 : zD m_J2_getChar_3b067 18 (.new 52) 3 21 := ⟨eg_J2_getChar_3b067_8.1, rfl⟩
theorem d_J2_getChar_3b067_21 : zD m_J2_getChar_3b067 21 (.dup) 1 22 := ⟨eg_J2_getChar_3b067_8.2.1, rfl⟩
theorem d_J2_getChar_3b067_22 : zD m_J2_getChar_3b067 22 (.ldc 54) 2 24 := ⟨eg_J2_getChar_3b067_8.2.2.1, rfl⟩
theorem d_J2_getChar_3b067_24 : zD m_J2_getChar_3b067 24 (.invokespecial 56) 3 27 := ⟨eg_J2_getChar_3b067_8.2.2.2.1, rfl⟩
theorem d_J2_getChar_3b067_27 : zD m_J2_getChar_3b067 27 (.athrow) 1 28 := ⟨eg_J2_getChar_3b067_8.2.2.2.2.1, rfl⟩
theorem d_J2_getChar_3b067_28 : zD m_J2_getChar_3b067 28 (.iload_n 1) 1 29 := ⟨eg_J2_getChar_3b067_8.2.2.2.2.2.1, rfl⟩
theorem d_J2_getChar_3b067_29 : zD m_J2_getChar_3b067 29 (.iconst 1) 1 30 := ⟨eg_J2_getChar_3b067_8.2.2.2.2.2.2.1, rfl⟩
theorem d_J2_getChar_3b067_30 : zD m_J2_getChar_3b067 30 (.ishl) 1 31 := ⟨eg_J2_getChar_3b067_8.2.2.2.2.2.2.2, rfl⟩
theorem d_J2_getChar_3b067_31 : zD m_J2_getChar_3b067 31 (.istore_n 1) 1 32 := ⟨eg_J2_getChar_3b067_16.1, rfl⟩
theorem d_J2_getChar_3b067_32 : zD m_J2_getChar_3b067 32 (.aload_n 0) 1 33 := ⟨eg_J2_getChar_3b067_16.2.1, rfl⟩
theorem d_J2_getChar_3b067_33 : zD m_J2_getChar_3b067 33 (.iload_n 1) 1 34 := ⟨eg_J2_getChar_3b067_16.2.2.1, rfl⟩
theorem d_J2_getChar_3b067_34 : zD m_J2_getChar_3b067 34 (.iinc 1 1) 3 37 := ⟨eg_J2_getChar_3b067_16.2.2.2.1, rfl⟩
theorem d_J2_getChar_3b067_37 : zD m_J2_getChar_3b067 37 (.baload) 1 38 := ⟨eg_J2_getChar_3b067_16.2.2.2.2.1, rfl⟩
theorem d_J2_getChar_3b067_38 : zD m_J2_getChar_3b067 38 (.sipush 255) 3 41 := ⟨eg_J2_getChar_3b067_16.2.2.2.2.2.1, rfl⟩
theorem d_J2_getChar_3b067_41 : zD m_J2_getChar_3b067 41 (.iand) 1 42 := ⟨eg_J2_getChar_3b067_16.2.2.2.2.2.2.1, rfl⟩
theorem d_J2_getChar_3b067_42 : zD m_J2_getChar_3b067 42 (.getstatic 59) 3 45 := ⟨eg_J2_getChar_3b067_16.2.2.2.2.2.2.2, rfl⟩
theorem d_J2_getChar_3b067_45 : zD m_J2_getChar_3b067 45 (.ishl) 1 46 := ⟨eg_J2_getChar_3b067_24.1, rfl⟩
theorem d_J2_getChar_3b067_46 : zD m_J2_getChar_3b067 46 (.aload_n 0) 1 47 := ⟨eg_J2_getChar_3b067_24.2.1, rfl⟩
theorem d_J2_getChar_3b067_47 : zD m_J2_getChar_3b067 47 (.iload_n 1) 1 48 := ⟨eg_J2_getChar_3b067_24.2.2.1, rfl⟩
theorem d_J2_getChar_3b067_48 : zD m_J2_getChar_3b067 48 (.baload) 1 49 := ⟨eg_J2_getChar_3b067_24.2.2.2.1, rfl⟩
theorem d_J2_getChar_3b067_49 : zD m_J2_getChar_3b067 49 (.sipush 255) 3 52 := ⟨eg_J2_getChar_3b067_24.2.2.2.2.1, rfl⟩
theorem d_J2_getChar_3b067_52 : zD m_J2_getChar_3b067 52 (.iand) 1 53 := ⟨eg_J2_getChar_3b067_24.2.2.2.2.2.1, rfl⟩
theorem d_J2_getChar_3b067_53 : zD m_J2_getChar_3b067 53 (.getstatic 63) 3 56 := ⟨eg_J2_getChar_3b067_24.2.2.2.2.2.2.1, rfl⟩
theorem d_J2_getChar_3b067_56 : zD m_J2_getChar_3b067 56 (.ishl) 1 57 := ⟨eg_J2_getChar_3b067_24.2.2.2.2.2.2.2, rfl⟩
theorem d_J2_getChar_3b067_57 : zD m_J2_getChar_3b067 57 (.ior) 1 58 := ⟨eg_J2_getChar_3b067_32.1, rfl⟩
theorem d_J2_getChar_3b067_58 : zD m_J2_getChar_3b067 58 (.i2c) 1 59 := ⟨eg_J2_getChar_3b067_32.2.1, rfl⟩
theorem d_J2_getChar_3b067_59 : decode (zcc m_J2_getChar_3b067) 59 = .ok (.ireturn, 1) := eg_J2_getChar_3b067_32.2.2
set_option maxRecDepth 20000 in
theorem eg_J2_length_9d52b_0 : decode (zcc m_J2_length_9d52b) 0 = .ok (.aload_n 0, 1) ∧ decode (zcc m_J2_length_9d52b) 1 = .ok (.arraylength, 1) ∧ decode (zcc m_J2_length_9d52b) 2 = .ok (.iconst 1, 1) ∧ decode (zcc m_J2_length_9d52b) 3 = .ok (.ishr, 1) ∧ decode (zcc m_J2_length_9d52b) 4 = .ok (.ireturn, 1) := by decide +kernel
theorem d_J2_length_9d52b_0 : zD m_J2_length_9d52b 0 (.aload_n 0) 1 1 := ⟨eg_J2_length_9d52b_0.1, rfl⟩
theorem d_J2_length_9d52b_1 : zD m_J2_length_9d52b 1 (.arraylength) 1 2 := ⟨eg_J2_length_9d52b_0.2.1, rfl⟩
theorem d_J2_length_9d52b_2 : zD m_J2_length_9d52b 2 (.iconst 1) 1 3 := ⟨eg_J2_length_9d52b_0.2.2.1, rfl⟩
theorem d_J2_length_9d52b_3 : zD m_J2_length_9d52b 3 (.ishr) 1 4 := ⟨eg_J2_length_9d52b_0.2.2.2.1, rfl⟩
theorem d_J2_length_9d52b_4 : decode (zcc m_J2_length_9d52b) 4 = .ok (.ireturn, 1) := eg_J2_length_9d52b_0.2.2.2.2
set_option maxRecDepth 20000 in
theorem eg_J2_charAt_3b067_0 : decode (zcc m_J2_charAt_3b067) 0 = .ok (.iload_n 1, 1) ∧ decode (zcc m_J2_charAt_3b067) 1 = .ok (.aload_n 0, 1) ∧ decode (zcc m_J2_charAt_3b067) 2 = .ok (.invokestatic 67, 3) ∧ decode (zcc m_J2_charAt_3b067) 5 = .ok (.aload_n 0, 1) ∧ decode (zcc m_J2_charAt_3b067) 6 = .ok (.iload_n 1, 1) ∧ decode (zcc m_J2_charAt_3b067) 7 = .ok (.invokestatic 71, 3) ∧ decode (zcc m_J2_charAt_3b067) 10 = .ok (.ireturn, 1) := by decide +kernel
theorem d_J2_charAt_3b067_0 : zD m_J2_charAt_3b067 0 (.iload_n 1) 1 1 := ⟨eg_J2_charAt_3b067_0.1, rfl⟩
theorem d_J2_charAt_3b067_1 : zD m_J2_charAt_3b067 1 (.aload_n 0) 1 2 := ⟨eg_J2_charAt_3b067_0.2.1, rfl⟩
theorem d_J2_charAt_3b067_2 : zD m_J2_charAt_3b067 2 (.invokestatic 67) 3 5 := ⟨eg_J2_charAt_3b067_0.2.2.1, rfl⟩
theorem d_J2_charAt_3b067_5 : zD m_J2_charAt_3b067 5 (.aload_n 0) 1 6 := ⟨eg_J2_charAt_3b067_0.2.2.2.1, rfl⟩
theorem d_J2_charAt_3b067_6 : zD m_J2_charAt_3b067 6 (.iload_n 1) 1 7 := ⟨eg_J2_charAt_3b067_0.2.2.2.2.1, rfl⟩
theorem d_J2_charAt_3b067_7 : zD m_J2_charAt_3b067 7 (.invokestatic 71) 3 10 := ⟨eg_J2_charAt_3b067_0.2.2.2.2.2.1, rfl⟩
theorem d_J2_charAt_3b067_10 : decode (zcc m_J2_charAt_3b067) 10 = .ok (.ireturn, 1) := eg_J2_charAt_3b067_0.2.2.2.2.2.2
set_option maxRecDepth 20000 in
theorem eg_J2_checkIndex_2214a_0 : decode (zcc m_J2_checkIndex_2214a) 0 = .ok (.iload_n 0, 1) ∧ decode (zcc m_J2_checkIndex_2214a) 1 = .ok (.aload_n 1, 1) ∧ decode (zcc m_J2_checkIndex_2214a) 2 = .ok (.invokestatic 48, 3) ∧ decode (zcc m_J2_checkIndex_2214a) 5 = .ok (.invokestatic 414, 3) ∧ decode (zcc m_J2_checkIndex_2214a) 8 = .ok (.return_, 1) := by decide +kernel
theorem d_J2_checkIndex_2214a_0 : zD m_J2_checkIndex_2214a 0 (.iload_n 0) 1 1 := ⟨eg_J2_checkIndex_2214a_0.1, rfl⟩
theorem d_J2_checkIndex_2214a_1 : zD m_J2_checkIndex_2214a 1 (.aload_n 1) 1 2 := ⟨eg_J2_checkIndex_2214a_0.2.1, rfl⟩
theorem d_J2_checkIndex_2214a_2 : zD m_J2_checkIndex_2214a 2 (.invokestatic 48) 3 5 := ⟨eg_J2_checkIndex_2214a_0.2.2.1, rfl⟩
theorem d_J2_checkIndex_2214a_5 : zD m_J2_checkIndex_2214a 5 (.invokestatic 414) 3 8 := ⟨eg_J2_checkIndex_2214a_0.2.2.2.1, rfl⟩
theorem d_J2_checkIndex_2214a_8 : decode (zcc m_J2_checkIndex_2214a) 8 = .ok (.return_, 1) := eg_J2_checkIndex_2214a_0.2.2.2.2
set_option maxRecDepth 20000 in
theorem eg_J7_fill_d0a16_0 : decode (zcc m_J7_fill_d0a16) 0 = .ok (.iconst 0, 1) ∧ decode (zcc m_J7_fill_d0a16) 1 = .ok (.istore_n 3, 1) ∧ decode (zcc m_J7_fill_d0a16) 2 = .ok (.aload_n 0, 1) ∧ decode (zcc m_J7_fill_d0a16) 3 = .ok (.arraylength, 1) ∧ decode (zcc m_J7_fill_d0a16) 4 = .ok (.istore 4, 2) ∧ decode (zcc m_J7_fill_d0a16) 6 = .ok (.iload_n 3, 1) ∧ decode (zcc m_J7_fill_d0a16) 7 = .ok (.iload 4, 2) ∧ decode (zcc m_J7_fill_d0a16) 9 = .ok (.if_icmp .ge (13), 3) := by decide +kernel
set_option maxRecDepth 20000 in
theorem eg_J7_fill_d0a16_8 : decode (zcc m_J7_fill_d0a16) 12 = .ok (.aload_n 0, 1) ∧ decode (zcc m_J7_fill_d0a16) 13 = .ok (.iload_n 3, 1) ∧ decode (zcc m_J7_fill_d0a16) 14 = .ok (.lload_n 1, 1) ∧ decode (zcc m_J7_fill_d0a16) 15 = .ok (.lastore, 1) ∧ decode (zcc m_J7_fill_d0a16) 16 = .ok (.iinc 3 1, 3) ∧ decode (zcc m_J7_fill_d0a16) 19 = .ok (.goto (-13), 3) ∧ decode (zcc m_J7_fill_d0a16) 22 = .ok (.return_, 1) := by decide +kernel
theorem d_J7_fill_d0a16_0 : zD m_J7_fill_d0a16 0 (.iconst 0) 1 1 := ⟨eg_J7_fill_d0a16_0.1, rfl⟩
theorem d_J7_fill_d0a16_1 : zD m_J7_fill_d0a16 1 (.istore_n 3) 1 2 := ⟨eg_J7_fill_d0a16_0.2.1, rfl⟩
theorem d_J7_fill_d0a16_2 : zD m_J7_fill_d0a16 2 (.aload_n 0) 1 3 := ⟨eg_J7_fill_d0a16_0.2.2.1, rfl⟩
theorem d_J7_fill_d0a16_3 : zD m_J7_fill_d0a16 3 (.arraylength) 1 4 := ⟨eg_J7_fill_d0a16_0.2.2.2.1, rfl⟩
theorem d_J7_fill_d0a16_4 : zD m_J7_fill_d0a16 4 (.istore 4) 2 6 := ⟨eg_J7_fill_d0a16_0.2.2.2.2.1, rfl⟩
theorem d_J7_fill_d0a16_6 : zD m_J7_fill_d0a16 6 (.iload_n 3) 1 7 := ⟨eg_J7_fill_d0a16_0.2.2.2.2.2.1, rfl⟩
theorem d_J7_fill_d0a16_7 : zD m_J7_fill_d0a16 7 (.iload 4) 2 9 := ⟨eg_J7_fill_d0a16_0.2.2.2.2.2.2.1, rfl⟩
theorem d_J7_fill_d0a16_9 : zDj m_J7_fill_d0a16 9 (.if_icmp .ge) 12 22 := ⟨13, eg_J7_fill_d0a16_0.2.2.2.2.2.2.2, rfl, by decide⟩
theorem d_J7_fill_d0a16_12 : zD m_J7_fill_d0a16 12 (.aload_n 0) 1 13 := ⟨eg_J7_fill_d0a16_8.1, rfl⟩
theorem d_J7_fill_d0a16_13 : zD m_J7_fill_d0a16 13 (.iload_n 3) 1 14 := ⟨eg_J7_fill_d0a16_8.2.1, rfl⟩
theorem d_J7_fill_d0a16_14 : zD m_J7_fill_d0a16 14 (.lload_n 1) 1 15 := ⟨eg_J7_fill_d0a16_8.2.2.1, rfl⟩
theorem d_J7_fill_d0a16_15 : zD m_J7_fill_d0a16 15 (.lastore) 1 16 := ⟨eg_J7_fill_d0a16_8.2.2.2.1, rfl⟩
theorem d_J7_fill_d0a16_16 : zD m_J7_fill_d0a16 16 (.iinc 3 1) 3 19 := ⟨eg_J7_fill_d0a16_8.2.2.2.2.1, rfl⟩
theorem d_J7_fill_d0a16_19 : zDj m_J7_fill_d0a16 19 (.goto) 22 6 := ⟨-13, eg_J7_fill_d0a16_8.2.2.2.2.2.1, rfl, by decide⟩
theorem d_J7_fill_d0a16_22 : decode (zcc m_J7_fill_d0a16) 22 = .ok (.return_, 1) := eg_J7_fill_d0a16_8.2.2.2.2.2.2
set_option maxRecDepth 20000 in
theorem eg_J7_fill_53178_0 : decode (zcc m_J7_fill_53178) 0 = .ok (.iconst 0, 1) ∧ decode (zcc m_J7_fill_53178) 1 = .ok (.istore_n 2, 1) ∧ decode (zcc m_J7_fill_53178) 2 = .ok (.aload_n 0, 1) ∧ decode (zcc m_J7_fill_53178) 3 = .ok (.arraylength, 1) ∧ decode (zcc m_J7_fill_53178) 4 = .ok (.istore_n 3, 1) ∧ decode (zcc m_J7_fill_53178) 5 = .ok (.iload_n 2, 1) ∧ decode (zcc m_J7_fill_53178) 6 = .ok (.iload_n 3, 1) ∧ decode (zcc m_J7_fill_53178) 7 = .ok (.if_icmp .ge (13), 3) := by decide +kernel
set_option maxRecDepth 20000 in
theorem eg_J7_fill_53178_8 : decode (zcc m_J7_fill_53178) 10 = .ok (.aload_n 0, 1) ∧ decode (zcc m_J7_fill_53178) 11 = .ok (.iload_n 2, 1) ∧ decode (zcc m_J7_fill_53178) 12 = .ok (.iload_n 1, 1) ∧ decode (zcc m_J7_fill_53178) 13 = .ok (.iastore, 1) ∧ decode (zcc m_J7_fill_53178) 14 = .ok (.iinc 2 1, 3) ∧ decode (zcc m_J7_fill_53178) 17 = .ok (.goto (-12), 3) ∧ decode (zcc m_J7_fill_53178) 20 = .ok (.return_, 1) := by decide +kernel
theorem d_J7_fill_53178_0 : zD m_J7_fill_53178 0 (.iconst 0) 1 1 := ⟨eg_J7_fill_53178_0.1, rfl⟩
theorem d_J7_fill_53178_1 : zD m_J7_fill_53178 1 (.istore_n 2) 1 2 := ⟨eg_J7_fill_53178_0.2.1, rfl⟩
theorem d_J7_fill_53178_2 : zD m_J7_fill_53178 2 (.aload_n 0) 1 3 := ⟨eg_J7_fill_53178_0.2.2.1, rfl⟩
theorem d_J7_fill_53178_3 : zD m_J7_fill_53178 3 (.arraylength) 1 4 := ⟨eg_J7_fill_53178_0.2.2.2.1, rfl⟩
theorem d_J7_fill_53178_4 : zD m_J7_fill_53178 4 (.istore_n 3) 1 5 := ⟨eg_J7_fill_53178_0.2.2.2.2.1, rfl⟩
theorem d_J7_fill_53178_5 : zD m_J7_fill_53178 5 (.iload_n 2) 1 6 := ⟨eg_J7_fill_53178_0.2.2.2.2.2.1, rfl⟩
theorem d_J7_fill_53178_6 : zD m_J7_fill_53178 6 (.iload_n 3) 1 7 := ⟨eg_J7_fill_53178_0.2.2.2.2.2.2.1, rfl⟩
theorem d_J7_fill_53178_7 : zDj m_J7_fill_53178 7 (.if_icmp .ge) 10 20 := ⟨13, eg_J7_fill_53178_0.2.2.2.2.2.2.2, rfl, by decide⟩
theorem d_J7_fill_53178_10 : zD m_J7_fill_53178 10 (.aload_n 0) 1 11 := ⟨eg_J7_fill_53178_8.1, rfl⟩
theorem d_J7_fill_53178_11 : zD m_J7_fill_53178 11 (.iload_n 2) 1 12 := ⟨eg_J7_fill_53178_8.2.1, rfl⟩
theorem d_J7_fill_53178_12 : zD m_J7_fill_53178 12 (.iload_n 1) 1 13 := ⟨eg_J7_fill_53178_8.2.2.1, rfl⟩
theorem d_J7_fill_53178_13 : zD m_J7_fill_53178 13 (.iastore) 1 14 := ⟨eg_J7_fill_53178_8.2.2.2.1, rfl⟩
theorem d_J7_fill_53178_14 : zD m_J7_fill_53178 14 (.iinc 2 1) 3 17 := ⟨eg_J7_fill_53178_8.2.2.2.2.1, rfl⟩
theorem d_J7_fill_53178_17 : zDj m_J7_fill_53178 17 (.goto) 20 5 := ⟨-12, eg_J7_fill_53178_8.2.2.2.2.2.1, rfl, by decide⟩
theorem d_J7_fill_53178_20 : decode (zcc m_J7_fill_53178) 20 = .ok (.return_, 1) := eg_J7_fill_53178_8.2.2.2.2.2.2
set_option maxRecDepth 20000 in
theorem eg_J3_checkIndex_8e157_0 : decode (zcc m_J3_checkIndex_8e157) 0 = .ok (.iload_n 0, 1) ∧ decode (zcc m_J3_checkIndex_8e157) 1 = .ok (.ifCond .lt (8), 3) ∧ decode (zcc m_J3_checkIndex_8e157) 4 = .ok (.iload_n 0, 1) ∧ decode (zcc m_J3_checkIndex_8e157) 5 = .ok (.iload_n 1, 1) ∧ decode (zcc m_J3_checkIndex_8e157) 6 = .ok (.if_icmp .lt (10), 3) ∧ decode (zcc m_J3_checkIndex_8e157) 9 = .ok (.aload_n 2, 1) ∧ decode (zcc m_J3_checkIndex_8e157) 10 = .ok (.iload_n 0, 1) ∧ decode (zcc m_J3_checkIndex_8e157) 11 = .ok (.iload_n 1, 1) := by decide +kernel
set_option maxRecDepth 20000 in
theorem eg_J3_checkIndex_8e157_8 : decode (zcc m_J3_checkIndex_8e157) 12 = .ok (.invokestatic 95, 3) ∧ decode (zcc m_J3_checkIndex_8e157) 15 = .ok (.athrow, 1) ∧ decode (zcc m_J3_checkIndex_8e157) 16 = .ok (.iload_n 0, 1) ∧ decode (zcc m_J3_checkIndex_8e157) 17 = .ok (.ireturn, 1) := by decide +kernel
theorem d_J3_checkIndex_8e157_0 : zD m_J3_checkIndex_8e157 0 (.iload_n 0) 1 1 := ⟨eg_J3_checkIndex_8e157_0.1, rfl⟩
theorem d_J3_checkIndex_8e157_1 : zDj m_J3_checkIndex_8e157 1 (.ifCond .lt) 4 9 := ⟨8, eg_J3_checkIndex_8e157_0.2.1, rfl, by decide⟩
theorem d_J3_checkIndex_8e157_4 : zD m_J3_checkIndex_8e157 4 (.iload_n 0) 1 5 := ⟨eg_J3_checkIndex_8e157_0.2.2.1, rfl⟩
theorem d_J3_checkIndex_8e157_5 : zD m_J3_checkIndex_8e157 5 (.iload_n 1) 1 6 := ⟨eg_J3_checkIndex_8e157_0.2.2.2.1, rfl⟩
theorem d_J3_checkIndex_8e157_6 : zDj m_J3_checkIndex_8e157 6 (.if_icmp .lt) 9 16 := ⟨10, eg_J3_checkIndex_8e157_0.2.2.2.2.1, rfl, by decide⟩
theorem d_J3_checkIndex_8e157_9 : zD m_J3_checkIndex_8e157 9 (.aload_n 2) 1 10 := ⟨eg_J3_checkIndex_8e157_0.2.2.2.2.2.1, rfl⟩
theorem d_J3_checkIndex_8e157_10 : zD m_J3_checkIndex_8e157 10 (.iload_n 0) 1 11 := ⟨eg_J3_checkIndex_8e157_0.2.2.2.2.2.2.1, rfl⟩
theorem d_J3_checkIndex_8e157_11 : zD m_J3_checkIndex_8e157 11 (.iload_n 1) 1 12 := ⟨eg_J3_checkIndex_8e157_0.2.2.2.2.2.2.2, rfl⟩
theorem d_J3_checkIndex_8e157_12 : zD m_J3_checkIndex_8e157 12 (.invokestatic 95) 3 15 := ⟨eg_J3_checkIndex_8e157_8.1, rfl⟩
theorem d_J3_checkIndex_8e157_15 : zD m_J3_checkIndex_8e157 15 (.athrow) 1 16 := ⟨eg_J3_checkIndex_8e157_8.2.1, rfl⟩
theorem d_J3_checkIndex_8e157_16 : zD m_J3_checkIndex_8e157 16 (.iload_n 0) 1 17 := ⟨eg_J3_checkIndex_8e157_8.2.2.1, rfl⟩
theorem d_J3_checkIndex_8e157_17 : decode (zcc m_J3_checkIndex_8e157) 17 = .ok (.ireturn, 1) := eg_J3_checkIndex_8e157_8.2.2.2
