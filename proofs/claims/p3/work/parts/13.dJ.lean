theorem d_J9_floorDiv_7cf53_0 : zD m_J9_floorDiv_7cf53 0 (.iload_n 0) 1 1 := ⟨by decide +kernel, rfl⟩
theorem d_J9_floorDiv_7cf53_1 : zD m_J9_floorDiv_7cf53 1 (.iload_n 1) 1 2 := ⟨by decide +kernel, rfl⟩
theorem d_J9_floorDiv_7cf53_2 : zD m_J9_floorDiv_7cf53 2 (.idiv) 1 3 := ⟨by decide +kernel, rfl⟩
theorem d_J9_floorDiv_7cf53_3 : zD m_J9_floorDiv_7cf53 3 (.istore_n 2) 1 4 := ⟨by decide +kernel, rfl⟩
theorem d_J9_floorDiv_7cf53_4 : zD m_J9_floorDiv_7cf53 4 (.iload_n 0) 1 5 := ⟨by decide +kernel, rfl⟩
theorem d_J9_floorDiv_7cf53_5 : zD m_J9_floorDiv_7cf53 5 (.iload_n 1) 1 6 := ⟨by decide +kernel, rfl⟩
theorem d_J9_floorDiv_7cf53_6 : zD m_J9_floorDiv_7cf53 6 (.ixor) 1 7 := ⟨by decide +kernel, rfl⟩
theorem d_J9_floorDiv_7cf53_7 : zDj m_J9_floorDiv_7cf53 7 (.ifCond .ge) 10 21 := ⟨14, by decide +kernel, rfl, by decide⟩
theorem d_J9_floorDiv_7cf53_10 : zD m_J9_floorDiv_7cf53 10 (.iload_n 2) 1 11 := ⟨by decide +kernel, rfl⟩
theorem d_J9_floorDiv_7cf53_11 : zD m_J9_floorDiv_7cf53 11 (.iload_n 1) 1 12 := ⟨by decide +kernel, rfl⟩
theorem d_J9_floorDiv_7cf53_12 : zD m_J9_floorDiv_7cf53 12 (.imul) 1 13 := ⟨by decide +kernel, rfl⟩
theorem d_J9_floorDiv_7cf53_13 : zD m_J9_floorDiv_7cf53 13 (.iload_n 0) 1 14 := ⟨by decide +kernel, rfl⟩
theorem d_J9_floorDiv_7cf53_14 : zDj m_J9_floorDiv_7cf53 14 (.if_icmp .eq) 17 21 := ⟨7, by decide +kernel, rfl, by decide⟩
theorem d_J9_floorDiv_7cf53_17 : zD m_J9_floorDiv_7cf53 17 (.iload_n 2) 1 18 := ⟨by decide +kernel, rfl⟩
theorem d_J9_floorDiv_7cf53_18 : zD m_J9_floorDiv_7cf53 18 (.iconst 1) 1 19 := ⟨by decide +kernel, rfl⟩
theorem d_J9_floorDiv_7cf53_19 : zD m_J9_floorDiv_7cf53 19 (.isub) 1 20 := ⟨by decide +kernel, rfl⟩
theorem d_J9_floorDiv_7cf53_20 : decode (zcc m_J9_floorDiv_7cf53) 20 = .ok (.ireturn, 1) := by decide +kernel
theorem d_J9_floorDiv_7cf53_21 : zD m_J9_floorDiv_7cf53 21 (.iload_n 2) 1 22 := ⟨by decide +kernel, rfl⟩
theorem d_J9_floorDiv_7cf53_22 : decode (zcc m_J9_floorDiv_7cf53) 22 = .ok (.ireturn, 1) := by decide +kernel
theorem d_J9_floorMod_7cf53_0 : zD m_J9_floorMod_7cf53 0 (.iload_n 0) 1 1 := ⟨by decide +kernel, rfl⟩
theorem d_J9_floorMod_7cf53_1 : zD m_J9_floorMod_7cf53 1 (.iload_n 1) 1 2 := ⟨by decide +kernel, rfl⟩
theorem d_J9_floorMod_7cf53_2 : zD m_J9_floorMod_7cf53 2 (.irem) 1 3 := ⟨by decide +kernel, rfl⟩
theorem d_J9_floorMod_7cf53_3 : zD m_J9_floorMod_7cf53 3 (.istore_n 2) 1 4 := ⟨by decide +kernel, rfl⟩
theorem d_J9_floorMod_7cf53_4 : zD m_J9_floorMod_7cf53 4 (.iload_n 0) 1 5 := ⟨by decide +kernel, rfl⟩
theorem d_J9_floorMod_7cf53_5 : zD m_J9_floorMod_7cf53 5 (.iload_n 1) 1 6 := ⟨by decide +kernel, rfl⟩
theorem d_J9_floorMod_7cf53_6 : zD m_J9_floorMod_7cf53 6 (.ixor) 1 7 := ⟨by decide +kernel, rfl⟩
theorem d_J9_floorMod_7cf53_7 : zDj m_J9_floorMod_7cf53 7 (.ifCond .ge) 10 18 := ⟨11, by decide +kernel, rfl, by decide⟩
theorem d_J9_floorMod_7cf53_10 : zD m_J9_floorMod_7cf53 10 (.iload_n 2) 1 11 := ⟨by decide +kernel, rfl⟩
theorem d_J9_floorMod_7cf53_11 : zDj m_J9_floorMod_7cf53 11 (.ifCond .eq) 14 18 := ⟨7, by decide +kernel, rfl, by decide⟩
theorem d_J9_floorMod_7cf53_14 : zD m_J9_floorMod_7cf53 14 (.iload_n 2) 1 15 := ⟨by decide +kernel, rfl⟩
theorem d_J9_floorMod_7cf53_15 : zD m_J9_floorMod_7cf53 15 (.iload_n 1) 1 16 := ⟨by decide +kernel, rfl⟩
theorem d_J9_floorMod_7cf53_16 : zD m_J9_floorMod_7cf53 16 (.iadd) 1 17 := ⟨by decide +kernel, rfl⟩
theorem d_J9_floorMod_7cf53_17 : decode (zcc m_J9_floorMod_7cf53) 17 = .ok (.ireturn, 1) := by decide +kernel
theorem d_J9_floorMod_7cf53_18 : zD m_J9_floorMod_7cf53 18 (.iload_n 2) 1 19 := ⟨by decide +kernel, rfl⟩
theorem d_J9_floorMod_7cf53_19 : decode (zcc m_J9_floorMod_7cf53) 19 = .ok (.ireturn, 1) := by decide +kernel
theorem d_J0_length_8abf5_0 : zD m_J0_length_8abf5 0 (.aload_n 0) 1 1 := ⟨by decide +kernel, rfl⟩
theorem d_J0_length_8abf5_1 : zD m_J0_length_8abf5 1 (.getfield 9) 3 4 := ⟨by decide +kernel, rfl⟩
theorem d_J0_length_8abf5_4 : zD m_J0_length_8abf5 4 (.arraylength) 1 5 := ⟨by decide +kernel, rfl⟩
theorem d_J0_length_8abf5_5 : zD m_J0_length_8abf5 5 (.aload_n 0) 1 6 := ⟨by decide +kernel, rfl⟩
theorem d_J0_length_8abf5_6 : zD m_J0_length_8abf5 6 (.invokevirtual 335) 3 9 := ⟨by decide +kernel, rfl⟩
theorem d_J0_length_8abf5_9 : zD m_J0_length_8abf5 9 (.ishr) 1 10 := ⟨by decide +kernel, rfl⟩
theorem d_J0_length_8abf5_10 : decode (zcc m_J0_length_8abf5) 10 = .ok (.ireturn, 1) := by decide +kernel
theorem d_J0_charAt_5068e_0 : zD m_J0_charAt_5068e 0 (.aload_n 0) 1 1 := ⟨by decide +kernel, rfl⟩
theorem d_J0_charAt_5068e_1 : zD m_J0_charAt_5068e 1 (.invokevirtual 492) 3 4 := ⟨by decide +kernel, rfl⟩
theorem d_J0_charAt_5068e_4 : zDj m_J0_charAt_5068e 4 (.ifCond .eq) 7 16 := ⟨12, by decide +kernel, rfl, by decide⟩
theorem d_J0_charAt_5068e_7 : zD m_J0_charAt_5068e 7 (.aload_n 0) 1 8 := ⟨by decide +kernel, rfl⟩
theorem d_J0_charAt_5068e_8 : zD m_J0_charAt_5068e 8 (.getfield 9) 3 11 := ⟨by decide +kernel, rfl⟩
theorem d_J0_charAt_5068e_11 : zD m_J0_charAt_5068e 11 (.iload_n 1) 1 12 := ⟨by decide +kernel, rfl⟩
theorem d_J0_charAt_5068e_12 : zD m_J0_charAt_5068e 12 (.invokestatic 495) 3 15 := ⟨by decide +kernel, rfl⟩
theorem d_J0_charAt_5068e_15 : decode (zcc m_J0_charAt_5068e) 15 = .ok (.ireturn, 1) := by decide +kernel
theorem d_J0_charAt_5068e_16 : zD m_J0_charAt_5068e 16 (.aload_n 0) 1 17 := ⟨by decide +kernel, rfl⟩
theorem d_J0_charAt_5068e_17 : zD m_J0_charAt_5068e 17 (.getfield 9) 3 20 := ⟨by decide +kernel, rfl⟩
theorem d_J0_charAt_5068e_20 : zD m_J0_charAt_5068e 20 (.iload_n 1) 1 21 := ⟨by decide +kernel, rfl⟩
theorem d_J0_charAt_5068e_21 : zD m_J0_charAt_5068e 21 (.invokestatic 498) 3 24 := ⟨by decide +kernel, rfl⟩
theorem d_J0_charAt_5068e_24 : decode (zcc m_J0_charAt_5068e) 24 = .ok (.ireturn, 1) := by decide +kernel
theorem d_J0_coder_7d493_0 : zD m_J0_coder_7d493 0 (.getstatic 38) 3 3 := ⟨by decide +kernel, rfl⟩
theorem d_J0_coder_7d493_3 : zDj m_J0_coder_7d493 3 (.ifCond .eq) 6 13 := ⟨10, by decide +kernel, rfl, by decide⟩
theorem d_J0_coder_7d493_6 : zD m_J0_coder_7d493 6 (.aload_n 0) 1 7 := ⟨by decide +kernel, rfl⟩
theorem d_J0_coder_7d493_7 : zD m_J0_coder_7d493 7 (.getfield 15) 3 10 := ⟨by decide +kernel, rfl⟩
theorem d_J0_coder_7d493_10 : zDj m_J0_coder_7d493 10 (.goto) 13 14 := ⟨4, by decide +kernel, rfl, by decide⟩
theorem d_J0_coder_7d493_13 : zD m_J0_coder_7d493 13 (.iconst 1) 1 14 := ⟨by decide +kernel, rfl⟩
theorem d_J0_coder_7d493_14 : decode (zcc m_J0_coder_7d493) 14 = .ok (.ireturn, 1) := by decide +kernel
theorem d_J0_isLatin1_aae02_0 : zD m_J0_isLatin1_aae02 0 (.getstatic 38) 3 3 := ⟨by decide +kernel, rfl⟩
theorem d_J0_isLatin1_aae02_3 : zDj m_J0_isLatin1_aae02 3 (.ifCond .eq) 6 17 := ⟨14, by decide +kernel, rfl, by decide⟩
theorem d_J0_isLatin1_aae02_6 : zD m_J0_isLatin1_aae02 6 (.aload_n 0) 1 7 := ⟨by decide +kernel, rfl⟩
theorem d_J0_isLatin1_aae02_7 : zD m_J0_isLatin1_aae02 7 (.getfield 15) 3 10 := ⟨by decide +kernel, rfl⟩
theorem d_J0_isLatin1_aae02_10 : zDj m_J0_isLatin1_aae02 10 (.ifCond .ne) 13 17 := ⟨7, by decide +kernel, rfl, by decide⟩
theorem d_J0_isLatin1_aae02_13 : zD m_J0_isLatin1_aae02 13 (.iconst 1) 1 14 := ⟨by decide +kernel, rfl⟩
theorem d_J0_isLatin1_aae02_14 : zDj m_J0_isLatin1_aae02 14 (.goto) 17 18 := ⟨4, by decide +kernel, rfl, by decide⟩
theorem d_J0_isLatin1_aae02_17 : zD m_J0_isLatin1_aae02 17 (.iconst 0) 1 18 := ⟨by decide +kernel, rfl⟩
theorem d_J0_isLatin1_aae02_18 : decode (zcc m_J0_isLatin1_aae02) 18 = .ok (.ireturn, 1) := by decide +kernel
theorem d_J0_checkIndex_df160_0 : zD m_J0_checkIndex_df160 0 (.iload_n 0) 1 1 := ⟨by decide +kernel, rfl⟩
theorem d_J0_checkIndex_df160_1 : zD m_J0_checkIndex_df160 1 (.iload_n 1) 1 2 := ⟨by decide +kernel, rfl⟩
theorem d_J0_checkIndex_df160_2 : zD m_J0_checkIndex_df160 2 (.getstatic 1053) 3 5 := ⟨by decide +kernel, rfl⟩
theorem d_J0_checkIndex_df160_5 : zD m_J0_checkIndex_df160 5 (.invokestatic 1059) 3 8 := ⟨by decide +kernel, rfl⟩
theorem d_J0_checkIndex_df160_8 : zD m_J0_checkIndex_df160 8 (.pop) 1 9 := ⟨by decide +kernel, rfl⟩
theorem d_J0_checkIndex_df160_9 : decode (zcc m_J0_checkIndex_df160) 9 = .ok (.return_, 1) := by decide +kernel
theorem d_J1_charAt_3b067_0 : zD m_J1_charAt_3b067 0 (.iload_n 1) 1 1 := ⟨by decide +kernel, rfl⟩
theorem d_J1_charAt_3b067_1 : zD m_J1_charAt_3b067 1 (.aload_n 0) 1 2 := ⟨by decide +kernel, rfl⟩
theorem d_J1_charAt_3b067_2 : zD m_J1_charAt_3b067 2 (.arraylength) 1 3 := ⟨by decide +kernel, rfl⟩
theorem d_J1_charAt_3b067_3 : zD m_J1_charAt_3b067 3 (.invokestatic 9) 3 6 := ⟨by decide +kernel, rfl⟩
theorem d_J1_charAt_3b067_6 : zD m_J1_charAt_3b067 6 (.aload_n 0) 1 7 := ⟨by decide +kernel, rfl⟩
theorem d_J1_charAt_3b067_7 : zD m_J1_charAt_3b067 7 (.iload_n 1) 1 8 := ⟨by decide +kernel, rfl⟩
theorem d_J1_charAt_3b067_8 : zD m_J1_charAt_3b067 8 (.baload) 1 9 := ⟨by decide +kernel, rfl⟩
theorem d_J1_charAt_3b067_9 : zD m_J1_charAt_3b067 9 (.sipush 255) 3 12 := ⟨by decide +kernel, rfl⟩
theorem d_J1_charAt_3b067_12 : zD m_J1_charAt_3b067 12 (.iand) 1 13 := ⟨by decide +kernel, rfl⟩
theorem d_J1_charAt_3b067_13 : zD m_J1_charAt_3b067 13 (.i2c) 1 14 := ⟨by decide +kernel, rfl⟩
theorem d_J1_charAt_3b067_14 : decode (zcc m_J1_charAt_3b067) 14 = .ok (.ireturn, 1) := by decide +kernel
theorem d_J2_getChar_3b067_0 : zD m_J2_getChar_3b067 0 (.getstatic 44) 3 3 := ⟨by decide +kernel, rfl⟩
theorem d_J2_getChar_3b067_3 : zDj m_J2_getChar_3b067 3 (.ifCond .ne) 6 28 := ⟨25, by decide +kernel, rfl, by decide⟩
theorem d_J2_getChar_3b067_6 : zD m_J2_getChar_3b067 6 (.iload_n 1) 1 7 := ⟨by decide +kernel, rfl⟩
theorem d_J2_getChar_3b067_7 : zDj m_J2_getChar_3b067 7 (.ifCond .lt) 10 18 := ⟨11, by decide +kernel, rfl, by decide⟩
theorem d_J2_getChar_3b067_10 : zD m_J2_getChar_3b067 10 (.iload_n 1) 1 11 := ⟨by decide +kernel, rfl⟩
theorem d_J2_getChar_3b067_11 : zD m_J2_getChar_3b067 11 (.aload_n 0) 1 12 := ⟨by decide +kernel, rfl⟩
theorem d_J2_getChar_3b067_12 : zD m_J2_getChar_3b067 12 (.invokestatic 48) 3 15 := ⟨by decide +kernel, rfl⟩
theorem d_J2_getChar_3b067_15 : zDj m_J2_getChar_3b067 15 (.if_icmp .lt) 18 28 := ⟨13, by decide +kernel, rfl, by decide⟩
theorem d_J2_getChar_3b067_18 : zD m_J2_getChar_3b067 18 (.new 52) 3 21 := ⟨by decide +kernel, rfl⟩
theorem d_J2_getChar_3b067_21 : zD m_J2_getChar_3b067 21 (.dup) 1 22 := ⟨by decide +kernel, rfl⟩
theorem d_J2_getChar_3b067_22 : zD m_J2_getChar_3b067 22 (.ldc 54) 2 24 := ⟨by decide +kernel, rfl⟩
theorem d_J2_getChar_3b067_24 : zD m_J2_getChar_3b067 24 (.invokespecial 56) 3 27 := ⟨by decide +kernel, rfl⟩
theorem d_J2_getChar_3b067_27 : zD m_J2_getChar_3b067 27 (.athrow) 1 28 := ⟨by decide +kernel, rfl⟩
theorem d_J2_getChar_3b067_28 : zD m_J2_getChar_3b067 28 (.iload_n 1) 1 29 := ⟨by decide +kernel, rfl⟩
theorem d_J2_getChar_3b067_29 : zD m_J2_getChar_3b067 29 (.iconst 1) 1 30 := ⟨by decide +kernel, rfl⟩
theorem d_J2_getChar_3b067_30 : zD m_J2_getChar_3b067 30 (.ishl) 1 31 := ⟨by decide +kernel, rfl⟩
theorem d_J2_getChar_3b067_31 : zD m_J2_getChar_3b067 31 (.istore_n 1) 1 32 := ⟨by decide +kernel, rfl⟩
theorem d_J2_getChar_3b067_32 : zD m_J2_getChar_3b067 32 (.aload_n 0) 1 33 := ⟨by decide +kernel, rfl⟩
theorem d_J2_getChar_3b067_33 : zD m_J2_getChar_3b067 33 (.iload_n 1) 1 34 := ⟨by decide +kernel, rfl⟩
theorem d_J2_getChar_3b067_34 : zD m_J2_getChar_3b067 34 (.iinc 1 1) 3 37 := ⟨by decide +kernel, rfl⟩
theorem d_J2_getChar_3b067_37 : zD m_J2_getChar_3b067 37 (.baload) 1 38 := ⟨by decide +kernel, rfl⟩
theorem d_J2_getChar_3b067_38 : zD m_J2_getChar_3b067 38 (.sipush 255) 3 41 := ⟨by decide +kernel, rfl⟩
theorem d_J2_getChar_3b067_41 : zD m_J2_getChar_3b067 41 (.iand) 1 42 := ⟨by decide +kernel, rfl⟩
theorem d_J2_getChar_3b067_42 : zD m_J2_getChar_3b067 42 (.getstatic 59) 3 45 := ⟨by decide +kernel, rfl⟩
theorem d_J2_getChar_3b067_45 : zD m_J2_getChar_3b067 45 (.ishl) 1 46 := ⟨by decide +kernel, rfl⟩
theorem d_J2_getChar_3b067_46 : zD m_J2_getChar_3b067 46 (.aload_n 0) 1 47 := ⟨by decide +kernel, rfl⟩
theorem d_J2_getChar_3b067_47 : zD m_J2_getChar_3b067 47 (.iload_n 1) 1 48 := ⟨by decide +kernel, rfl⟩
theorem d_J2_getChar_3b067_48 : zD m_J2_getChar_3b067 48 (.baload) 1 49 := ⟨by decide +kernel, rfl⟩
theorem d_J2_getChar_3b067_49 : zD m_J2_getChar_3b067 49 (.sipush 255) 3 52 := ⟨by decide +kernel, rfl⟩
theorem d_J2_getChar_3b067_52 : zD m_J2_getChar_3b067 52 (.iand) 1 53 := ⟨by decide +kernel, rfl⟩
theorem d_J2_getChar_3b067_53 : zD m_J2_getChar_3b067 53 (.getstatic 63) 3 56 := ⟨by decide +kernel, rfl⟩
theorem d_J2_getChar_3b067_56 : zD m_J2_getChar_3b067 56 (.ishl) 1 57 := ⟨by decide +kernel, rfl⟩
theorem d_J2_getChar_3b067_57 : zD m_J2_getChar_3b067 57 (.ior) 1 58 := ⟨by decide +kernel, rfl⟩
theorem d_J2_getChar_3b067_58 : zD m_J2_getChar_3b067 58 (.i2c) 1 59 := ⟨by decide +kernel, rfl⟩
theorem d_J2_getChar_3b067_59 : decode (zcc m_J2_getChar_3b067) 59 = .ok (.ireturn, 1) := by decide +kernel
theorem d_J2_length_9d52b_0 : zD m_J2_length_9d52b 0 (.aload_n 0) 1 1 := ⟨by decide +kernel, rfl⟩
theorem d_J2_length_9d52b_1 : zD m_J2_length_9d52b 1 (.arraylength) 1 2 := ⟨by decide +kernel, rfl⟩
theorem d_J2_length_9d52b_2 : zD m_J2_length_9d52b 2 (.iconst 1) 1 3 := ⟨by decide +kernel, rfl⟩
theorem d_J2_length_9d52b_3 : zD m_J2_length_9d52b 3 (.ishr) 1 4 := ⟨by decide +kernel, rfl⟩
theorem d_J2_length_9d52b_4 : decode (zcc m_J2_length_9d52b) 4 = .ok (.ireturn, 1) := by decide +kernel
theorem d_J2_charAt_3b067_0 : zD m_J2_charAt_3b067 0 (.iload_n 1) 1 1 := ⟨by decide +kernel, rfl⟩
theorem d_J2_charAt_3b067_1 : zD m_J2_charAt_3b067 1 (.aload_n 0) 1 2 := ⟨by decide +kernel, rfl⟩
theorem d_J2_charAt_3b067_2 : zD m_J2_charAt_3b067 2 (.invokestatic 67) 3 5 := ⟨by decide +kernel, rfl⟩
theorem d_J2_charAt_3b067_5 : zD m_J2_charAt_3b067 5 (.aload_n 0) 1 6 := ⟨by decide +kernel, rfl⟩
theorem d_J2_charAt_3b067_6 : zD m_J2_charAt_3b067 6 (.iload_n 1) 1 7 := ⟨by decide +kernel, rfl⟩
theorem d_J2_charAt_3b067_7 : zD m_J2_charAt_3b067 7 (.invokestatic 71) 3 10 := ⟨by decide +kernel, rfl⟩
theorem d_J2_charAt_3b067_10 : decode (zcc m_J2_charAt_3b067) 10 = .ok (.ireturn, 1) := by decide +kernel
theorem d_J2_checkIndex_2214a_0 : zD m_J2_checkIndex_2214a 0 (.iload_n 0) 1 1 := ⟨by decide +kernel, rfl⟩
theorem d_J2_checkIndex_2214a_1 : zD m_J2_checkIndex_2214a 1 (.aload_n 1) 1 2 := ⟨by decide +kernel, rfl⟩
theorem d_J2_checkIndex_2214a_2 : zD m_J2_checkIndex_2214a 2 (.invokestatic 48) 3 5 := ⟨by decide +kernel, rfl⟩
theorem d_J2_checkIndex_2214a_5 : zD m_J2_checkIndex_2214a 5 (.invokestatic 414) 3 8 := ⟨by decide +kernel, rfl⟩
theorem d_J2_checkIndex_2214a_8 : decode (zcc m_J2_checkIndex_2214a) 8 = .ok (.return_, 1) := by decide +kernel
theorem d_J7_fill_d0a16_0 : zD m_J7_fill_d0a16 0 (.iconst 0) 1 1 := ⟨by decide +kernel, rfl⟩
theorem d_J7_fill_d0a16_1 : zD m_J7_fill_d0a16 1 (.istore_n 3) 1 2 := ⟨by decide +kernel, rfl⟩
theorem d_J7_fill_d0a16_2 : zD m_J7_fill_d0a16 2 (.aload_n 0) 1 3 := ⟨by decide +kernel, rfl⟩
theorem d_J7_fill_d0a16_3 : zD m_J7_fill_d0a16 3 (.arraylength) 1 4 := ⟨by decide +kernel, rfl⟩
theorem d_J7_fill_d0a16_4 : zD m_J7_fill_d0a16 4 (.istore 4) 2 6 := ⟨by decide +kernel, rfl⟩
theorem d_J7_fill_d0a16_6 : zD m_J7_fill_d0a16 6 (.iload_n 3) 1 7 := ⟨by decide +kernel, rfl⟩
theorem d_J7_fill_d0a16_7 : zD m_J7_fill_d0a16 7 (.iload 4) 2 9 := ⟨by decide +kernel, rfl⟩
theorem d_J7_fill_d0a16_9 : zDj m_J7_fill_d0a16 9 (.if_icmp .ge) 12 22 := ⟨13, by decide +kernel, rfl, by decide⟩
theorem d_J7_fill_d0a16_12 : zD m_J7_fill_d0a16 12 (.aload_n 0) 1 13 := ⟨by decide +kernel, rfl⟩
theorem d_J7_fill_d0a16_13 : zD m_J7_fill_d0a16 13 (.iload_n 3) 1 14 := ⟨by decide +kernel, rfl⟩
theorem d_J7_fill_d0a16_14 : zD m_J7_fill_d0a16 14 (.lload_n 1) 1 15 := ⟨by decide +kernel, rfl⟩
theorem d_J7_fill_d0a16_15 : zD m_J7_fill_d0a16 15 (.lastore) 1 16 := ⟨by decide +kernel, rfl⟩
theorem d_J7_fill_d0a16_16 : zD m_J7_fill_d0a16 16 (.iinc 3 1) 3 19 := ⟨by decide +kernel, rfl⟩
theorem d_J7_fill_d0a16_19 : zDj m_J7_fill_d0a16 19 (.goto) 22 6 := ⟨-13, by decide +kernel, rfl, by decide⟩
theorem d_J7_fill_d0a16_22 : decode (zcc m_J7_fill_d0a16) 22 = .ok (.return_, 1) := by decide +kernel
theorem d_J7_fill_53178_0 : zD m_J7_fill_53178 0 (.iconst 0) 1 1 := ⟨by decide +kernel, rfl⟩
theorem d_J7_fill_53178_1 : zD m_J7_fill_53178 1 (.istore_n 2) 1 2 := ⟨by decide +kernel, rfl⟩
theorem d_J7_fill_53178_2 : zD m_J7_fill_53178 2 (.aload_n 0) 1 3 := ⟨by decide +kernel, rfl⟩
theorem d_J7_fill_53178_3 : zD m_J7_fill_53178 3 (.arraylength) 1 4 := ⟨by decide +kernel, rfl⟩
theorem d_J7_fill_53178_4 : zD m_J7_fill_53178 4 (.istore_n 3) 1 5 := ⟨by decide +kernel, rfl⟩
theorem d_J7_fill_53178_5 : zD m_J7_fill_53178 5 (.iload_n 2) 1 6 := ⟨by decide +kernel, rfl⟩
theorem d_J7_fill_53178_6 : zD m_J7_fill_53178 6 (.iload_n 3) 1 7 := ⟨by decide +kernel, rfl⟩
theorem d_J7_fill_53178_7 : zDj m_J7_fill_53178 7 (.if_icmp .ge) 10 20 := ⟨13, by decide +kernel, rfl, by decide⟩
theorem d_J7_fill_53178_10 : zD m_J7_fill_53178 10 (.aload_n 0) 1 11 := ⟨by decide +kernel, rfl⟩
theorem d_J7_fill_53178_11 : zD m_J7_fill_53178 11 (.iload_n 2) 1 12 := ⟨by decide +kernel, rfl⟩
theorem d_J7_fill_53178_12 : zD m_J7_fill_53178 12 (.iload_n 1) 1 13 := ⟨by decide +kernel, rfl⟩
theorem d_J7_fill_53178_13 : zD m_J7_fill_53178 13 (.iastore) 1 14 := ⟨by decide +kernel, rfl⟩
theorem d_J7_fill_53178_14 : zD m_J7_fill_53178 14 (.iinc 2 1) 3 17 := ⟨by decide +kernel, rfl⟩
theorem d_J7_fill_53178_17 : zDj m_J7_fill_53178 17 (.goto) 20 5 := ⟨-12, by decide +kernel, rfl, by decide⟩
theorem d_J7_fill_53178_20 : decode (zcc m_J7_fill_53178) 20 = .ok (.return_, 1) := by decide +kernel
theorem d_J3_checkIndex_8e157_0 : zD m_J3_checkIndex_8e157 0 (.iload_n 0) 1 1 := ⟨by decide +kernel, rfl⟩
theorem d_J3_checkIndex_8e157_1 : zDj m_J3_checkIndex_8e157 1 (.ifCond .lt) 4 9 := ⟨8, by decide +kernel, rfl, by decide⟩
theorem d_J3_checkIndex_8e157_4 : zD m_J3_checkIndex_8e157 4 (.iload_n 0) 1 5 := ⟨by decide +kernel, rfl⟩
theorem d_J3_checkIndex_8e157_5 : zD m_J3_checkIndex_8e157 5 (.iload_n 1) 1 6 := ⟨by decide +kernel, rfl⟩
theorem d_J3_checkIndex_8e157_6 : zDj m_J3_checkIndex_8e157 6 (.if_icmp .lt) 9 16 := ⟨10, by decide +kernel, rfl, by decide⟩
theorem d_J3_checkIndex_8e157_9 : zD m_J3_checkIndex_8e157 9 (.aload_n 2) 1 10 := ⟨by decide +kernel, rfl⟩
theorem d_J3_checkIndex_8e157_10 : zD m_J3_checkIndex_8e157 10 (.iload_n 0) 1 11 := ⟨by decide +kernel, rfl⟩
theorem d_J3_checkIndex_8e157_11 : zD m_J3_checkIndex_8e157 11 (.iload_n 1) 1 12 := ⟨by decide +kernel, rfl⟩
theorem d_J3_checkIndex_8e157_12 : zD m_J3_checkIndex_8e157 12 (.invokestatic 95) 3 15 := ⟨by decide +kernel, rfl⟩
theorem d_J3_checkIndex_8e157_15 : zD m_J3_checkIndex_8e157 15 (.athrow) 1 16 := ⟨by decide +kernel, rfl⟩
theorem d_J3_checkIndex_8e157_16 : zD m_J3_checkIndex_8e157 16 (.iload_n 0) 1 17 := ⟨by decide +kernel, rfl⟩
theorem d_J3_checkIndex_8e157_17 : decode (zcc m_J3_checkIndex_8e157) 17 = .ok (.ireturn, 1) := by decide +kernel
