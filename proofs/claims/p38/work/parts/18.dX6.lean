set_option maxRecDepth 20000 in
theorem eg_X6_init_0 : decode (zcc m_X6_init) 0 = .ok (.aload_n 0, 1) ∧ decode (zcc m_X6_init) 1 = .ok (.invokespecial 3, 3) ∧ decode (zcc m_X6_init) 4 = .ok (.aload_n 0, 1) ∧ decode (zcc m_X6_init) 5 = .ok (.sipush 400, 3) ∧ decode (zcc m_X6_init) 8 = .ok (.newarray .byte, 2) ∧ decode (zcc m_X6_init) 10 = .ok (.putfield 9, 3) ∧ decode (zcc m_X6_init) 13 = .ok (.return_, 1) := by decide +kernel
theorem d_X6_init_0 : zD m_X6_init 0 (.aload_n 0) 1 1 := ⟨eg_X6_init_0.1, rfl⟩
theorem d_X6_init_1 : zD m_X6_init 1 (.invokespecial 3) 3 4 := ⟨eg_X6_init_0.2.1, rfl⟩
theorem d_X6_init_4 : zD m_X6_init 4 (.aload_n 0) 1 5 := ⟨eg_X6_init_0.2.2.1, rfl⟩
theorem d_X6_init_5 : zD m_X6_init 5 (.sipush 400) 3 8 := ⟨eg_X6_init_0.2.2.2.1, rfl⟩
theorem d_X6_init_8 : zD m_X6_init 8 (.newarray .byte) 2 10 := ⟨eg_X6_init_0.2.2.2.2.1, rfl⟩
theorem d_X6_init_10 : zD m_X6_init 10 (.putfield 9) 3 13 := ⟨eg_X6_init_0.2.2.2.2.2.1, rfl⟩
theorem d_X6_init_13 : decode (zcc m_X6_init) 13 = .ok (.return_, 1) := eg_X6_init_0.2.2.2.2.2.2
set_option maxRecDepth 20000 in
theorem eg_X6_append_0 : decode (zcc m_X6_append) 0 = .ok (.aload_n 0, 1) ∧ decode (zcc m_X6_append) 1 = .ok (.getfield 15, 3) ∧ decode (zcc m_X6_append) 4 = .ok (.bipush 8, 2) ∧ decode (zcc m_X6_append) 6 = .ok (.iadd, 1) ∧ decode (zcc m_X6_append) 7 = .ok (.sipush 400, 3) ∧ decode (zcc m_X6_append) 10 = .ok (.if_icmp .le (6), 3) ∧ decode (zcc m_X6_append) 13 = .ok (.bipush (-3), 2) ∧ decode (zcc m_X6_append) 15 = .ok (.ireturn, 1) := by decide +kernel
set_option maxRecDepth 20000 in
theorem eg_X6_append_8 : decode (zcc m_X6_append) 16 = .ok (.bipush 56, 2) ∧ decode (zcc m_X6_append) 18 = .ok (.istore_n 3, 1) ∧ decode (zcc m_X6_append) 19 = .ok (.iload_n 3, 1) ∧ decode (zcc m_X6_append) 20 = .ok (.ifCond .lt (33), 3) ∧ decode (zcc m_X6_append) 23 = .ok (.aload_n 0, 1) ∧ decode (zcc m_X6_append) 24 = .ok (.getfield 9, 3) ∧ decode (zcc m_X6_append) 27 = .ok (.aload_n 0, 1) ∧ decode (zcc m_X6_append) 28 = .ok (.getfield 15, 3) := by decide +kernel
set_option maxRecDepth 20000 in
theorem eg_X6_append_16 : decode (zcc m_X6_append) 31 = .ok (.lload_n 1, 1) ∧ decode (zcc m_X6_append) 32 = .ok (.iload_n 3, 1) ∧ decode (zcc m_X6_append) 33 = .ok (.lshr, 1) ∧ decode (zcc m_X6_append) 34 = .ok (.l2i, 1) ∧ decode (zcc m_X6_append) 35 = .ok (.i2b, 1) ∧ decode (zcc m_X6_append) 36 = .ok (.bastore, 1) ∧ decode (zcc m_X6_append) 37 = .ok (.aload_n 0, 1) ∧ decode (zcc m_X6_append) 38 = .ok (.dup, 1) := by decide +kernel
set_option maxRecDepth 20000 in
theorem eg_X6_append_24 : decode (zcc m_X6_append) 39 = .ok (.getfield 15, 3) ∧ decode (zcc m_X6_append) 42 = .ok (.iconst 1, 1) ∧ decode (zcc m_X6_append) 43 = .ok (.iadd, 1) ∧ decode (zcc m_X6_append) 44 = .ok (.putfield 15, 3) ∧ decode (zcc m_X6_append) 47 = .ok (.iinc 3 (-8), 3) ∧ decode (zcc m_X6_append) 50 = .ok (.goto (-31), 3) ∧ decode (zcc m_X6_append) 53 = .ok (.aload_n 0, 1) ∧ decode (zcc m_X6_append) 54 = .ok (.getfield 15, 3) := by decide +kernel
set_option maxRecDepth 20000 in
theorem eg_X6_append_32 : decode (zcc m_X6_append) 57 = .ok (.ireturn, 1) := by decide +kernel
theorem d_X6_append_0 : zD m_X6_append 0 (.aload_n 0) 1 1 := ⟨eg_X6_append_0.1, rfl⟩
theorem d_X6_append_1 : zD m_X6_append 1 (.getfield 15) 3 4 := ⟨eg_X6_append_0.2.1, rfl⟩
theorem d_X6_append_4 : zD m_X6_append 4 (.bipush 8) 2 6 := ⟨eg_X6_append_0.2.2.1, rfl⟩
theorem d_X6_append_6 : zD m_X6_append 6 (.iadd) 1 7 := ⟨eg_X6_append_0.2.2.2.1, rfl⟩
theorem d_X6_append_7 : zD m_X6_append 7 (.sipush 400) 3 10 := ⟨eg_X6_append_0.2.2.2.2.1, rfl⟩
theorem d_X6_append_10 : zDj m_X6_append 10 (.if_icmp .le) 13 16 := ⟨6, eg_X6_append_0.2.2.2.2.2.1, rfl, by decide⟩
theorem d_X6_append_13 : zD m_X6_append 13 (.bipush (-3)) 2 15 := ⟨eg_X6_append_0.2.2.2.2.2.2.1, rfl⟩
theorem d_X6_append_15 : decode (zcc m_X6_append) 15 = .ok (.ireturn, 1) := eg_X6_append_0.2.2.2.2.2.2.2
theorem d_X6_append_16 : zD m_X6_append 16 (.bipush 56) 2 18 := ⟨eg_X6_append_8.1, rfl⟩
theorem d_X6_append_18 : zD m_X6_append 18 (.istore_n 3) 1 19 := ⟨eg_X6_append_8.2.1, rfl⟩
theorem d_X6_append_19 : zD m_X6_append 19 (.iload_n 3) 1 20 := ⟨eg_X6_append_8.2.2.1, rfl⟩
theorem d_X6_append_20 : zDj m_X6_append 20 (.ifCond .lt) 23 53 := ⟨33, eg_X6_append_8.2.2.2.1, rfl, by decide⟩
theorem d_X6_append_23 : zD m_X6_append 23 (.aload_n 0) 1 24 := ⟨eg_X6_append_8.2.2.2.2.1, rfl⟩
theorem d_X6_append_24 : zD m_X6_append 24 (.getfield 9) 3 27 := ⟨eg_X6_append_8.2.2.2.2.2.1, rfl⟩
theorem d_X6_append_27 : zD m_X6_append 27 (.aload_n 0) 1 28 := ⟨eg_X6_append_8.2.2.2.2.2.2.1, rfl⟩
theorem d_X6_append_28 : zD m_X6_append 28 (.getfield 15) 3 31 := ⟨eg_X6_append_8.2.2.2.2.2.2.2, rfl⟩
theorem d_X6_append_31 : zD m_X6_append 31 (.lload_n 1) 1 32 := ⟨eg_X6_append_16.1, rfl⟩
theorem d_X6_append_32 : zD m_X6_append 32 (.iload_n 3) 1 33 := ⟨eg_X6_append_16.2.1, rfl⟩
theorem d_X6_append_33 : zD m_X6_append 33 (.lshr) 1 34 := ⟨eg_X6_append_16.2.2.1, rfl⟩
theorem d_X6_append_34 : zD m_X6_append 34 (.l2i) 1 35 := ⟨eg_X6_append_16.2.2.2.1, rfl⟩
theorem d_X6_append_35 : zD m_X6_append 35 (.i2b) 1 36 := ⟨eg_X6_append_16.2.2.2.2.1, rfl⟩
theorem d_X6_append_36 : zD m_X6_append 36 (.bastore) 1 37 := ⟨eg_X6_append_16.2.2.2.2.2.1, rfl⟩
theorem d_X6_append_37 : zD m_X6_append 37 (.aload_n 0) 1 38 := ⟨eg_X6_append_16.2.2.2.2.2.2.1, rfl⟩
theorem d_X6_append_38 : zD m_X6_append 38 (.dup) 1 39 := ⟨eg_X6_append_16.2.2.2.2.2.2.2, rfl⟩
theorem d_X6_append_39 : zD m_X6_append 39 (.getfield 15) 3 42 := ⟨eg_X6_append_24.1, rfl⟩
theorem d_X6_append_42 : zD m_X6_append 42 (.iconst 1) 1 43 := ⟨eg_X6_append_24.2.1, rfl⟩
theorem d_X6_append_43 : zD m_X6_append 43 (.iadd) 1 44 := ⟨eg_X6_append_24.2.2.1, rfl⟩
theorem d_X6_append_44 : zD m_X6_append 44 (.putfield 15) 3 47 := ⟨eg_X6_append_24.2.2.2.1, rfl⟩
theorem d_X6_append_47 : zD m_X6_append 47 (.iinc 3 (-8)) 3 50 := ⟨eg_X6_append_24.2.2.2.2.1, rfl⟩
theorem d_X6_append_50 : zDj m_X6_append 50 (.goto) 53 19 := ⟨-31, eg_X6_append_24.2.2.2.2.2.1, rfl, by decide⟩
theorem d_X6_append_53 : zD m_X6_append 53 (.aload_n 0) 1 54 := ⟨eg_X6_append_24.2.2.2.2.2.2.1, rfl⟩
theorem d_X6_append_54 : zD m_X6_append 54 (.getfield 15) 3 57 := ⟨eg_X6_append_24.2.2.2.2.2.2.2, rfl⟩
theorem d_X6_append_57 : decode (zcc m_X6_append) 57 = .ok (.ireturn, 1) := eg_X6_append_32
set_option maxRecDepth 20000 in
theorem eg_X6_byteAt_0 : decode (zcc m_X6_byteAt) 0 = .ok (.iload_n 1, 1) ∧ decode (zcc m_X6_byteAt) 1 = .ok (.ifCond .lt (11), 3) ∧ decode (zcc m_X6_byteAt) 4 = .ok (.iload_n 1, 1) ∧ decode (zcc m_X6_byteAt) 5 = .ok (.aload_n 0, 1) ∧ decode (zcc m_X6_byteAt) 6 = .ok (.getfield 15, 3) ∧ decode (zcc m_X6_byteAt) 9 = .ok (.if_icmp .lt (7), 3) ∧ decode (zcc m_X6_byteAt) 12 = .ok (.iconst (-1), 1) ∧ decode (zcc m_X6_byteAt) 13 = .ok (.goto (13), 3) := by decide +kernel
set_option maxRecDepth 20000 in
theorem eg_X6_byteAt_8 : decode (zcc m_X6_byteAt) 16 = .ok (.aload_n 0, 1) ∧ decode (zcc m_X6_byteAt) 17 = .ok (.getfield 9, 3) ∧ decode (zcc m_X6_byteAt) 20 = .ok (.iload_n 1, 1) ∧ decode (zcc m_X6_byteAt) 21 = .ok (.baload, 1) ∧ decode (zcc m_X6_byteAt) 22 = .ok (.sipush 255, 3) ∧ decode (zcc m_X6_byteAt) 25 = .ok (.iand, 1) ∧ decode (zcc m_X6_byteAt) 26 = .ok (.ireturn, 1) := by decide +kernel
theorem d_X6_byteAt_0 : zD m_X6_byteAt 0 (.iload_n 1) 1 1 := ⟨eg_X6_byteAt_0.1, rfl⟩
theorem d_X6_byteAt_1 : zDj m_X6_byteAt 1 (.ifCond .lt) 4 12 := ⟨11, eg_X6_byteAt_0.2.1, rfl, by decide⟩
theorem d_X6_byteAt_4 : zD m_X6_byteAt 4 (.iload_n 1) 1 5 := ⟨eg_X6_byteAt_0.2.2.1, rfl⟩
theorem d_X6_byteAt_5 : zD m_X6_byteAt 5 (.aload_n 0) 1 6 := ⟨eg_X6_byteAt_0.2.2.2.1, rfl⟩
theorem d_X6_byteAt_6 : zD m_X6_byteAt 6 (.getfield 15) 3 9 := ⟨eg_X6_byteAt_0.2.2.2.2.1, rfl⟩
theorem d_X6_byteAt_9 : zDj m_X6_byteAt 9 (.if_icmp .lt) 12 16 := ⟨7, eg_X6_byteAt_0.2.2.2.2.2.1, rfl, by decide⟩
theorem d_X6_byteAt_12 : zD m_X6_byteAt 12 (.iconst (-1)) 1 13 := ⟨eg_X6_byteAt_0.2.2.2.2.2.2.1, rfl⟩
theorem d_X6_byteAt_13 : zDj m_X6_byteAt 13 (.goto) 16 26 := ⟨13, eg_X6_byteAt_0.2.2.2.2.2.2.2, rfl, by decide⟩
theorem d_X6_byteAt_16 : zD m_X6_byteAt 16 (.aload_n 0) 1 17 := ⟨eg_X6_byteAt_8.1, rfl⟩
theorem d_X6_byteAt_17 : zD m_X6_byteAt 17 (.getfield 9) 3 20 := ⟨eg_X6_byteAt_8.2.1, rfl⟩
theorem d_X6_byteAt_20 : zD m_X6_byteAt 20 (.iload_n 1) 1 21 := ⟨eg_X6_byteAt_8.2.2.1, rfl⟩
theorem d_X6_byteAt_21 : zD m_X6_byteAt 21 (.baload) 1 22 := ⟨eg_X6_byteAt_8.2.2.2.1, rfl⟩
theorem d_X6_byteAt_22 : zD m_X6_byteAt 22 (.sipush 255) 3 25 := ⟨eg_X6_byteAt_8.2.2.2.2.1, rfl⟩
theorem d_X6_byteAt_25 : zD m_X6_byteAt 25 (.iand) 1 26 := ⟨eg_X6_byteAt_8.2.2.2.2.2.1, rfl⟩
theorem d_X6_byteAt_26 : decode (zcc m_X6_byteAt) 26 = .ok (.ireturn, 1) := eg_X6_byteAt_8.2.2.2.2.2.2
