set_option maxRecDepth 20000 in
theorem eg_X4_init_0 : decode (zcc m_X4_init) 0 = .ok (.aload_n 0, 1) ∧ decode (zcc m_X4_init) 1 = .ok (.invokespecial 3, 3) ∧ decode (zcc m_X4_init) 4 = .ok (.aload_n 0, 1) ∧ decode (zcc m_X4_init) 5 = .ok (.new 9, 3) ∧ decode (zcc m_X4_init) 8 = .ok (.dup, 1) ∧ decode (zcc m_X4_init) 9 = .ok (.invokespecial 11, 3) ∧ decode (zcc m_X4_init) 12 = .ok (.putfield 12, 3) ∧ decode (zcc m_X4_init) 15 = .ok (.aload_n 0, 1) := by decide +kernel
set_option maxRecDepth 20000 in
theorem eg_X4_init_8 : decode (zcc m_X4_init) 16 = .ok (.bipush 48, 2) ∧ decode (zcc m_X4_init) 18 = .ok (.newarray .int, 2) ∧ decode (zcc m_X4_init) 20 = .ok (.putfield 18, 3) ∧ decode (zcc m_X4_init) 23 = .ok (.aload_n 0, 1) ∧ decode (zcc m_X4_init) 24 = .ok (.bipush 10, 2) ∧ decode (zcc m_X4_init) 26 = .ok (.newarray .boolean, 2) ∧ decode (zcc m_X4_init) 28 = .ok (.putfield 22, 3) ∧ decode (zcc m_X4_init) 31 = .ok (.aload_n 0, 1) := by decide +kernel
set_option maxRecDepth 20000 in
theorem eg_X4_init_16 : decode (zcc m_X4_init) 32 = .ok (.aload_n 1, 1) ∧ decode (zcc m_X4_init) 33 = .ok (.putfield 26, 3) ∧ decode (zcc m_X4_init) 36 = .ok (.return_, 1) := by decide +kernel
theorem d_X4_init_0 : zD m_X4_init 0 (.aload_n 0) 1 1 := ⟨eg_X4_init_0.1, rfl⟩
theorem d_X4_init_1 : zD m_X4_init 1 (.invokespecial 3) 3 4 := ⟨eg_X4_init_0.2.1, rfl⟩
theorem d_X4_init_4 : zD m_X4_init 4 (.aload_n 0) 1 5 := ⟨eg_X4_init_0.2.2.1, rfl⟩
theorem d_X4_init_5 : zD m_X4_init 5 (.new 9) 3 8 := ⟨eg_X4_init_0.2.2.2.1, rfl⟩
theorem d_X4_init_8 : zD m_X4_init 8 (.dup) 1 9 := ⟨eg_X4_init_0.2.2.2.2.1, rfl⟩
theorem d_X4_init_9 : zD m_X4_init 9 (.invokespecial 11) 3 12 := ⟨eg_X4_init_0.2.2.2.2.2.1, rfl⟩
theorem d_X4_init_12 : zD m_X4_init 12 (.putfield 12) 3 15 := ⟨eg_X4_init_0.2.2.2.2.2.2.1, rfl⟩
theorem d_X4_init_15 : zD m_X4_init 15 (.aload_n 0) 1 16 := ⟨eg_X4_init_0.2.2.2.2.2.2.2, rfl⟩
theorem d_X4_init_16 : zD m_X4_init 16 (.bipush 48) 2 18 := ⟨eg_X4_init_8.1, rfl⟩
theorem d_X4_init_18 : zD m_X4_init 18 (.newarray .int) 2 20 := ⟨eg_X4_init_8.2.1, rfl⟩
theorem d_X4_init_20 : zD m_X4_init 20 (.putfield 18) 3 23 := ⟨eg_X4_init_8.2.2.1, rfl⟩
theorem d_X4_init_23 : zD m_X4_init 23 (.aload_n 0) 1 24 := ⟨eg_X4_init_8.2.2.2.1, rfl⟩
theorem d_X4_init_24 : zD m_X4_init 24 (.bipush 10) 2 26 := ⟨eg_X4_init_8.2.2.2.2.1, rfl⟩
theorem d_X4_init_26 : zD m_X4_init 26 (.newarray .boolean) 2 28 := ⟨eg_X4_init_8.2.2.2.2.2.1, rfl⟩
theorem d_X4_init_28 : zD m_X4_init 28 (.putfield 22) 3 31 := ⟨eg_X4_init_8.2.2.2.2.2.2.1, rfl⟩
theorem d_X4_init_31 : zD m_X4_init 31 (.aload_n 0) 1 32 := ⟨eg_X4_init_8.2.2.2.2.2.2.2, rfl⟩
theorem d_X4_init_32 : zD m_X4_init 32 (.aload_n 1) 1 33 := ⟨eg_X4_init_16.1, rfl⟩
theorem d_X4_init_33 : zD m_X4_init 33 (.putfield 26) 3 36 := ⟨eg_X4_init_16.2.1, rfl⟩
theorem d_X4_init_36 : decode (zcc m_X4_init) 36 = .ok (.return_, 1) := eg_X4_init_16.2.2
set_option maxRecDepth 20000 in
theorem eg_X4_readAll_0 : decode (zcc m_X4_readAll) 0 = .ok (.aload_n 0, 1) ∧ decode (zcc m_X4_readAll) 1 = .ok (.invokevirtual 30, 3) ∧ decode (zcc m_X4_readAll) 4 = .ok (.iconst 0, 1) ∧ decode (zcc m_X4_readAll) 5 = .ok (.istore_n 1, 1) ∧ decode (zcc m_X4_readAll) 6 = .ok (.aload_n 0, 1) ∧ decode (zcc m_X4_readAll) 7 = .ok (.invokevirtual 33, 3) ∧ decode (zcc m_X4_readAll) 10 = .ok (.iconst 0, 1) ∧ decode (zcc m_X4_readAll) 11 = .ok (.istore_n 2, 1) := by decide +kernel
set_option maxRecDepth 20000 in
theorem eg_X4_readAll_8 : decode (zcc m_X4_readAll) 12 = .ok (.iload_n 2, 1) ∧ decode (zcc m_X4_readAll) 13 = .ok (.sipush 400, 3) ∧ decode (zcc m_X4_readAll) 16 = .ok (.if_icmp .ge (35), 3) ∧ decode (zcc m_X4_readAll) 19 = .ok (.aload_n 0, 1) ∧ decode (zcc m_X4_readAll) 20 = .ok (.getfield 36, 3) ∧ decode (zcc m_X4_readAll) 23 = .ok (.ifCond .ne (28), 3) ∧ decode (zcc m_X4_readAll) 26 = .ok (.aload_n 0, 1) ∧ decode (zcc m_X4_readAll) 27 = .ok (.getfield 40, 3) := by decide +kernel
set_option maxRecDepth 20000 in
theorem eg_X4_readAll_16 : decode (zcc m_X4_readAll) 30 = .ok (.iconst 1, 1) ∧ decode (zcc m_X4_readAll) 31 = .ok (.if_icmp .eq (20), 3) ∧ decode (zcc m_X4_readAll) 34 = .ok (.aload_n 0, 1) ∧ decode (zcc m_X4_readAll) 35 = .ok (.invokevirtual 43, 3) ∧ decode (zcc m_X4_readAll) 38 = .ok (.iinc 1 1, 3) ∧ decode (zcc m_X4_readAll) 41 = .ok (.aload_n 0, 1) ∧ decode (zcc m_X4_readAll) 42 = .ok (.invokevirtual 33, 3) ∧ decode (zcc m_X4_readAll) 45 = .ok (.iinc 2 1, 3) := by decide +kernel
set_option maxRecDepth 20000 in
theorem eg_X4_readAll_24 : decode (zcc m_X4_readAll) 48 = .ok (.goto (-36), 3) ∧ decode (zcc m_X4_readAll) 51 = .ok (.aload_n 0, 1) ∧ decode (zcc m_X4_readAll) 52 = .ok (.invokevirtual 46, 3) ∧ decode (zcc m_X4_readAll) 55 = .ok (.aload_n 0, 1) ∧ decode (zcc m_X4_readAll) 56 = .ok (.getfield 36, 3) ∧ decode (zcc m_X4_readAll) 59 = .ok (.ifCond .ne (7), 3) ∧ decode (zcc m_X4_readAll) 62 = .ok (.iload_n 1, 1) ∧ decode (zcc m_X4_readAll) 63 = .ok (.goto (10), 3) := by decide +kernel
set_option maxRecDepth 20000 in
theorem eg_X4_readAll_32 : decode (zcc m_X4_readAll) 66 = .ok (.bipush (-10), 2) ∧ decode (zcc m_X4_readAll) 68 = .ok (.aload_n 0, 1) ∧ decode (zcc m_X4_readAll) 69 = .ok (.getfield 49, 3) ∧ decode (zcc m_X4_readAll) 72 = .ok (.isub, 1) ∧ decode (zcc m_X4_readAll) 73 = .ok (.ireturn, 1) := by decide +kernel
theorem d_X4_readAll_0 : zD m_X4_readAll 0 (.aload_n 0) 1 1 := ⟨eg_X4_readAll_0.1, rfl⟩
theorem d_X4_readAll_1 : zD m_X4_readAll 1 (.invokevirtual 30) 3 4 := ⟨eg_X4_readAll_0.2.1, rfl⟩
theorem d_X4_readAll_4 : zD m_X4_readAll 4 (.iconst 0) 1 5 := ⟨eg_X4_readAll_0.2.2.1, rfl⟩
theorem d_X4_readAll_5 : zD m_X4_readAll 5 (.istore_n 1) 1 6 := ⟨eg_X4_readAll_0.2.2.2.1, rfl⟩
theorem d_X4_readAll_6 : zD m_X4_readAll 6 (.aload_n 0) 1 7 := ⟨eg_X4_readAll_0.2.2.2.2.1, rfl⟩
theorem d_X4_readAll_7 : zD m_X4_readAll 7 (.invokevirtual 33) 3 10 := ⟨eg_X4_readAll_0.2.2.2.2.2.1, rfl⟩
theorem d_X4_readAll_10 : zD m_X4_readAll 10 (.iconst 0) 1 11 := ⟨eg_X4_readAll_0.2.2.2.2.2.2.1, rfl⟩
theorem d_X4_readAll_11 : zD m_X4_readAll 11 (.istore_n 2) 1 12 := ⟨eg_X4_readAll_0.2.2.2.2.2.2.2, rfl⟩
theorem d_X4_readAll_12 : zD m_X4_readAll 12 (.iload_n 2) 1 13 := ⟨eg_X4_readAll_8.1, rfl⟩
theorem d_X4_readAll_13 : zD m_X4_readAll 13 (.sipush 400) 3 16 := ⟨eg_X4_readAll_8.2.1, rfl⟩
theorem d_X4_readAll_16 : zDj m_X4_readAll 16 (.if_icmp .ge) 19 51 := ⟨35, eg_X4_readAll_8.2.2.1, rfl, by decide⟩
theorem d_X4_readAll_19 : zD m_X4_readAll 19 (.aload_n 0) 1 20 := ⟨eg_X4_readAll_8.2.2.2.1, rfl⟩
theorem d_X4_readAll_20 : zD m_X4_readAll 20 (.getfield 36) 3 23 := ⟨eg_X4_readAll_8.2.2.2.2.1, rfl⟩
theorem d_X4_readAll_23 : zDj m_X4_readAll 23 (.ifCond .ne) 26 51 := ⟨28, eg_X4_readAll_8.2.2.2.2.2.1, rfl, by decide⟩
theorem d_X4_readAll_26 : zD m_X4_readAll 26 (.aload_n 0) 1 27 := ⟨eg_X4_readAll_8.2.2.2.2.2.2.1, rfl⟩
theorem d_X4_readAll_27 : zD m_X4_readAll 27 (.getfield 40) 3 30 := ⟨eg_X4_readAll_8.2.2.2.2.2.2.2, rfl⟩
theorem d_X4_readAll_30 : zD m_X4_readAll 30 (.iconst 1) 1 31 := ⟨eg_X4_readAll_16.1, rfl⟩
theorem d_X4_readAll_31 : zDj m_X4_readAll 31 (.if_icmp .eq) 34 51 := ⟨20, eg_X4_readAll_16.2.1, rfl, by decide⟩
theorem d_X4_readAll_34 : zD m_X4_readAll 34 (.aload_n 0) 1 35 := ⟨eg_X4_readAll_16.2.2.1, rfl⟩
theorem d_X4_readAll_35 : zD m_X4_readAll 35 (.invokevirtual 43) 3 38 := ⟨eg_X4_readAll_16.2.2.2.1, rfl⟩
theorem d_X4_readAll_38 : zD m_X4_readAll 38 (.iinc 1 1) 3 41 := ⟨eg_X4_readAll_16.2.2.2.2.1, rfl⟩
theorem d_X4_readAll_41 : zD m_X4_readAll 41 (.aload_n 0) 1 42 := ⟨eg_X4_readAll_16.2.2.2.2.2.1, rfl⟩
theorem d_X4_readAll_42 : zD m_X4_readAll 42 (.invokevirtual 33) 3 45 := ⟨eg_X4_readAll_16.2.2.2.2.2.2.1, rfl⟩
theorem d_X4_readAll_45 : zD m_X4_readAll 45 (.iinc 2 1) 3 48 := ⟨eg_X4_readAll_16.2.2.2.2.2.2.2, rfl⟩
theorem d_X4_readAll_48 : zDj m_X4_readAll 48 (.goto) 51 12 := ⟨-36, eg_X4_readAll_24.1, rfl, by decide⟩
theorem d_X4_readAll_51 : zD m_X4_readAll 51 (.aload_n 0) 1 52 := ⟨eg_X4_readAll_24.2.1, rfl⟩
theorem d_X4_readAll_52 : zD m_X4_readAll 52 (.invokevirtual 46) 3 55 := ⟨eg_X4_readAll_24.2.2.1, rfl⟩
theorem d_X4_readAll_55 : zD m_X4_readAll 55 (.aload_n 0) 1 56 := ⟨eg_X4_readAll_24.2.2.2.1, rfl⟩
theorem d_X4_readAll_56 : zD m_X4_readAll 56 (.getfield 36) 3 59 := ⟨eg_X4_readAll_24.2.2.2.2.1, rfl⟩
theorem d_X4_readAll_59 : zDj m_X4_readAll 59 (.ifCond .ne) 62 66 := ⟨7, eg_X4_readAll_24.2.2.2.2.2.1, rfl, by decide⟩
theorem d_X4_readAll_62 : zD m_X4_readAll 62 (.iload_n 1) 1 63 := ⟨eg_X4_readAll_24.2.2.2.2.2.2.1, rfl⟩
theorem d_X4_readAll_63 : zDj m_X4_readAll 63 (.goto) 66 73 := ⟨10, eg_X4_readAll_24.2.2.2.2.2.2.2, rfl, by decide⟩
theorem d_X4_readAll_66 : zD m_X4_readAll 66 (.bipush (-10)) 2 68 := ⟨eg_X4_readAll_32.1, rfl⟩
theorem d_X4_readAll_68 : zD m_X4_readAll 68 (.aload_n 0) 1 69 := ⟨eg_X4_readAll_32.2.1, rfl⟩
theorem d_X4_readAll_69 : zD m_X4_readAll 69 (.getfield 49) 3 72 := ⟨eg_X4_readAll_32.2.2.1, rfl⟩
theorem d_X4_readAll_72 : zD m_X4_readAll 72 (.isub) 1 73 := ⟨eg_X4_readAll_32.2.2.2.1, rfl⟩
theorem d_X4_readAll_73 : decode (zcc m_X4_readAll) 73 = .ok (.ireturn, 1) := eg_X4_readAll_32.2.2.2.2
set_option maxRecDepth 20000 in
theorem eg_X4_begin_0 : decode (zcc m_X4_begin) 0 = .ok (.aload_n 0, 1) ∧ decode (zcc m_X4_begin) 1 = .ok (.getfield 12, 3) ∧ decode (zcc m_X4_begin) 4 = .ok (.invokevirtual 52, 3) ∧ decode (zcc m_X4_begin) 7 = .ok (.aload_n 0, 1) ∧ decode (zcc m_X4_begin) 8 = .ok (.getfield 18, 3) ∧ decode (zcc m_X4_begin) 11 = .ok (.iconst 0, 1) ∧ decode (zcc m_X4_begin) 12 = .ok (.invokestatic 55, 3) ∧ decode (zcc m_X4_begin) 15 = .ok (.iconst 0, 1) := by decide +kernel
set_option maxRecDepth 20000 in
theorem eg_X4_begin_8 : decode (zcc m_X4_begin) 16 = .ok (.istore_n 1, 1) ∧ decode (zcc m_X4_begin) 17 = .ok (.iload_n 1, 1) ∧ decode (zcc m_X4_begin) 18 = .ok (.bipush 10, 2) ∧ decode (zcc m_X4_begin) 20 = .ok (.if_icmp .ge (16), 3) ∧ decode (zcc m_X4_begin) 23 = .ok (.aload_n 0, 1) ∧ decode (zcc m_X4_begin) 24 = .ok (.getfield 22, 3) ∧ decode (zcc m_X4_begin) 27 = .ok (.iload_n 1, 1) ∧ decode (zcc m_X4_begin) 28 = .ok (.iconst 0, 1) := by decide +kernel
set_option maxRecDepth 20000 in
theorem eg_X4_begin_16 : decode (zcc m_X4_begin) 29 = .ok (.bastore, 1) ∧ decode (zcc m_X4_begin) 30 = .ok (.iinc 1 1, 3) ∧ decode (zcc m_X4_begin) 33 = .ok (.goto (-16), 3) ∧ decode (zcc m_X4_begin) 36 = .ok (.aload_n 0, 1) ∧ decode (zcc m_X4_begin) 37 = .ok (.iconst 0, 1) ∧ decode (zcc m_X4_begin) 38 = .ok (.putfield 61, 3) ∧ decode (zcc m_X4_begin) 41 = .ok (.aload_n 0, 1) ∧ decode (zcc m_X4_begin) 42 = .ok (.iconst 0, 1) := by decide +kernel
set_option maxRecDepth 20000 in
theorem eg_X4_begin_24 : decode (zcc m_X4_begin) 43 = .ok (.putfield 64, 3) ∧ decode (zcc m_X4_begin) 46 = .ok (.aload_n 0, 1) ∧ decode (zcc m_X4_begin) 47 = .ok (.iconst 0, 1) ∧ decode (zcc m_X4_begin) 48 = .ok (.putfield 36, 3) ∧ decode (zcc m_X4_begin) 51 = .ok (.return_, 1) := by decide +kernel
theorem d_X4_begin_0 : zD m_X4_begin 0 (.aload_n 0) 1 1 := ⟨eg_X4_begin_0.1, rfl⟩
theorem d_X4_begin_1 : zD m_X4_begin 1 (.getfield 12) 3 4 := ⟨eg_X4_begin_0.2.1, rfl⟩
theorem d_X4_begin_4 : zD m_X4_begin 4 (.invokevirtual 52) 3 7 := ⟨eg_X4_begin_0.2.2.1, rfl⟩
theorem d_X4_begin_7 : zD m_X4_begin 7 (.aload_n 0) 1 8 := ⟨eg_X4_begin_0.2.2.2.1, rfl⟩
theorem d_X4_begin_8 : zD m_X4_begin 8 (.getfield 18) 3 11 := ⟨eg_X4_begin_0.2.2.2.2.1, rfl⟩
theorem d_X4_begin_11 : zD m_X4_begin 11 (.iconst 0) 1 12 := ⟨eg_X4_begin_0.2.2.2.2.2.1, rfl⟩
theorem d_X4_begin_12 : zD m_X4_begin 12 (.invokestatic 55) 3 15 := ⟨eg_X4_begin_0.2.2.2.2.2.2.1, rfl⟩
theorem d_X4_begin_15 : zD m_X4_begin 15 (.iconst 0) 1 16 := ⟨eg_X4_begin_0.2.2.2.2.2.2.2, rfl⟩
theorem d_X4_begin_16 : zD m_X4_begin 16 (.istore_n 1) 1 17 := ⟨eg_X4_begin_8.1, rfl⟩
theorem d_X4_begin_17 : zD m_X4_begin 17 (.iload_n 1) 1 18 := ⟨eg_X4_begin_8.2.1, rfl⟩
theorem d_X4_begin_18 : zD m_X4_begin 18 (.bipush 10) 2 20 := ⟨eg_X4_begin_8.2.2.1, rfl⟩
theorem d_X4_begin_20 : zDj m_X4_begin 20 (.if_icmp .ge) 23 36 := ⟨16, eg_X4_begin_8.2.2.2.1, rfl, by decide⟩
theorem d_X4_begin_23 : zD m_X4_begin 23 (.aload_n 0) 1 24 := ⟨eg_X4_begin_8.2.2.2.2.1, rfl⟩
theorem d_X4_begin_24 : zD m_X4_begin 24 (.getfield 22) 3 27 := ⟨eg_X4_begin_8.2.2.2.2.2.1, rfl⟩
theorem d_X4_begin_27 : zD m_X4_begin 27 (.iload_n 1) 1 28 := ⟨eg_X4_begin_8.2.2.2.2.2.2.1, rfl⟩
theorem d_X4_begin_28 : zD m_X4_begin 28 (.iconst 0) 1 29 := ⟨eg_X4_begin_8.2.2.2.2.2.2.2, rfl⟩
theorem d_X4_begin_29 : zD m_X4_begin 29 (.bastore) 1 30 := ⟨eg_X4_begin_16.1, rfl⟩
theorem d_X4_begin_30 : zD m_X4_begin 30 (.iinc 1 1) 3 33 := ⟨eg_X4_begin_16.2.1, rfl⟩
theorem d_X4_begin_33 : zDj m_X4_begin 33 (.goto) 36 17 := ⟨-16, eg_X4_begin_16.2.2.1, rfl, by decide⟩
theorem d_X4_begin_36 : zD m_X4_begin 36 (.aload_n 0) 1 37 := ⟨eg_X4_begin_16.2.2.2.1, rfl⟩
theorem d_X4_begin_37 : zD m_X4_begin 37 (.iconst 0) 1 38 := ⟨eg_X4_begin_16.2.2.2.2.1, rfl⟩
theorem d_X4_begin_38 : zD m_X4_begin 38 (.putfield 61) 3 41 := ⟨eg_X4_begin_16.2.2.2.2.2.1, rfl⟩
theorem d_X4_begin_41 : zD m_X4_begin 41 (.aload_n 0) 1 42 := ⟨eg_X4_begin_16.2.2.2.2.2.2.1, rfl⟩
theorem d_X4_begin_42 : zD m_X4_begin 42 (.iconst 0) 1 43 := ⟨eg_X4_begin_16.2.2.2.2.2.2.2, rfl⟩
theorem d_X4_begin_43 : zD m_X4_begin 43 (.putfield 64) 3 46 := ⟨eg_X4_begin_24.1, rfl⟩
theorem d_X4_begin_46 : zD m_X4_begin 46 (.aload_n 0) 1 47 := ⟨eg_X4_begin_24.2.1, rfl⟩
theorem d_X4_begin_47 : zD m_X4_begin 47 (.iconst 0) 1 48 := ⟨eg_X4_begin_24.2.2.1, rfl⟩
theorem d_X4_begin_48 : zD m_X4_begin 48 (.putfield 36) 3 51 := ⟨eg_X4_begin_24.2.2.2.1, rfl⟩
theorem d_X4_begin_51 : decode (zcc m_X4_begin) 51 = .ok (.return_, 1) := eg_X4_begin_24.2.2.2.2
set_option maxRecDepth 20000 in
theorem eg_X4_fail_0 : decode (zcc m_X4_fail) 0 = .ok (.aload_n 0, 1) ∧ decode (zcc m_X4_fail) 1 = .ok (.getfield 36, 3) ∧ decode (zcc m_X4_fail) 4 = .ok (.ifCond .ne (13), 3) ∧ decode (zcc m_X4_fail) 7 = .ok (.aload_n 0, 1) ∧ decode (zcc m_X4_fail) 8 = .ok (.iload_n 1, 1) ∧ decode (zcc m_X4_fail) 9 = .ok (.putfield 36, 3) ∧ decode (zcc m_X4_fail) 12 = .ok (.aload_n 0, 1) ∧ decode (zcc m_X4_fail) 13 = .ok (.iload_n 2, 1) := by decide +kernel
set_option maxRecDepth 20000 in
theorem eg_X4_fail_8 : decode (zcc m_X4_fail) 14 = .ok (.putfield 49, 3) ∧ decode (zcc m_X4_fail) 17 = .ok (.return_, 1) := by decide +kernel
theorem d_X4_fail_0 : zD m_X4_fail 0 (.aload_n 0) 1 1 := ⟨eg_X4_fail_0.1, rfl⟩
theorem d_X4_fail_1 : zD m_X4_fail 1 (.getfield 36) 3 4 := ⟨eg_X4_fail_0.2.1, rfl⟩
theorem d_X4_fail_4 : zDj m_X4_fail 4 (.ifCond .ne) 7 17 := ⟨13, eg_X4_fail_0.2.2.1, rfl, by decide⟩
theorem d_X4_fail_7 : zD m_X4_fail 7 (.aload_n 0) 1 8 := ⟨eg_X4_fail_0.2.2.2.1, rfl⟩
theorem d_X4_fail_8 : zD m_X4_fail 8 (.iload_n 1) 1 9 := ⟨eg_X4_fail_0.2.2.2.2.1, rfl⟩
theorem d_X4_fail_9 : zD m_X4_fail 9 (.putfield 36) 3 12 := ⟨eg_X4_fail_0.2.2.2.2.2.1, rfl⟩
theorem d_X4_fail_12 : zD m_X4_fail 12 (.aload_n 0) 1 13 := ⟨eg_X4_fail_0.2.2.2.2.2.2.1, rfl⟩
theorem d_X4_fail_13 : zD m_X4_fail 13 (.iload_n 2) 1 14 := ⟨eg_X4_fail_0.2.2.2.2.2.2.2, rfl⟩
theorem d_X4_fail_14 : zD m_X4_fail 14 (.putfield 49) 3 17 := ⟨eg_X4_fail_8.1, rfl⟩
theorem d_X4_fail_17 : decode (zcc m_X4_fail) 17 = .ok (.return_, 1) := eg_X4_fail_8.2
set_option maxRecDepth 20000 in
theorem eg_X4_fetch_0 : decode (zcc m_X4_fetch) 0 = .ok (.aload_n 0, 1) ∧ decode (zcc m_X4_fetch) 1 = .ok (.iconst 0, 1) ∧ decode (zcc m_X4_fetch) 2 = .ok (.putfield 40, 3) ∧ decode (zcc m_X4_fetch) 5 = .ok (.aload_n 0, 1) ∧ decode (zcc m_X4_fetch) 6 = .ok (.getfield 36, 3) ∧ decode (zcc m_X4_fetch) 9 = .ok (.ifCond .eq (4), 3) ∧ decode (zcc m_X4_fetch) 12 = .ok (.return_, 1) ∧ decode (zcc m_X4_fetch) 13 = .ok (.iconst 0, 1) := by decide +kernel
set_option maxRecDepth 20000 in
theorem eg_X4_fetch_8 : decode (zcc m_X4_fetch) 14 = .ok (.istore_n 1, 1) ∧ decode (zcc m_X4_fetch) 15 = .ok (.iload_n 1, 1) ∧ decode (zcc m_X4_fetch) 16 = .ok (.sipush 400, 3) ∧ decode (zcc m_X4_fetch) 19 = .ok (.if_icmp .ge (35), 3) ∧ decode (zcc m_X4_fetch) 22 = .ok (.aload_n 0, 1) ∧ decode (zcc m_X4_fetch) 23 = .ok (.getfield 26, 3) ∧ decode (zcc m_X4_fetch) 26 = .ok (.aload_n 0, 1) ∧ decode (zcc m_X4_fetch) 27 = .ok (.getfield 61, 3) := by decide +kernel
set_option maxRecDepth 20000 in
theorem eg_X4_fetch_16 : decode (zcc m_X4_fetch) 30 = .ok (.invokevirtual 67, 3) ∧ decode (zcc m_X4_fetch) 33 = .ok (.bipush 32, 2) ∧ decode (zcc m_X4_fetch) 35 = .ok (.if_icmp .ne (19), 3) ∧ decode (zcc m_X4_fetch) 38 = .ok (.aload_n 0, 1) ∧ decode (zcc m_X4_fetch) 39 = .ok (.dup, 1) ∧ decode (zcc m_X4_fetch) 40 = .ok (.getfield 61, 3) ∧ decode (zcc m_X4_fetch) 43 = .ok (.iconst 1, 1) ∧ decode (zcc m_X4_fetch) 44 = .ok (.iadd, 1) := by decide +kernel
set_option maxRecDepth 20000 in
theorem eg_X4_fetch_24 : decode (zcc m_X4_fetch) 45 = .ok (.putfield 61, 3) ∧ decode (zcc m_X4_fetch) 48 = .ok (.iinc 1 1, 3) ∧ decode (zcc m_X4_fetch) 51 = .ok (.goto (-36), 3) ∧ decode (zcc m_X4_fetch) 54 = .ok (.aload_n 0, 1) ∧ decode (zcc m_X4_fetch) 55 = .ok (.aload_n 0, 1) ∧ decode (zcc m_X4_fetch) 56 = .ok (.getfield 61, 3) ∧ decode (zcc m_X4_fetch) 59 = .ok (.putfield 73, 3) ∧ decode (zcc m_X4_fetch) 62 = .ok (.aload_n 0, 1) := by decide +kernel
set_option maxRecDepth 20000 in
theorem eg_X4_fetch_32 : decode (zcc m_X4_fetch) 63 = .ok (.iconst 0, 1) ∧ decode (zcc m_X4_fetch) 64 = .ok (.putfield 76, 3) ∧ decode (zcc m_X4_fetch) 67 = .ok (.aload_n 0, 1) ∧ decode (zcc m_X4_fetch) 68 = .ok (.aload_n 0, 1) ∧ decode (zcc m_X4_fetch) 69 = .ok (.getfield 26, 3) ∧ decode (zcc m_X4_fetch) 72 = .ok (.aload_n 0, 1) ∧ decode (zcc m_X4_fetch) 73 = .ok (.getfield 61, 3) ∧ decode (zcc m_X4_fetch) 76 = .ok (.invokevirtual 67, 3) := by decide +kernel
set_option maxRecDepth 20000 in
theorem eg_X4_fetch_40 : decode (zcc m_X4_fetch) 79 = .ok (.invokestatic 79, 3) ∧ decode (zcc m_X4_fetch) 82 = .ok (.putfield 40, 3) ∧ decode (zcc m_X4_fetch) 85 = .ok (.aload_n 0, 1) ∧ decode (zcc m_X4_fetch) 86 = .ok (.getfield 40, 3) ∧ decode (zcc m_X4_fetch) 89 = .ok (.iconst 4, 1) ∧ decode (zcc m_X4_fetch) 90 = .ok (.if_icmp .ne (16), 3) ∧ decode (zcc m_X4_fetch) 93 = .ok (.aload_n 0, 1) ∧ decode (zcc m_X4_fetch) 94 = .ok (.dup, 1) := by decide +kernel
set_option maxRecDepth 20000 in
theorem eg_X4_fetch_48 : decode (zcc m_X4_fetch) 95 = .ok (.getfield 61, 3) ∧ decode (zcc m_X4_fetch) 98 = .ok (.iconst 1, 1) ∧ decode (zcc m_X4_fetch) 99 = .ok (.iadd, 1) ∧ decode (zcc m_X4_fetch) 100 = .ok (.putfield 61, 3) ∧ decode (zcc m_X4_fetch) 103 = .ok (.goto (23), 3) ∧ decode (zcc m_X4_fetch) 106 = .ok (.aload_n 0, 1) ∧ decode (zcc m_X4_fetch) 107 = .ok (.getfield 40, 3) ∧ decode (zcc m_X4_fetch) 110 = .ok (.iconst 2, 1) := by decide +kernel
set_option maxRecDepth 20000 in
theorem eg_X4_fetch_56 : decode (zcc m_X4_fetch) 111 = .ok (.if_icmp .eq (11), 3) ∧ decode (zcc m_X4_fetch) 114 = .ok (.aload_n 0, 1) ∧ decode (zcc m_X4_fetch) 115 = .ok (.getfield 40, 3) ∧ decode (zcc m_X4_fetch) 118 = .ok (.iconst 3, 1) ∧ decode (zcc m_X4_fetch) 119 = .ok (.if_icmp .ne (7), 3) ∧ decode (zcc m_X4_fetch) 122 = .ok (.aload_n 0, 1) ∧ decode (zcc m_X4_fetch) 123 = .ok (.invokevirtual 82, 3) ∧ decode (zcc m_X4_fetch) 126 = .ok (.aload_n 0, 1) := by decide +kernel
set_option maxRecDepth 20000 in
theorem eg_X4_fetch_64 : decode (zcc m_X4_fetch) 127 = .ok (.getfield 40, 3) ∧ decode (zcc m_X4_fetch) 130 = .ok (.ifCond .eq (24), 3) ∧ decode (zcc m_X4_fetch) 133 = .ok (.aload_n 0, 1) ∧ decode (zcc m_X4_fetch) 134 = .ok (.getfield 40, 3) ∧ decode (zcc m_X4_fetch) 137 = .ok (.iconst 3, 1) ∧ decode (zcc m_X4_fetch) 138 = .ok (.if_icmp .ne (30), 3) ∧ decode (zcc m_X4_fetch) 141 = .ok (.aload_n 0, 1) ∧ decode (zcc m_X4_fetch) 142 = .ok (.getfield 61, 3) := by decide +kernel
set_option maxRecDepth 20000 in
theorem eg_X4_fetch_72 : decode (zcc m_X4_fetch) 145 = .ok (.aload_n 0, 1) ∧ decode (zcc m_X4_fetch) 146 = .ok (.getfield 73, 3) ∧ decode (zcc m_X4_fetch) 149 = .ok (.isub, 1) ∧ decode (zcc m_X4_fetch) 150 = .ok (.iconst 3, 1) ∧ decode (zcc m_X4_fetch) 151 = .ok (.if_icmp .le (17), 3) ∧ decode (zcc m_X4_fetch) 154 = .ok (.aload_n 0, 1) ∧ decode (zcc m_X4_fetch) 155 = .ok (.iconst 0, 1) ∧ decode (zcc m_X4_fetch) 156 = .ok (.putfield 40, 3) := by decide +kernel
set_option maxRecDepth 20000 in
theorem eg_X4_fetch_80 : decode (zcc m_X4_fetch) 159 = .ok (.aload_n 0, 1) ∧ decode (zcc m_X4_fetch) 160 = .ok (.iconst 1, 1) ∧ decode (zcc m_X4_fetch) 161 = .ok (.aload_n 0, 1) ∧ decode (zcc m_X4_fetch) 162 = .ok (.getfield 73, 3) ∧ decode (zcc m_X4_fetch) 165 = .ok (.invokevirtual 85, 3) ∧ decode (zcc m_X4_fetch) 168 = .ok (.return_, 1) := by decide +kernel
theorem d_X4_fetch_0 : zD m_X4_fetch 0 (.aload_n 0) 1 1 := ⟨eg_X4_fetch_0.1, rfl⟩
theorem d_X4_fetch_1 : zD m_X4_fetch 1 (.iconst 0) 1 2 := ⟨eg_X4_fetch_0.2.1, rfl⟩
theorem d_X4_fetch_2 : zD m_X4_fetch 2 (.putfield 40) 3 5 := ⟨eg_X4_fetch_0.2.2.1, rfl⟩
theorem d_X4_fetch_5 : zD m_X4_fetch 5 (.aload_n 0) 1 6 := ⟨eg_X4_fetch_0.2.2.2.1, rfl⟩
theorem d_X4_fetch_6 : zD m_X4_fetch 6 (.getfield 36) 3 9 := ⟨eg_X4_fetch_0.2.2.2.2.1, rfl⟩
theorem d_X4_fetch_9 : zDj m_X4_fetch 9 (.ifCond .eq) 12 13 := ⟨4, eg_X4_fetch_0.2.2.2.2.2.1, rfl, by decide⟩
theorem d_X4_fetch_12 : decode (zcc m_X4_fetch) 12 = .ok (.return_, 1) := eg_X4_fetch_0.2.2.2.2.2.2.1
theorem d_X4_fetch_13 : zD m_X4_fetch 13 (.iconst 0) 1 14 := ⟨eg_X4_fetch_0.2.2.2.2.2.2.2, rfl⟩
theorem d_X4_fetch_14 : zD m_X4_fetch 14 (.istore_n 1) 1 15 := ⟨eg_X4_fetch_8.1, rfl⟩
theorem d_X4_fetch_15 : zD m_X4_fetch 15 (.iload_n 1) 1 16 := ⟨eg_X4_fetch_8.2.1, rfl⟩
theorem d_X4_fetch_16 : zD m_X4_fetch 16 (.sipush 400) 3 19 := ⟨eg_X4_fetch_8.2.2.1, rfl⟩
theorem d_X4_fetch_19 : zDj m_X4_fetch 19 (.if_icmp .ge) 22 54 := ⟨35, eg_X4_fetch_8.2.2.2.1, rfl, by decide⟩
theorem d_X4_fetch_22 : zD m_X4_fetch 22 (.aload_n 0) 1 23 := ⟨eg_X4_fetch_8.2.2.2.2.1, rfl⟩
theorem d_X4_fetch_23 : zD m_X4_fetch 23 (.getfield 26) 3 26 := ⟨eg_X4_fetch_8.2.2.2.2.2.1, rfl⟩
theorem d_X4_fetch_26 : zD m_X4_fetch 26 (.aload_n 0) 1 27 := ⟨eg_X4_fetch_8.2.2.2.2.2.2.1, rfl⟩
theorem d_X4_fetch_27 : zD m_X4_fetch 27 (.getfield 61) 3 30 := ⟨eg_X4_fetch_8.2.2.2.2.2.2.2, rfl⟩
theorem d_X4_fetch_30 : zD m_X4_fetch 30 (.invokevirtual 67) 3 33 := ⟨eg_X4_fetch_16.1, rfl⟩
theorem d_X4_fetch_33 : zD m_X4_fetch 33 (.bipush 32) 2 35 := ⟨eg_X4_fetch_16.2.1, rfl⟩
theorem d_X4_fetch_35 : zDj m_X4_fetch 35 (.if_icmp .ne) 38 54 := ⟨19, eg_X4_fetch_16.2.2.1, rfl, by decide⟩
theorem d_X4_fetch_38 : zD m_X4_fetch 38 (.aload_n 0) 1 39 := ⟨eg_X4_fetch_16.2.2.2.1, rfl⟩
theorem d_X4_fetch_39 : zD m_X4_fetch 39 (.dup) 1 40 := ⟨eg_X4_fetch_16.2.2.2.2.1, rfl⟩
theorem d_X4_fetch_40 : zD m_X4_fetch 40 (.getfield 61) 3 43 := ⟨eg_X4_fetch_16.2.2.2.2.2.1, rfl⟩
theorem d_X4_fetch_43 : zD m_X4_fetch 43 (.iconst 1) 1 44 := ⟨eg_X4_fetch_16.2.2.2.2.2.2.1, rfl⟩
theorem d_X4_fetch_44 : zD m_X4_fetch 44 (.iadd) 1 45 := ⟨eg_X4_fetch_16.2.2.2.2.2.2.2, rfl⟩
theorem d_X4_fetch_45 : zD m_X4_fetch 45 (.putfield 61) 3 48 := ⟨eg_X4_fetch_24.1, rfl⟩
theorem d_X4_fetch_48 : zD m_X4_fetch 48 (.iinc 1 1) 3 51 := ⟨eg_X4_fetch_24.2.1, rfl⟩
theorem d_X4_fetch_51 : zDj m_X4_fetch 51 (.goto) 54 15 := ⟨-36, eg_X4_fetch_24.2.2.1, rfl, by decide⟩
theorem d_X4_fetch_54 : zD m_X4_fetch 54 (.aload_n 0) 1 55 := ⟨eg_X4_fetch_24.2.2.2.1, rfl⟩
theorem d_X4_fetch_55 : zD m_X4_fetch 55 (.aload_n 0) 1 56 := ⟨eg_X4_fetch_24.2.2.2.2.1, rfl⟩
theorem d_X4_fetch_56 : zD m_X4_fetch 56 (.getfield 61) 3 59 := ⟨eg_X4_fetch_24.2.2.2.2.2.1, rfl⟩
theorem d_X4_fetch_59 : zD m_X4_fetch 59 (.putfield 73) 3 62 := ⟨eg_X4_fetch_24.2.2.2.2.2.2.1, rfl⟩
theorem d_X4_fetch_62 : zD m_X4_fetch 62 (.aload_n 0) 1 63 := ⟨eg_X4_fetch_24.2.2.2.2.2.2.2, rfl⟩
theorem d_X4_fetch_63 : zD m_X4_fetch 63 (.iconst 0) 1 64 := ⟨eg_X4_fetch_32.1, rfl⟩
theorem d_X4_fetch_64 : zD m_X4_fetch 64 (.putfield 76) 3 67 := ⟨eg_X4_fetch_32.2.1, rfl⟩
theorem d_X4_fetch_67 : zD m_X4_fetch 67 (.aload_n 0) 1 68 := ⟨eg_X4_fetch_32.2.2.1, rfl⟩
theorem d_X4_fetch_68 : zD m_X4_fetch 68 (.aload_n 0) 1 69 := ⟨eg_X4_fetch_32.2.2.2.1, rfl⟩
theorem d_X4_fetch_69 : zD m_X4_fetch 69 (.getfield 26) 3 72 := ⟨eg_X4_fetch_32.2.2.2.2.1, rfl⟩
theorem d_X4_fetch_72 : zD m_X4_fetch 72 (.aload_n 0) 1 73 := ⟨eg_X4_fetch_32.2.2.2.2.2.1, rfl⟩
theorem d_X4_fetch_73 : zD m_X4_fetch 73 (.getfield 61) 3 76 := ⟨eg_X4_fetch_32.2.2.2.2.2.2.1, rfl⟩
theorem d_X4_fetch_76 : zD m_X4_fetch 76 (.invokevirtual 67) 3 79 := ⟨eg_X4_fetch_32.2.2.2.2.2.2.2, rfl⟩
theorem d_X4_fetch_79 : zD m_X4_fetch 79 (.invokestatic 79) 3 82 := ⟨eg_X4_fetch_40.1, rfl⟩
theorem d_X4_fetch_82 : zD m_X4_fetch 82 (.putfield 40) 3 85 := ⟨eg_X4_fetch_40.2.1, rfl⟩
theorem d_X4_fetch_85 : zD m_X4_fetch 85 (.aload_n 0) 1 86 := ⟨eg_X4_fetch_40.2.2.1, rfl⟩
theorem d_X4_fetch_86 : zD m_X4_fetch 86 (.getfield 40) 3 89 := ⟨eg_X4_fetch_40.2.2.2.1, rfl⟩
theorem d_X4_fetch_89 : zD m_X4_fetch 89 (.iconst 4) 1 90 := ⟨eg_X4_fetch_40.2.2.2.2.1, rfl⟩
theorem d_X4_fetch_90 : zDj m_X4_fetch 90 (.if_icmp .ne) 93 106 := ⟨16, eg_X4_fetch_40.2.2.2.2.2.1, rfl, by decide⟩
theorem d_X4_fetch_93 : zD m_X4_fetch 93 (.aload_n 0) 1 94 := ⟨eg_X4_fetch_40.2.2.2.2.2.2.1, rfl⟩
theorem d_X4_fetch_94 : zD m_X4_fetch 94 (.dup) 1 95 := ⟨eg_X4_fetch_40.2.2.2.2.2.2.2, rfl⟩
theorem d_X4_fetch_95 : zD m_X4_fetch 95 (.getfield 61) 3 98 := ⟨eg_X4_fetch_48.1, rfl⟩
theorem d_X4_fetch_98 : zD m_X4_fetch 98 (.iconst 1) 1 99 := ⟨eg_X4_fetch_48.2.1, rfl⟩
theorem d_X4_fetch_99 : zD m_X4_fetch 99 (.iadd) 1 100 := ⟨eg_X4_fetch_48.2.2.1, rfl⟩
theorem d_X4_fetch_100 : zD m_X4_fetch 100 (.putfield 61) 3 103 := ⟨eg_X4_fetch_48.2.2.2.1, rfl⟩
theorem d_X4_fetch_103 : zDj m_X4_fetch 103 (.goto) 106 126 := ⟨23, eg_X4_fetch_48.2.2.2.2.1, rfl, by decide⟩
theorem d_X4_fetch_106 : zD m_X4_fetch 106 (.aload_n 0) 1 107 := ⟨eg_X4_fetch_48.2.2.2.2.2.1, rfl⟩
theorem d_X4_fetch_107 : zD m_X4_fetch 107 (.getfield 40) 3 110 := ⟨eg_X4_fetch_48.2.2.2.2.2.2.1, rfl⟩
theorem d_X4_fetch_110 : zD m_X4_fetch 110 (.iconst 2) 1 111 := ⟨eg_X4_fetch_48.2.2.2.2.2.2.2, rfl⟩
theorem d_X4_fetch_111 : zDj m_X4_fetch 111 (.if_icmp .eq) 114 122 := ⟨11, eg_X4_fetch_56.1, rfl, by decide⟩
theorem d_X4_fetch_114 : zD m_X4_fetch 114 (.aload_n 0) 1 115 := ⟨eg_X4_fetch_56.2.1, rfl⟩
theorem d_X4_fetch_115 : zD m_X4_fetch 115 (.getfield 40) 3 118 := ⟨eg_X4_fetch_56.2.2.1, rfl⟩
theorem d_X4_fetch_118 : zD m_X4_fetch 118 (.iconst 3) 1 119 := ⟨eg_X4_fetch_56.2.2.2.1, rfl⟩
theorem d_X4_fetch_119 : zDj m_X4_fetch 119 (.if_icmp .ne) 122 126 := ⟨7, eg_X4_fetch_56.2.2.2.2.1, rfl, by decide⟩
theorem d_X4_fetch_122 : zD m_X4_fetch 122 (.aload_n 0) 1 123 := ⟨eg_X4_fetch_56.2.2.2.2.2.1, rfl⟩
theorem d_X4_fetch_123 : zD m_X4_fetch 123 (.invokevirtual 82) 3 126 := ⟨eg_X4_fetch_56.2.2.2.2.2.2.1, rfl⟩
theorem d_X4_fetch_126 : zD m_X4_fetch 126 (.aload_n 0) 1 127 := ⟨eg_X4_fetch_56.2.2.2.2.2.2.2, rfl⟩
theorem d_X4_fetch_127 : zD m_X4_fetch 127 (.getfield 40) 3 130 := ⟨eg_X4_fetch_64.1, rfl⟩
theorem d_X4_fetch_130 : zDj m_X4_fetch 130 (.ifCond .eq) 133 154 := ⟨24, eg_X4_fetch_64.2.1, rfl, by decide⟩
theorem d_X4_fetch_133 : zD m_X4_fetch 133 (.aload_n 0) 1 134 := ⟨eg_X4_fetch_64.2.2.1, rfl⟩
theorem d_X4_fetch_134 : zD m_X4_fetch 134 (.getfield 40) 3 137 := ⟨eg_X4_fetch_64.2.2.2.1, rfl⟩
theorem d_X4_fetch_137 : zD m_X4_fetch 137 (.iconst 3) 1 138 := ⟨eg_X4_fetch_64.2.2.2.2.1, rfl⟩
theorem d_X4_fetch_138 : zDj m_X4_fetch 138 (.if_icmp .ne) 141 168 := ⟨30, eg_X4_fetch_64.2.2.2.2.2.1, rfl, by decide⟩
theorem d_X4_fetch_141 : zD m_X4_fetch 141 (.aload_n 0) 1 142 := ⟨eg_X4_fetch_64.2.2.2.2.2.2.1, rfl⟩
theorem d_X4_fetch_142 : zD m_X4_fetch 142 (.getfield 61) 3 145 := ⟨eg_X4_fetch_64.2.2.2.2.2.2.2, rfl⟩
theorem d_X4_fetch_145 : zD m_X4_fetch 145 (.aload_n 0) 1 146 := ⟨eg_X4_fetch_72.1, rfl⟩
theorem d_X4_fetch_146 : zD m_X4_fetch 146 (.getfield 73) 3 149 := ⟨eg_X4_fetch_72.2.1, rfl⟩
theorem d_X4_fetch_149 : zD m_X4_fetch 149 (.isub) 1 150 := ⟨eg_X4_fetch_72.2.2.1, rfl⟩
theorem d_X4_fetch_150 : zD m_X4_fetch 150 (.iconst 3) 1 151 := ⟨eg_X4_fetch_72.2.2.2.1, rfl⟩
theorem d_X4_fetch_151 : zDj m_X4_fetch 151 (.if_icmp .le) 154 168 := ⟨17, eg_X4_fetch_72.2.2.2.2.1, rfl, by decide⟩
theorem d_X4_fetch_154 : zD m_X4_fetch 154 (.aload_n 0) 1 155 := ⟨eg_X4_fetch_72.2.2.2.2.2.1, rfl⟩
theorem d_X4_fetch_155 : zD m_X4_fetch 155 (.iconst 0) 1 156 := ⟨eg_X4_fetch_72.2.2.2.2.2.2.1, rfl⟩
theorem d_X4_fetch_156 : zD m_X4_fetch 156 (.putfield 40) 3 159 := ⟨eg_X4_fetch_72.2.2.2.2.2.2.2, rfl⟩
theorem d_X4_fetch_159 : zD m_X4_fetch 159 (.aload_n 0) 1 160 := ⟨eg_X4_fetch_80.1, rfl⟩
theorem d_X4_fetch_160 : zD m_X4_fetch 160 (.iconst 1) 1 161 := ⟨eg_X4_fetch_80.2.1, rfl⟩
theorem d_X4_fetch_161 : zD m_X4_fetch 161 (.aload_n 0) 1 162 := ⟨eg_X4_fetch_80.2.2.1, rfl⟩
theorem d_X4_fetch_162 : zD m_X4_fetch 162 (.getfield 73) 3 165 := ⟨eg_X4_fetch_80.2.2.2.1, rfl⟩
theorem d_X4_fetch_165 : zD m_X4_fetch 165 (.invokevirtual 85) 3 168 := ⟨eg_X4_fetch_80.2.2.2.2.1, rfl⟩
theorem d_X4_fetch_168 : decode (zcc m_X4_fetch) 168 = .ok (.return_, 1) := eg_X4_fetch_80.2.2.2.2.2
set_option maxRecDepth 20000 in
theorem eg_X4_takeAlike_0 : decode (zcc m_X4_takeAlike) 0 = .ok (.iconst 0, 1) ∧ decode (zcc m_X4_takeAlike) 1 = .ok (.istore_n 1, 1) ∧ decode (zcc m_X4_takeAlike) 2 = .ok (.iload_n 1, 1) ∧ decode (zcc m_X4_takeAlike) 3 = .ok (.sipush 400, 3) ∧ decode (zcc m_X4_takeAlike) 6 = .ok (.if_icmp .ge (66), 3) ∧ decode (zcc m_X4_takeAlike) 9 = .ok (.aload_n 0, 1) ∧ decode (zcc m_X4_takeAlike) 10 = .ok (.getfield 26, 3) ∧ decode (zcc m_X4_takeAlike) 13 = .ok (.aload_n 0, 1) := by decide +kernel
set_option maxRecDepth 20000 in
theorem eg_X4_takeAlike_8 : decode (zcc m_X4_takeAlike) 14 = .ok (.getfield 61, 3) ∧ decode (zcc m_X4_takeAlike) 17 = .ok (.invokevirtual 67, 3) ∧ decode (zcc m_X4_takeAlike) 20 = .ok (.invokestatic 79, 3) ∧ decode (zcc m_X4_takeAlike) 23 = .ok (.aload_n 0, 1) ∧ decode (zcc m_X4_takeAlike) 24 = .ok (.getfield 40, 3) ∧ decode (zcc m_X4_takeAlike) 27 = .ok (.if_icmp .ne (45), 3) ∧ decode (zcc m_X4_takeAlike) 30 = .ok (.aload_n 0, 1) ∧ decode (zcc m_X4_takeAlike) 31 = .ok (.aload_n 0, 1) := by decide +kernel
set_option maxRecDepth 20000 in
theorem eg_X4_takeAlike_16 : decode (zcc m_X4_takeAlike) 32 = .ok (.getfield 76, 3) ∧ decode (zcc m_X4_takeAlike) 35 = .ok (.bipush 10, 2) ∧ decode (zcc m_X4_takeAlike) 37 = .ok (.imul, 1) ∧ decode (zcc m_X4_takeAlike) 38 = .ok (.aload_n 0, 1) ∧ decode (zcc m_X4_takeAlike) 39 = .ok (.getfield 26, 3) ∧ decode (zcc m_X4_takeAlike) 42 = .ok (.aload_n 0, 1) ∧ decode (zcc m_X4_takeAlike) 43 = .ok (.getfield 61, 3) ∧ decode (zcc m_X4_takeAlike) 46 = .ok (.invokevirtual 67, 3) := by decide +kernel
set_option maxRecDepth 20000 in
theorem eg_X4_takeAlike_24 : decode (zcc m_X4_takeAlike) 49 = .ok (.iadd, 1) ∧ decode (zcc m_X4_takeAlike) 50 = .ok (.bipush 48, 2) ∧ decode (zcc m_X4_takeAlike) 52 = .ok (.isub, 1) ∧ decode (zcc m_X4_takeAlike) 53 = .ok (.putfield 76, 3) ∧ decode (zcc m_X4_takeAlike) 56 = .ok (.aload_n 0, 1) ∧ decode (zcc m_X4_takeAlike) 57 = .ok (.dup, 1) ∧ decode (zcc m_X4_takeAlike) 58 = .ok (.getfield 61, 3) ∧ decode (zcc m_X4_takeAlike) 61 = .ok (.iconst 1, 1) := by decide +kernel
set_option maxRecDepth 20000 in
theorem eg_X4_takeAlike_32 : decode (zcc m_X4_takeAlike) 62 = .ok (.iadd, 1) ∧ decode (zcc m_X4_takeAlike) 63 = .ok (.putfield 61, 3) ∧ decode (zcc m_X4_takeAlike) 66 = .ok (.iinc 1 1, 3) ∧ decode (zcc m_X4_takeAlike) 69 = .ok (.goto (-67), 3) ∧ decode (zcc m_X4_takeAlike) 72 = .ok (.return_, 1) := by decide +kernel
theorem d_X4_takeAlike_0 : zD m_X4_takeAlike 0 (.iconst 0) 1 1 := ⟨eg_X4_takeAlike_0.1, rfl⟩
theorem d_X4_takeAlike_1 : zD m_X4_takeAlike 1 (.istore_n 1) 1 2 := ⟨eg_X4_takeAlike_0.2.1, rfl⟩
theorem d_X4_takeAlike_2 : zD m_X4_takeAlike 2 (.iload_n 1) 1 3 := ⟨eg_X4_takeAlike_0.2.2.1, rfl⟩
theorem d_X4_takeAlike_3 : zD m_X4_takeAlike 3 (.sipush 400) 3 6 := ⟨eg_X4_takeAlike_0.2.2.2.1, rfl⟩
theorem d_X4_takeAlike_6 : zDj m_X4_takeAlike 6 (.if_icmp .ge) 9 72 := ⟨66, eg_X4_takeAlike_0.2.2.2.2.1, rfl, by decide⟩
theorem d_X4_takeAlike_9 : zD m_X4_takeAlike 9 (.aload_n 0) 1 10 := ⟨eg_X4_takeAlike_0.2.2.2.2.2.1, rfl⟩
theorem d_X4_takeAlike_10 : zD m_X4_takeAlike 10 (.getfield 26) 3 13 := ⟨eg_X4_takeAlike_0.2.2.2.2.2.2.1, rfl⟩
theorem d_X4_takeAlike_13 : zD m_X4_takeAlike 13 (.aload_n 0) 1 14 := ⟨eg_X4_takeAlike_0.2.2.2.2.2.2.2, rfl⟩
theorem d_X4_takeAlike_14 : zD m_X4_takeAlike 14 (.getfield 61) 3 17 := ⟨eg_X4_takeAlike_8.1, rfl⟩
theorem d_X4_takeAlike_17 : zD m_X4_takeAlike 17 (.invokevirtual 67) 3 20 := ⟨eg_X4_takeAlike_8.2.1, rfl⟩
theorem d_X4_takeAlike_20 : zD m_X4_takeAlike 20 (.invokestatic 79) 3 23 := ⟨eg_X4_takeAlike_8.2.2.1, rfl⟩
theorem d_X4_takeAlike_23 : zD m_X4_takeAlike 23 (.aload_n 0) 1 24 := ⟨eg_X4_takeAlike_8.2.2.2.1, rfl⟩
theorem d_X4_takeAlike_24 : zD m_X4_takeAlike 24 (.getfield 40) 3 27 := ⟨eg_X4_takeAlike_8.2.2.2.2.1, rfl⟩
theorem d_X4_takeAlike_27 : zDj m_X4_takeAlike 27 (.if_icmp .ne) 30 72 := ⟨45, eg_X4_takeAlike_8.2.2.2.2.2.1, rfl, by decide⟩
theorem d_X4_takeAlike_30 : zD m_X4_takeAlike 30 (.aload_n 0) 1 31 := ⟨eg_X4_takeAlike_8.2.2.2.2.2.2.1, rfl⟩
theorem d_X4_takeAlike_31 : zD m_X4_takeAlike 31 (.aload_n 0) 1 32 := ⟨eg_X4_takeAlike_8.2.2.2.2.2.2.2, rfl⟩
theorem d_X4_takeAlike_32 : zD m_X4_takeAlike 32 (.getfield 76) 3 35 := ⟨eg_X4_takeAlike_16.1, rfl⟩
theorem d_X4_takeAlike_35 : zD m_X4_takeAlike 35 (.bipush 10) 2 37 := ⟨eg_X4_takeAlike_16.2.1, rfl⟩
theorem d_X4_takeAlike_37 : zD m_X4_takeAlike 37 (.imul) 1 38 := ⟨eg_X4_takeAlike_16.2.2.1, rfl⟩
theorem d_X4_takeAlike_38 : zD m_X4_takeAlike 38 (.aload_n 0) 1 39 := ⟨eg_X4_takeAlike_16.2.2.2.1, rfl⟩
theorem d_X4_takeAlike_39 : zD m_X4_takeAlike 39 (.getfield 26) 3 42 := ⟨eg_X4_takeAlike_16.2.2.2.2.1, rfl⟩
theorem d_X4_takeAlike_42 : zD m_X4_takeAlike 42 (.aload_n 0) 1 43 := ⟨eg_X4_takeAlike_16.2.2.2.2.2.1, rfl⟩
theorem d_X4_takeAlike_43 : zD m_X4_takeAlike 43 (.getfield 61) 3 46 := ⟨eg_X4_takeAlike_16.2.2.2.2.2.2.1, rfl⟩
theorem d_X4_takeAlike_46 : zD m_X4_takeAlike 46 (.invokevirtual 67) 3 49 := ⟨eg_X4_takeAlike_16.2.2.2.2.2.2.2, rfl⟩
theorem d_X4_takeAlike_49 : zD m_X4_takeAlike 49 (.iadd) 1 50 := ⟨eg_X4_takeAlike_24.1, rfl⟩
theorem d_X4_takeAlike_50 : zD m_X4_takeAlike 50 (.bipush 48) 2 52 := ⟨eg_X4_takeAlike_24.2.1, rfl⟩
theorem d_X4_takeAlike_52 : zD m_X4_takeAlike 52 (.isub) 1 53 := ⟨eg_X4_takeAlike_24.2.2.1, rfl⟩
theorem d_X4_takeAlike_53 : zD m_X4_takeAlike 53 (.putfield 76) 3 56 := ⟨eg_X4_takeAlike_24.2.2.2.1, rfl⟩
theorem d_X4_takeAlike_56 : zD m_X4_takeAlike 56 (.aload_n 0) 1 57 := ⟨eg_X4_takeAlike_24.2.2.2.2.1, rfl⟩
theorem d_X4_takeAlike_57 : zD m_X4_takeAlike 57 (.dup) 1 58 := ⟨eg_X4_takeAlike_24.2.2.2.2.2.1, rfl⟩
theorem d_X4_takeAlike_58 : zD m_X4_takeAlike 58 (.getfield 61) 3 61 := ⟨eg_X4_takeAlike_24.2.2.2.2.2.2.1, rfl⟩
theorem d_X4_takeAlike_61 : zD m_X4_takeAlike 61 (.iconst 1) 1 62 := ⟨eg_X4_takeAlike_24.2.2.2.2.2.2.2, rfl⟩
theorem d_X4_takeAlike_62 : zD m_X4_takeAlike 62 (.iadd) 1 63 := ⟨eg_X4_takeAlike_32.1, rfl⟩
theorem d_X4_takeAlike_63 : zD m_X4_takeAlike 63 (.putfield 61) 3 66 := ⟨eg_X4_takeAlike_32.2.1, rfl⟩
theorem d_X4_takeAlike_66 : zD m_X4_takeAlike 66 (.iinc 1 1) 3 69 := ⟨eg_X4_takeAlike_32.2.2.1, rfl⟩
theorem d_X4_takeAlike_69 : zDj m_X4_takeAlike 69 (.goto) 72 2 := ⟨-67, eg_X4_takeAlike_32.2.2.2.1, rfl, by decide⟩
theorem d_X4_takeAlike_72 : decode (zcc m_X4_takeAlike) 72 = .ok (.return_, 1) := eg_X4_takeAlike_32.2.2.2.2
set_option maxRecDepth 20000 in
theorem eg_X4_tokenOf_0 : decode (zcc m_X4_tokenOf) 0 = .ok (.iload_n 0, 1) ∧ decode (zcc m_X4_tokenOf) 1 = .ok (.ifCond .ge (5), 3) ∧ decode (zcc m_X4_tokenOf) 4 = .ok (.iconst 1, 1) ∧ decode (zcc m_X4_tokenOf) 5 = .ok (.ireturn, 1) ∧ decode (zcc m_X4_tokenOf) 6 = .ok (.iload_n 0, 1) ∧ decode (zcc m_X4_tokenOf) 7 = .ok (.bipush 97, 2) ∧ decode (zcc m_X4_tokenOf) 9 = .ok (.if_icmp .lt (11), 3) ∧ decode (zcc m_X4_tokenOf) 12 = .ok (.iload_n 0, 1) := by decide +kernel
set_option maxRecDepth 20000 in
theorem eg_X4_tokenOf_8 : decode (zcc m_X4_tokenOf) 13 = .ok (.bipush 122, 2) ∧ decode (zcc m_X4_tokenOf) 15 = .ok (.if_icmp .gt (5), 3) ∧ decode (zcc m_X4_tokenOf) 18 = .ok (.iconst 2, 1) ∧ decode (zcc m_X4_tokenOf) 19 = .ok (.ireturn, 1) ∧ decode (zcc m_X4_tokenOf) 20 = .ok (.iload_n 0, 1) ∧ decode (zcc m_X4_tokenOf) 21 = .ok (.bipush 48, 2) ∧ decode (zcc m_X4_tokenOf) 23 = .ok (.if_icmp .lt (11), 3) ∧ decode (zcc m_X4_tokenOf) 26 = .ok (.iload_n 0, 1) := by decide +kernel
set_option maxRecDepth 20000 in
theorem eg_X4_tokenOf_16 : decode (zcc m_X4_tokenOf) 27 = .ok (.bipush 57, 2) ∧ decode (zcc m_X4_tokenOf) 29 = .ok (.if_icmp .gt (5), 3) ∧ decode (zcc m_X4_tokenOf) 32 = .ok (.iconst 3, 1) ∧ decode (zcc m_X4_tokenOf) 33 = .ok (.ireturn, 1) ∧ decode (zcc m_X4_tokenOf) 34 = .ok (.iload_n 0, 1) ∧ decode (zcc m_X4_tokenOf) 35 = .ok (.bipush 59, 2) ∧ decode (zcc m_X4_tokenOf) 37 = .ok (.if_icmp .ne (7), 3) ∧ decode (zcc m_X4_tokenOf) 40 = .ok (.iconst 4, 1) := by decide +kernel
set_option maxRecDepth 20000 in
theorem eg_X4_tokenOf_24 : decode (zcc m_X4_tokenOf) 41 = .ok (.goto (4), 3) ∧ decode (zcc m_X4_tokenOf) 44 = .ok (.iconst 0, 1) ∧ decode (zcc m_X4_tokenOf) 45 = .ok (.ireturn, 1) := by decide +kernel
theorem d_X4_tokenOf_0 : zD m_X4_tokenOf 0 (.iload_n 0) 1 1 := ⟨eg_X4_tokenOf_0.1, rfl⟩
theorem d_X4_tokenOf_1 : zDj m_X4_tokenOf 1 (.ifCond .ge) 4 6 := ⟨5, eg_X4_tokenOf_0.2.1, rfl, by decide⟩
theorem d_X4_tokenOf_4 : zD m_X4_tokenOf 4 (.iconst 1) 1 5 := ⟨eg_X4_tokenOf_0.2.2.1, rfl⟩
theorem d_X4_tokenOf_5 : decode (zcc m_X4_tokenOf) 5 = .ok (.ireturn, 1) := eg_X4_tokenOf_0.2.2.2.1
theorem d_X4_tokenOf_6 : zD m_X4_tokenOf 6 (.iload_n 0) 1 7 := ⟨eg_X4_tokenOf_0.2.2.2.2.1, rfl⟩
theorem d_X4_tokenOf_7 : zD m_X4_tokenOf 7 (.bipush 97) 2 9 := ⟨eg_X4_tokenOf_0.2.2.2.2.2.1, rfl⟩
theorem d_X4_tokenOf_9 : zDj m_X4_tokenOf 9 (.if_icmp .lt) 12 20 := ⟨11, eg_X4_tokenOf_0.2.2.2.2.2.2.1, rfl, by decide⟩
theorem d_X4_tokenOf_12 : zD m_X4_tokenOf 12 (.iload_n 0) 1 13 := ⟨eg_X4_tokenOf_0.2.2.2.2.2.2.2, rfl⟩
theorem d_X4_tokenOf_13 : zD m_X4_tokenOf 13 (.bipush 122) 2 15 := ⟨eg_X4_tokenOf_8.1, rfl⟩
theorem d_X4_tokenOf_15 : zDj m_X4_tokenOf 15 (.if_icmp .gt) 18 20 := ⟨5, eg_X4_tokenOf_8.2.1, rfl, by decide⟩
theorem d_X4_tokenOf_18 : zD m_X4_tokenOf 18 (.iconst 2) 1 19 := ⟨eg_X4_tokenOf_8.2.2.1, rfl⟩
theorem d_X4_tokenOf_19 : decode (zcc m_X4_tokenOf) 19 = .ok (.ireturn, 1) := eg_X4_tokenOf_8.2.2.2.1
theorem d_X4_tokenOf_20 : zD m_X4_tokenOf 20 (.iload_n 0) 1 21 := ⟨eg_X4_tokenOf_8.2.2.2.2.1, rfl⟩
theorem d_X4_tokenOf_21 : zD m_X4_tokenOf 21 (.bipush 48) 2 23 := ⟨eg_X4_tokenOf_8.2.2.2.2.2.1, rfl⟩
theorem d_X4_tokenOf_23 : zDj m_X4_tokenOf 23 (.if_icmp .lt) 26 34 := ⟨11, eg_X4_tokenOf_8.2.2.2.2.2.2.1, rfl, by decide⟩
theorem d_X4_tokenOf_26 : zD m_X4_tokenOf 26 (.iload_n 0) 1 27 := ⟨eg_X4_tokenOf_8.2.2.2.2.2.2.2, rfl⟩
theorem d_X4_tokenOf_27 : zD m_X4_tokenOf 27 (.bipush 57) 2 29 := ⟨eg_X4_tokenOf_16.1, rfl⟩
theorem d_X4_tokenOf_29 : zDj m_X4_tokenOf 29 (.if_icmp .gt) 32 34 := ⟨5, eg_X4_tokenOf_16.2.1, rfl, by decide⟩
theorem d_X4_tokenOf_32 : zD m_X4_tokenOf 32 (.iconst 3) 1 33 := ⟨eg_X4_tokenOf_16.2.2.1, rfl⟩
theorem d_X4_tokenOf_33 : decode (zcc m_X4_tokenOf) 33 = .ok (.ireturn, 1) := eg_X4_tokenOf_16.2.2.2.1
theorem d_X4_tokenOf_34 : zD m_X4_tokenOf 34 (.iload_n 0) 1 35 := ⟨eg_X4_tokenOf_16.2.2.2.2.1, rfl⟩
theorem d_X4_tokenOf_35 : zD m_X4_tokenOf 35 (.bipush 59) 2 37 := ⟨eg_X4_tokenOf_16.2.2.2.2.2.1, rfl⟩
theorem d_X4_tokenOf_37 : zDj m_X4_tokenOf 37 (.if_icmp .ne) 40 44 := ⟨7, eg_X4_tokenOf_16.2.2.2.2.2.2.1, rfl, by decide⟩
theorem d_X4_tokenOf_40 : zD m_X4_tokenOf 40 (.iconst 4) 1 41 := ⟨eg_X4_tokenOf_16.2.2.2.2.2.2.2, rfl⟩
theorem d_X4_tokenOf_41 : zDj m_X4_tokenOf 41 (.goto) 44 45 := ⟨4, eg_X4_tokenOf_24.1, rfl, by decide⟩
theorem d_X4_tokenOf_44 : zD m_X4_tokenOf 44 (.iconst 0) 1 45 := ⟨eg_X4_tokenOf_24.2.1, rfl⟩
theorem d_X4_tokenOf_45 : decode (zcc m_X4_tokenOf) 45 = .ok (.ireturn, 1) := eg_X4_tokenOf_24.2.2
set_option maxRecDepth 20000 in
theorem eg_X4_readLine_0 : decode (zcc m_X4_readLine) 0 = .ok (.aload_n 0, 1) ∧ decode (zcc m_X4_readLine) 1 = .ok (.invokevirtual 89, 3) ∧ decode (zcc m_X4_readLine) 4 = .ok (.istore_n 1, 1) ∧ decode (zcc m_X4_readLine) 5 = .ok (.aload_n 0, 1) ∧ decode (zcc m_X4_readLine) 6 = .ok (.iload_n 1, 1) ∧ decode (zcc m_X4_readLine) 7 = .ok (.invokevirtual 93, 3) ∧ decode (zcc m_X4_readLine) 10 = .ok (.ifCond .ne (4), 3) ∧ decode (zcc m_X4_readLine) 13 = .ok (.return_, 1) := by decide +kernel
set_option maxRecDepth 20000 in
theorem eg_X4_readLine_8 : decode (zcc m_X4_readLine) 14 = .ok (.aload_n 0, 1) ∧ decode (zcc m_X4_readLine) 15 = .ok (.getfield 22, 3) ∧ decode (zcc m_X4_readLine) 18 = .ok (.iload_n 1, 1) ∧ decode (zcc m_X4_readLine) 19 = .ok (.iconst 1, 1) ∧ decode (zcc m_X4_readLine) 20 = .ok (.bastore, 1) ∧ decode (zcc m_X4_readLine) 21 = .ok (.iload_n 1, 1) ∧ decode (zcc m_X4_readLine) 22 = .ok (.tableswitch 214 0 8 #[50, 57, 73, 89, 109, 128, 141, 160, 195], 50) ∧ decode (zcc m_X4_readLine) 72 = .ok (.aload_n 0, 1) := by decide +kernel
set_option maxRecDepth 20000 in
theorem eg_X4_readLine_16 : decode (zcc m_X4_readLine) 73 = .ok (.invokevirtual 97, 3) ∧ decode (zcc m_X4_readLine) 76 = .ok (.goto (164), 3) ∧ decode (zcc m_X4_readLine) 79 = .ok (.aload_n 0, 1) ∧ decode (zcc m_X4_readLine) 80 = .ok (.aload_n 0, 1) ∧ decode (zcc m_X4_readLine) 81 = .ok (.getfield 12, 3) ∧ decode (zcc m_X4_readLine) 84 = .ok (.getfield 100, 3) ∧ decode (zcc m_X4_readLine) 87 = .ok (.bipush 99, 2) ∧ decode (zcc m_X4_readLine) 89 = .ok (.invokevirtual 103, 3) := by decide +kernel
set_option maxRecDepth 20000 in
theorem eg_X4_readLine_24 : decode (zcc m_X4_readLine) 92 = .ok (.goto (148), 3) ∧ decode (zcc m_X4_readLine) 95 = .ok (.aload_n 0, 1) ∧ decode (zcc m_X4_readLine) 96 = .ok (.aload_n 0, 1) ∧ decode (zcc m_X4_readLine) 97 = .ok (.getfield 12, 3) ∧ decode (zcc m_X4_readLine) 100 = .ok (.getfield 106, 3) ∧ decode (zcc m_X4_readLine) 103 = .ok (.bipush 50, 2) ∧ decode (zcc m_X4_readLine) 105 = .ok (.invokevirtual 103, 3) ∧ decode (zcc m_X4_readLine) 108 = .ok (.goto (132), 3) := by decide +kernel
set_option maxRecDepth 20000 in
theorem eg_X4_readLine_32 : decode (zcc m_X4_readLine) 111 = .ok (.aload_n 0, 1) ∧ decode (zcc m_X4_readLine) 112 = .ok (.getfield 12, 3) ∧ decode (zcc m_X4_readLine) 115 = .ok (.getfield 109, 3) ∧ decode (zcc m_X4_readLine) 118 = .ok (.iconst 0, 1) ∧ decode (zcc m_X4_readLine) 119 = .ok (.aload_n 0, 1) ∧ decode (zcc m_X4_readLine) 120 = .ok (.iconst 1, 1) ∧ decode (zcc m_X4_readLine) 121 = .ok (.sipush 999, 3) ∧ decode (zcc m_X4_readLine) 124 = .ok (.invokevirtual 112, 3) := by decide +kernel
set_option maxRecDepth 20000 in
theorem eg_X4_readLine_40 : decode (zcc m_X4_readLine) 127 = .ok (.iastore, 1) ∧ decode (zcc m_X4_readLine) 128 = .ok (.goto (112), 3) ∧ decode (zcc m_X4_readLine) 131 = .ok (.aload_n 0, 1) ∧ decode (zcc m_X4_readLine) 132 = .ok (.getfield 12, 3) ∧ decode (zcc m_X4_readLine) 135 = .ok (.getfield 109, 3) ∧ decode (zcc m_X4_readLine) 138 = .ok (.iconst 1, 1) ∧ decode (zcc m_X4_readLine) 139 = .ok (.aload_n 0, 1) ∧ decode (zcc m_X4_readLine) 140 = .ok (.iconst 0, 1) := by decide +kernel
set_option maxRecDepth 20000 in
theorem eg_X4_readLine_48 : decode (zcc m_X4_readLine) 141 = .ok (.bipush 9, 2) ∧ decode (zcc m_X4_readLine) 143 = .ok (.invokevirtual 112, 3) ∧ decode (zcc m_X4_readLine) 146 = .ok (.iastore, 1) ∧ decode (zcc m_X4_readLine) 147 = .ok (.goto (93), 3) ∧ decode (zcc m_X4_readLine) 150 = .ok (.aload_n 0, 1) ∧ decode (zcc m_X4_readLine) 151 = .ok (.getfield 12, 3) ∧ decode (zcc m_X4_readLine) 154 = .ok (.getfield 109, 3) ∧ decode (zcc m_X4_readLine) 157 = .ok (.iconst 2, 1) := by decide +kernel
set_option maxRecDepth 20000 in
theorem eg_X4_readLine_56 : decode (zcc m_X4_readLine) 158 = .ok (.iconst 1, 1) ∧ decode (zcc m_X4_readLine) 159 = .ok (.iastore, 1) ∧ decode (zcc m_X4_readLine) 160 = .ok (.goto (80), 3) ∧ decode (zcc m_X4_readLine) 163 = .ok (.aload_n 0, 1) ∧ decode (zcc m_X4_readLine) 164 = .ok (.getfield 12, 3) ∧ decode (zcc m_X4_readLine) 167 = .ok (.getfield 109, 3) ∧ decode (zcc m_X4_readLine) 170 = .ok (.iconst 3, 1) ∧ decode (zcc m_X4_readLine) 171 = .ok (.aload_n 0, 1) := by decide +kernel
set_option maxRecDepth 20000 in
theorem eg_X4_readLine_64 : decode (zcc m_X4_readLine) 172 = .ok (.iconst 0, 1) ∧ decode (zcc m_X4_readLine) 173 = .ok (.bipush 9, 2) ∧ decode (zcc m_X4_readLine) 175 = .ok (.invokevirtual 112, 3) ∧ decode (zcc m_X4_readLine) 178 = .ok (.iastore, 1) ∧ decode (zcc m_X4_readLine) 179 = .ok (.goto (61), 3) ∧ decode (zcc m_X4_readLine) 182 = .ok (.aload_n 0, 1) ∧ decode (zcc m_X4_readLine) 183 = .ok (.getfield 12, 3) ∧ decode (zcc m_X4_readLine) 186 = .ok (.getfield 109, 3) := by decide +kernel
set_option maxRecDepth 20000 in
theorem eg_X4_readLine_72 : decode (zcc m_X4_readLine) 189 = .ok (.iconst 4, 1) ∧ decode (zcc m_X4_readLine) 190 = .ok (.aload_n 0, 1) ∧ decode (zcc m_X4_readLine) 191 = .ok (.iconst 1, 1) ∧ decode (zcc m_X4_readLine) 192 = .ok (.bipush 9, 2) ∧ decode (zcc m_X4_readLine) 194 = .ok (.invokevirtual 112, 3) ∧ decode (zcc m_X4_readLine) 197 = .ok (.iastore, 1) ∧ decode (zcc m_X4_readLine) 198 = .ok (.aload_n 0, 1) ∧ decode (zcc m_X4_readLine) 199 = .ok (.getfield 12, 3) := by decide +kernel
set_option maxRecDepth 20000 in
theorem eg_X4_readLine_80 : decode (zcc m_X4_readLine) 202 = .ok (.getfield 109, 3) ∧ decode (zcc m_X4_readLine) 205 = .ok (.iconst 5, 1) ∧ decode (zcc m_X4_readLine) 206 = .ok (.aload_n 0, 1) ∧ decode (zcc m_X4_readLine) 207 = .ok (.iconst 1, 1) ∧ decode (zcc m_X4_readLine) 208 = .ok (.bipush 99, 2) ∧ decode (zcc m_X4_readLine) 210 = .ok (.invokevirtual 112, 3) ∧ decode (zcc m_X4_readLine) 213 = .ok (.iastore, 1) ∧ decode (zcc m_X4_readLine) 214 = .ok (.goto (26), 3) := by decide +kernel
set_option maxRecDepth 20000 in
theorem eg_X4_readLine_88 : decode (zcc m_X4_readLine) 217 = .ok (.aload_n 0, 1) ∧ decode (zcc m_X4_readLine) 218 = .ok (.getfield 12, 3) ∧ decode (zcc m_X4_readLine) 221 = .ok (.getfield 109, 3) ∧ decode (zcc m_X4_readLine) 224 = .ok (.bipush 6, 2) ∧ decode (zcc m_X4_readLine) 226 = .ok (.aload_n 0, 1) ∧ decode (zcc m_X4_readLine) 227 = .ok (.iconst 3, 1) ∧ decode (zcc m_X4_readLine) 228 = .ok (.iconst 4, 1) ∧ decode (zcc m_X4_readLine) 229 = .ok (.invokevirtual 112, 3) := by decide +kernel
set_option maxRecDepth 20000 in
theorem eg_X4_readLine_96 : decode (zcc m_X4_readLine) 232 = .ok (.iastore, 1) ∧ decode (zcc m_X4_readLine) 233 = .ok (.goto (7), 3) ∧ decode (zcc m_X4_readLine) 236 = .ok (.aload_n 0, 1) ∧ decode (zcc m_X4_readLine) 237 = .ok (.invokevirtual 116, 3) ∧ decode (zcc m_X4_readLine) 240 = .ok (.iload_n 1, 1) ∧ decode (zcc m_X4_readLine) 241 = .ok (.bipush 9, 2) ∧ decode (zcc m_X4_readLine) 243 = .ok (.if_icmp .eq (7), 3) ∧ decode (zcc m_X4_readLine) 246 = .ok (.aload_n 0, 1) := by decide +kernel
set_option maxRecDepth 20000 in
theorem eg_X4_readLine_104 : decode (zcc m_X4_readLine) 247 = .ok (.invokevirtual 33, 3) ∧ decode (zcc m_X4_readLine) 250 = .ok (.aload_n 0, 1) ∧ decode (zcc m_X4_readLine) 251 = .ok (.getfield 40, 3) ∧ decode (zcc m_X4_readLine) 254 = .ok (.iconst 4, 1) ∧ decode (zcc m_X4_readLine) 255 = .ok (.if_icmp .eq (12), 3) ∧ decode (zcc m_X4_readLine) 258 = .ok (.aload_n 0, 1) ∧ decode (zcc m_X4_readLine) 259 = .ok (.iconst 2, 1) ∧ decode (zcc m_X4_readLine) 260 = .ok (.aload_n 0, 1) := by decide +kernel
set_option maxRecDepth 20000 in
theorem eg_X4_readLine_112 : decode (zcc m_X4_readLine) 261 = .ok (.getfield 73, 3) ∧ decode (zcc m_X4_readLine) 264 = .ok (.invokevirtual 85, 3) ∧ decode (zcc m_X4_readLine) 267 = .ok (.return_, 1) := by decide +kernel
theorem d_X4_readLine_0 : zD m_X4_readLine 0 (.aload_n 0) 1 1 := ⟨eg_X4_readLine_0.1, rfl⟩
theorem d_X4_readLine_1 : zD m_X4_readLine 1 (.invokevirtual 89) 3 4 := ⟨eg_X4_readLine_0.2.1, rfl⟩
theorem d_X4_readLine_4 : zD m_X4_readLine 4 (.istore_n 1) 1 5 := ⟨eg_X4_readLine_0.2.2.1, rfl⟩
theorem d_X4_readLine_5 : zD m_X4_readLine 5 (.aload_n 0) 1 6 := ⟨eg_X4_readLine_0.2.2.2.1, rfl⟩
theorem d_X4_readLine_6 : zD m_X4_readLine 6 (.iload_n 1) 1 7 := ⟨eg_X4_readLine_0.2.2.2.2.1, rfl⟩
theorem d_X4_readLine_7 : zD m_X4_readLine 7 (.invokevirtual 93) 3 10 := ⟨eg_X4_readLine_0.2.2.2.2.2.1, rfl⟩
theorem d_X4_readLine_10 : zDj m_X4_readLine 10 (.ifCond .ne) 13 14 := ⟨4, eg_X4_readLine_0.2.2.2.2.2.2.1, rfl, by decide⟩
theorem d_X4_readLine_13 : decode (zcc m_X4_readLine) 13 = .ok (.return_, 1) := eg_X4_readLine_0.2.2.2.2.2.2.2
theorem d_X4_readLine_14 : zD m_X4_readLine 14 (.aload_n 0) 1 15 := ⟨eg_X4_readLine_8.1, rfl⟩
theorem d_X4_readLine_15 : zD m_X4_readLine 15 (.getfield 22) 3 18 := ⟨eg_X4_readLine_8.2.1, rfl⟩
theorem d_X4_readLine_18 : zD m_X4_readLine 18 (.iload_n 1) 1 19 := ⟨eg_X4_readLine_8.2.2.1, rfl⟩
theorem d_X4_readLine_19 : zD m_X4_readLine 19 (.iconst 1) 1 20 := ⟨eg_X4_readLine_8.2.2.2.1, rfl⟩
theorem d_X4_readLine_20 : zD m_X4_readLine 20 (.bastore) 1 21 := ⟨eg_X4_readLine_8.2.2.2.2.1, rfl⟩
theorem d_X4_readLine_21 : zD m_X4_readLine 21 (.iload_n 1) 1 22 := ⟨eg_X4_readLine_8.2.2.2.2.2.1, rfl⟩
theorem d_X4_readLine_22 : decode (zcc m_X4_readLine) 22 = .ok (.tableswitch 214 0 8 #[50, 57, 73, 89, 109, 128, 141, 160, 195], 50) := eg_X4_readLine_8.2.2.2.2.2.2.1
theorem d_X4_readLine_72 : zD m_X4_readLine 72 (.aload_n 0) 1 73 := ⟨eg_X4_readLine_8.2.2.2.2.2.2.2, rfl⟩
theorem d_X4_readLine_73 : zD m_X4_readLine 73 (.invokevirtual 97) 3 76 := ⟨eg_X4_readLine_16.1, rfl⟩
theorem d_X4_readLine_76 : zDj m_X4_readLine 76 (.goto) 79 240 := ⟨164, eg_X4_readLine_16.2.1, rfl, by decide⟩
theorem d_X4_readLine_79 : zD m_X4_readLine 79 (.aload_n 0) 1 80 := ⟨eg_X4_readLine_16.2.2.1, rfl⟩
theorem d_X4_readLine_80 : zD m_X4_readLine 80 (.aload_n 0) 1 81 := ⟨eg_X4_readLine_16.2.2.2.1, rfl⟩
theorem d_X4_readLine_81 : zD m_X4_readLine 81 (.getfield 12) 3 84 := ⟨eg_X4_readLine_16.2.2.2.2.1, rfl⟩
theorem d_X4_readLine_84 : zD m_X4_readLine 84 (.getfield 100) 3 87 := ⟨eg_X4_readLine_16.2.2.2.2.2.1, rfl⟩
theorem d_X4_readLine_87 : zD m_X4_readLine 87 (.bipush 99) 2 89 := ⟨eg_X4_readLine_16.2.2.2.2.2.2.1, rfl⟩
theorem d_X4_readLine_89 : zD m_X4_readLine 89 (.invokevirtual 103) 3 92 := ⟨eg_X4_readLine_16.2.2.2.2.2.2.2, rfl⟩
theorem d_X4_readLine_92 : zDj m_X4_readLine 92 (.goto) 95 240 := ⟨148, eg_X4_readLine_24.1, rfl, by decide⟩
theorem d_X4_readLine_95 : zD m_X4_readLine 95 (.aload_n 0) 1 96 := ⟨eg_X4_readLine_24.2.1, rfl⟩
theorem d_X4_readLine_96 : zD m_X4_readLine 96 (.aload_n 0) 1 97 := ⟨eg_X4_readLine_24.2.2.1, rfl⟩
theorem d_X4_readLine_97 : zD m_X4_readLine 97 (.getfield 12) 3 100 := ⟨eg_X4_readLine_24.2.2.2.1, rfl⟩
theorem d_X4_readLine_100 : zD m_X4_readLine 100 (.getfield 106) 3 103 := ⟨eg_X4_readLine_24.2.2.2.2.1, rfl⟩
theorem d_X4_readLine_103 : zD m_X4_readLine 103 (.bipush 50) 2 105 := ⟨eg_X4_readLine_24.2.2.2.2.2.1, rfl⟩
theorem d_X4_readLine_105 : zD m_X4_readLine 105 (.invokevirtual 103) 3 108 := ⟨eg_X4_readLine_24.2.2.2.2.2.2.1, rfl⟩
theorem d_X4_readLine_108 : zDj m_X4_readLine 108 (.goto) 111 240 := ⟨132, eg_X4_readLine_24.2.2.2.2.2.2.2, rfl, by decide⟩
theorem d_X4_readLine_111 : zD m_X4_readLine 111 (.aload_n 0) 1 112 := ⟨eg_X4_readLine_32.1, rfl⟩
theorem d_X4_readLine_112 : zD m_X4_readLine 112 (.getfield 12) 3 115 := ⟨eg_X4_readLine_32.2.1, rfl⟩
theorem d_X4_readLine_115 : zD m_X4_readLine 115 (.getfield 109) 3 118 := ⟨eg_X4_readLine_32.2.2.1, rfl⟩
theorem d_X4_readLine_118 : zD m_X4_readLine 118 (.iconst 0) 1 119 := ⟨eg_X4_readLine_32.2.2.2.1, rfl⟩
theorem d_X4_readLine_119 : zD m_X4_readLine 119 (.aload_n 0) 1 120 := ⟨eg_X4_readLine_32.2.2.2.2.1, rfl⟩
theorem d_X4_readLine_120 : zD m_X4_readLine 120 (.iconst 1) 1 121 := ⟨eg_X4_readLine_32.2.2.2.2.2.1, rfl⟩
theorem d_X4_readLine_121 : zD m_X4_readLine 121 (.sipush 999) 3 124 := ⟨eg_X4_readLine_32.2.2.2.2.2.2.1, rfl⟩
theorem d_X4_readLine_124 : zD m_X4_readLine 124 (.invokevirtual 112) 3 127 := ⟨eg_X4_readLine_32.2.2.2.2.2.2.2, rfl⟩
theorem d_X4_readLine_127 : zD m_X4_readLine 127 (.iastore) 1 128 := ⟨eg_X4_readLine_40.1, rfl⟩
theorem d_X4_readLine_128 : zDj m_X4_readLine 128 (.goto) 131 240 := ⟨112, eg_X4_readLine_40.2.1, rfl, by decide⟩
theorem d_X4_readLine_131 : zD m_X4_readLine 131 (.aload_n 0) 1 132 := ⟨eg_X4_readLine_40.2.2.1, rfl⟩
theorem d_X4_readLine_132 : zD m_X4_readLine 132 (.getfield 12) 3 135 := ⟨eg_X4_readLine_40.2.2.2.1, rfl⟩
theorem d_X4_readLine_135 : zD m_X4_readLine 135 (.getfield 109) 3 138 := ⟨eg_X4_readLine_40.2.2.2.2.1, rfl⟩
theorem d_X4_readLine_138 : zD m_X4_readLine 138 (.iconst 1) 1 139 := ⟨eg_X4_readLine_40.2.2.2.2.2.1, rfl⟩
theorem d_X4_readLine_139 : zD m_X4_readLine 139 (.aload_n 0) 1 140 := ⟨eg_X4_readLine_40.2.2.2.2.2.2.1, rfl⟩
theorem d_X4_readLine_140 : zD m_X4_readLine 140 (.iconst 0) 1 141 := ⟨eg_X4_readLine_40.2.2.2.2.2.2.2, rfl⟩
theorem d_X4_readLine_141 : zD m_X4_readLine 141 (.bipush 9) 2 143 := ⟨eg_X4_readLine_48.1, rfl⟩
theorem d_X4_readLine_143 : zD m_X4_readLine 143 (.invokevirtual 112) 3 146 := ⟨eg_X4_readLine_48.2.1, rfl⟩
theorem d_X4_readLine_146 : zD m_X4_readLine 146 (.iastore) 1 147 := ⟨eg_X4_readLine_48.2.2.1, rfl⟩
theorem d_X4_readLine_147 : zDj m_X4_readLine 147 (.goto) 150 240 := ⟨93, eg_X4_readLine_48.2.2.2.1, rfl, by decide⟩
theorem d_X4_readLine_150 : zD m_X4_readLine 150 (.aload_n 0) 1 151 := ⟨eg_X4_readLine_48.2.2.2.2.1, rfl⟩
theorem d_X4_readLine_151 : zD m_X4_readLine 151 (.getfield 12) 3 154 := ⟨eg_X4_readLine_48.2.2.2.2.2.1, rfl⟩
theorem d_X4_readLine_154 : zD m_X4_readLine 154 (.getfield 109) 3 157 := ⟨eg_X4_readLine_48.2.2.2.2.2.2.1, rfl⟩
theorem d_X4_readLine_157 : zD m_X4_readLine 157 (.iconst 2) 1 158 := ⟨eg_X4_readLine_48.2.2.2.2.2.2.2, rfl⟩
theorem d_X4_readLine_158 : zD m_X4_readLine 158 (.iconst 1) 1 159 := ⟨eg_X4_readLine_56.1, rfl⟩
theorem d_X4_readLine_159 : zD m_X4_readLine 159 (.iastore) 1 160 := ⟨eg_X4_readLine_56.2.1, rfl⟩
theorem d_X4_readLine_160 : zDj m_X4_readLine 160 (.goto) 163 240 := ⟨80, eg_X4_readLine_56.2.2.1, rfl, by decide⟩
theorem d_X4_readLine_163 : zD m_X4_readLine 163 (.aload_n 0) 1 164 := ⟨eg_X4_readLine_56.2.2.2.1, rfl⟩
theorem d_X4_readLine_164 : zD m_X4_readLine 164 (.getfield 12) 3 167 := ⟨eg_X4_readLine_56.2.2.2.2.1, rfl⟩
theorem d_X4_readLine_167 : zD m_X4_readLine 167 (.getfield 109) 3 170 := ⟨eg_X4_readLine_56.2.2.2.2.2.1, rfl⟩
theorem d_X4_readLine_170 : zD m_X4_readLine 170 (.iconst 3) 1 171 := ⟨eg_X4_readLine_56.2.2.2.2.2.2.1, rfl⟩
theorem d_X4_readLine_171 : zD m_X4_readLine 171 (.aload_n 0) 1 172 := ⟨eg_X4_readLine_56.2.2.2.2.2.2.2, rfl⟩
theorem d_X4_readLine_172 : zD m_X4_readLine 172 (.iconst 0) 1 173 := ⟨eg_X4_readLine_64.1, rfl⟩
theorem d_X4_readLine_173 : zD m_X4_readLine 173 (.bipush 9) 2 175 := ⟨eg_X4_readLine_64.2.1, rfl⟩
theorem d_X4_readLine_175 : zD m_X4_readLine 175 (.invokevirtual 112) 3 178 := ⟨eg_X4_readLine_64.2.2.1, rfl⟩
theorem d_X4_readLine_178 : zD m_X4_readLine 178 (.iastore) 1 179 := ⟨eg_X4_readLine_64.2.2.2.1, rfl⟩
theorem d_X4_readLine_179 : zDj m_X4_readLine 179 (.goto) 182 240 := ⟨61, eg_X4_readLine_64.2.2.2.2.1, rfl, by decide⟩
theorem d_X4_readLine_182 : zD m_X4_readLine 182 (.aload_n 0) 1 183 := ⟨eg_X4_readLine_64.2.2.2.2.2.1, rfl⟩
theorem d_X4_readLine_183 : zD m_X4_readLine 183 (.getfield 12) 3 186 := ⟨eg_X4_readLine_64.2.2.2.2.2.2.1, rfl⟩
theorem d_X4_readLine_186 : zD m_X4_readLine 186 (.getfield 109) 3 189 := ⟨eg_X4_readLine_64.2.2.2.2.2.2.2, rfl⟩
theorem d_X4_readLine_189 : zD m_X4_readLine 189 (.iconst 4) 1 190 := ⟨eg_X4_readLine_72.1, rfl⟩
theorem d_X4_readLine_190 : zD m_X4_readLine 190 (.aload_n 0) 1 191 := ⟨eg_X4_readLine_72.2.1, rfl⟩
theorem d_X4_readLine_191 : zD m_X4_readLine 191 (.iconst 1) 1 192 := ⟨eg_X4_readLine_72.2.2.1, rfl⟩
theorem d_X4_readLine_192 : zD m_X4_readLine 192 (.bipush 9) 2 194 := ⟨eg_X4_readLine_72.2.2.2.1, rfl⟩
theorem d_X4_readLine_194 : zD m_X4_readLine 194 (.invokevirtual 112) 3 197 := ⟨eg_X4_readLine_72.2.2.2.2.1, rfl⟩
theorem d_X4_readLine_197 : zD m_X4_readLine 197 (.iastore) 1 198 := ⟨eg_X4_readLine_72.2.2.2.2.2.1, rfl⟩
theorem d_X4_readLine_198 : zD m_X4_readLine 198 (.aload_n 0) 1 199 := ⟨eg_X4_readLine_72.2.2.2.2.2.2.1, rfl⟩
theorem d_X4_readLine_199 : zD m_X4_readLine 199 (.getfield 12) 3 202 := ⟨eg_X4_readLine_72.2.2.2.2.2.2.2, rfl⟩
theorem d_X4_readLine_202 : zD m_X4_readLine 202 (.getfield 109) 3 205 := ⟨eg_X4_readLine_80.1, rfl⟩
theorem d_X4_readLine_205 : zD m_X4_readLine 205 (.iconst 5) 1 206 := ⟨eg_X4_readLine_80.2.1, rfl⟩
theorem d_X4_readLine_206 : zD m_X4_readLine 206 (.aload_n 0) 1 207 := ⟨eg_X4_readLine_80.2.2.1, rfl⟩
theorem d_X4_readLine_207 : zD m_X4_readLine 207 (.iconst 1) 1 208 := ⟨eg_X4_readLine_80.2.2.2.1, rfl⟩
theorem d_X4_readLine_208 : zD m_X4_readLine 208 (.bipush 99) 2 210 := ⟨eg_X4_readLine_80.2.2.2.2.1, rfl⟩
theorem d_X4_readLine_210 : zD m_X4_readLine 210 (.invokevirtual 112) 3 213 := ⟨eg_X4_readLine_80.2.2.2.2.2.1, rfl⟩
theorem d_X4_readLine_213 : zD m_X4_readLine 213 (.iastore) 1 214 := ⟨eg_X4_readLine_80.2.2.2.2.2.2.1, rfl⟩
theorem d_X4_readLine_214 : zDj m_X4_readLine 214 (.goto) 217 240 := ⟨26, eg_X4_readLine_80.2.2.2.2.2.2.2, rfl, by decide⟩
theorem d_X4_readLine_217 : zD m_X4_readLine 217 (.aload_n 0) 1 218 := ⟨eg_X4_readLine_88.1, rfl⟩
theorem d_X4_readLine_218 : zD m_X4_readLine 218 (.getfield 12) 3 221 := ⟨eg_X4_readLine_88.2.1, rfl⟩
theorem d_X4_readLine_221 : zD m_X4_readLine 221 (.getfield 109) 3 224 := ⟨eg_X4_readLine_88.2.2.1, rfl⟩
theorem d_X4_readLine_224 : zD m_X4_readLine 224 (.bipush 6) 2 226 := ⟨eg_X4_readLine_88.2.2.2.1, rfl⟩
theorem d_X4_readLine_226 : zD m_X4_readLine 226 (.aload_n 0) 1 227 := ⟨eg_X4_readLine_88.2.2.2.2.1, rfl⟩
theorem d_X4_readLine_227 : zD m_X4_readLine 227 (.iconst 3) 1 228 := ⟨eg_X4_readLine_88.2.2.2.2.2.1, rfl⟩
theorem d_X4_readLine_228 : zD m_X4_readLine 228 (.iconst 4) 1 229 := ⟨eg_X4_readLine_88.2.2.2.2.2.2.1, rfl⟩
theorem d_X4_readLine_229 : zD m_X4_readLine 229 (.invokevirtual 112) 3 232 := ⟨eg_X4_readLine_88.2.2.2.2.2.2.2, rfl⟩
theorem d_X4_readLine_232 : zD m_X4_readLine 232 (.iastore) 1 233 := ⟨eg_X4_readLine_96.1, rfl⟩
theorem d_X4_readLine_233 : zDj m_X4_readLine 233 (.goto) 236 240 := ⟨7, eg_X4_readLine_96.2.1, rfl, by decide⟩
theorem d_X4_readLine_236 : zD m_X4_readLine 236 (.aload_n 0) 1 237 := ⟨eg_X4_readLine_96.2.2.1, rfl⟩
theorem d_X4_readLine_237 : zD m_X4_readLine 237 (.invokevirtual 116) 3 240 := ⟨eg_X4_readLine_96.2.2.2.1, rfl⟩
theorem d_X4_readLine_240 : zD m_X4_readLine 240 (.iload_n 1) 1 241 := ⟨eg_X4_readLine_96.2.2.2.2.1, rfl⟩
theorem d_X4_readLine_241 : zD m_X4_readLine 241 (.bipush 9) 2 243 := ⟨eg_X4_readLine_96.2.2.2.2.2.1, rfl⟩
theorem d_X4_readLine_243 : zDj m_X4_readLine 243 (.if_icmp .eq) 246 250 := ⟨7, eg_X4_readLine_96.2.2.2.2.2.2.1, rfl, by decide⟩
theorem d_X4_readLine_246 : zD m_X4_readLine 246 (.aload_n 0) 1 247 := ⟨eg_X4_readLine_96.2.2.2.2.2.2.2, rfl⟩
theorem d_X4_readLine_247 : zD m_X4_readLine 247 (.invokevirtual 33) 3 250 := ⟨eg_X4_readLine_104.1, rfl⟩
theorem d_X4_readLine_250 : zD m_X4_readLine 250 (.aload_n 0) 1 251 := ⟨eg_X4_readLine_104.2.1, rfl⟩
theorem d_X4_readLine_251 : zD m_X4_readLine 251 (.getfield 40) 3 254 := ⟨eg_X4_readLine_104.2.2.1, rfl⟩
theorem d_X4_readLine_254 : zD m_X4_readLine 254 (.iconst 4) 1 255 := ⟨eg_X4_readLine_104.2.2.2.1, rfl⟩
theorem d_X4_readLine_255 : zDj m_X4_readLine 255 (.if_icmp .eq) 258 267 := ⟨12, eg_X4_readLine_104.2.2.2.2.1, rfl, by decide⟩
theorem d_X4_readLine_258 : zD m_X4_readLine 258 (.aload_n 0) 1 259 := ⟨eg_X4_readLine_104.2.2.2.2.2.1, rfl⟩
theorem d_X4_readLine_259 : zD m_X4_readLine 259 (.iconst 2) 1 260 := ⟨eg_X4_readLine_104.2.2.2.2.2.2.1, rfl⟩
theorem d_X4_readLine_260 : zD m_X4_readLine 260 (.aload_n 0) 1 261 := ⟨eg_X4_readLine_104.2.2.2.2.2.2.2, rfl⟩
theorem d_X4_readLine_261 : zD m_X4_readLine 261 (.getfield 73) 3 264 := ⟨eg_X4_readLine_112.1, rfl⟩
theorem d_X4_readLine_264 : zD m_X4_readLine 264 (.invokevirtual 85) 3 267 := ⟨eg_X4_readLine_112.2.1, rfl⟩
theorem d_X4_readLine_267 : decode (zcc m_X4_readLine) 267 = .ok (.return_, 1) := eg_X4_readLine_112.2.2
set_option maxRecDepth 20000 in
theorem eg_X4_mayBegin_0 : decode (zcc m_X4_mayBegin) 0 = .ok (.iload_n 1, 1) ∧ decode (zcc m_X4_mayBegin) 1 = .ok (.ifCond .lt (9), 3) ∧ decode (zcc m_X4_mayBegin) 4 = .ok (.iload_n 1, 1) ∧ decode (zcc m_X4_mayBegin) 5 = .ok (.bipush 10, 2) ∧ decode (zcc m_X4_mayBegin) 7 = .ok (.if_icmp .lt (15), 3) ∧ decode (zcc m_X4_mayBegin) 10 = .ok (.aload_n 0, 1) ∧ decode (zcc m_X4_mayBegin) 11 = .ok (.iconst 2, 1) ∧ decode (zcc m_X4_mayBegin) 12 = .ok (.aload_n 0, 1) := by decide +kernel
set_option maxRecDepth 20000 in
theorem eg_X4_mayBegin_8 : decode (zcc m_X4_mayBegin) 13 = .ok (.getfield 73, 3) ∧ decode (zcc m_X4_mayBegin) 16 = .ok (.invokevirtual 85, 3) ∧ decode (zcc m_X4_mayBegin) 19 = .ok (.goto (51), 3) ∧ decode (zcc m_X4_mayBegin) 22 = .ok (.iload_n 1, 1) ∧ decode (zcc m_X4_mayBegin) 23 = .ok (.ifCond .ne (24), 3) ∧ decode (zcc m_X4_mayBegin) 26 = .ok (.aload_n 0, 1) ∧ decode (zcc m_X4_mayBegin) 27 = .ok (.getfield 64, 3) ∧ decode (zcc m_X4_mayBegin) 30 = .ok (.bipush 6, 2) := by decide +kernel
set_option maxRecDepth 20000 in
theorem eg_X4_mayBegin_16 : decode (zcc m_X4_mayBegin) 32 = .ok (.if_icmp .lt (15), 3) ∧ decode (zcc m_X4_mayBegin) 35 = .ok (.aload_n 0, 1) ∧ decode (zcc m_X4_mayBegin) 36 = .ok (.iconst 5, 1) ∧ decode (zcc m_X4_mayBegin) 37 = .ok (.aload_n 0, 1) ∧ decode (zcc m_X4_mayBegin) 38 = .ok (.getfield 73, 3) ∧ decode (zcc m_X4_mayBegin) 41 = .ok (.invokevirtual 85, 3) ∧ decode (zcc m_X4_mayBegin) 44 = .ok (.goto (26), 3) ∧ decode (zcc m_X4_mayBegin) 47 = .ok (.iload_n 1, 1) := by decide +kernel
set_option maxRecDepth 20000 in
theorem eg_X4_mayBegin_24 : decode (zcc m_X4_mayBegin) 48 = .ok (.iconst 3, 1) ∧ decode (zcc m_X4_mayBegin) 49 = .ok (.if_icmp .lt (21), 3) ∧ decode (zcc m_X4_mayBegin) 52 = .ok (.aload_n 0, 1) ∧ decode (zcc m_X4_mayBegin) 53 = .ok (.getfield 22, 3) ∧ decode (zcc m_X4_mayBegin) 56 = .ok (.iload_n 1, 1) ∧ decode (zcc m_X4_mayBegin) 57 = .ok (.baload, 1) ∧ decode (zcc m_X4_mayBegin) 58 = .ok (.ifCond .eq (12), 3) ∧ decode (zcc m_X4_mayBegin) 61 = .ok (.aload_n 0, 1) := by decide +kernel
set_option maxRecDepth 20000 in
theorem eg_X4_mayBegin_32 : decode (zcc m_X4_mayBegin) 62 = .ok (.iconst 4, 1) ∧ decode (zcc m_X4_mayBegin) 63 = .ok (.aload_n 0, 1) ∧ decode (zcc m_X4_mayBegin) 64 = .ok (.getfield 73, 3) ∧ decode (zcc m_X4_mayBegin) 67 = .ok (.invokevirtual 85, 3) ∧ decode (zcc m_X4_mayBegin) 70 = .ok (.aload_n 0, 1) ∧ decode (zcc m_X4_mayBegin) 71 = .ok (.getfield 36, 3) ∧ decode (zcc m_X4_mayBegin) 74 = .ok (.ifCond .ne (7), 3) ∧ decode (zcc m_X4_mayBegin) 77 = .ok (.iconst 1, 1) := by decide +kernel
set_option maxRecDepth 20000 in
theorem eg_X4_mayBegin_40 : decode (zcc m_X4_mayBegin) 78 = .ok (.goto (4), 3) ∧ decode (zcc m_X4_mayBegin) 81 = .ok (.iconst 0, 1) ∧ decode (zcc m_X4_mayBegin) 82 = .ok (.ireturn, 1) := by decide +kernel
theorem d_X4_mayBegin_0 : zD m_X4_mayBegin 0 (.iload_n 1) 1 1 := ⟨eg_X4_mayBegin_0.1, rfl⟩
theorem d_X4_mayBegin_1 : zDj m_X4_mayBegin 1 (.ifCond .lt) 4 10 := ⟨9, eg_X4_mayBegin_0.2.1, rfl, by decide⟩
theorem d_X4_mayBegin_4 : zD m_X4_mayBegin 4 (.iload_n 1) 1 5 := ⟨eg_X4_mayBegin_0.2.2.1, rfl⟩
theorem d_X4_mayBegin_5 : zD m_X4_mayBegin 5 (.bipush 10) 2 7 := ⟨eg_X4_mayBegin_0.2.2.2.1, rfl⟩
theorem d_X4_mayBegin_7 : zDj m_X4_mayBegin 7 (.if_icmp .lt) 10 22 := ⟨15, eg_X4_mayBegin_0.2.2.2.2.1, rfl, by decide⟩
theorem d_X4_mayBegin_10 : zD m_X4_mayBegin 10 (.aload_n 0) 1 11 := ⟨eg_X4_mayBegin_0.2.2.2.2.2.1, rfl⟩
theorem d_X4_mayBegin_11 : zD m_X4_mayBegin 11 (.iconst 2) 1 12 := ⟨eg_X4_mayBegin_0.2.2.2.2.2.2.1, rfl⟩
theorem d_X4_mayBegin_12 : zD m_X4_mayBegin 12 (.aload_n 0) 1 13 := ⟨eg_X4_mayBegin_0.2.2.2.2.2.2.2, rfl⟩
theorem d_X4_mayBegin_13 : zD m_X4_mayBegin 13 (.getfield 73) 3 16 := ⟨eg_X4_mayBegin_8.1, rfl⟩
theorem d_X4_mayBegin_16 : zD m_X4_mayBegin 16 (.invokevirtual 85) 3 19 := ⟨eg_X4_mayBegin_8.2.1, rfl⟩
theorem d_X4_mayBegin_19 : zDj m_X4_mayBegin 19 (.goto) 22 70 := ⟨51, eg_X4_mayBegin_8.2.2.1, rfl, by decide⟩
theorem d_X4_mayBegin_22 : zD m_X4_mayBegin 22 (.iload_n 1) 1 23 := ⟨eg_X4_mayBegin_8.2.2.2.1, rfl⟩
theorem d_X4_mayBegin_23 : zDj m_X4_mayBegin 23 (.ifCond .ne) 26 47 := ⟨24, eg_X4_mayBegin_8.2.2.2.2.1, rfl, by decide⟩
theorem d_X4_mayBegin_26 : zD m_X4_mayBegin 26 (.aload_n 0) 1 27 := ⟨eg_X4_mayBegin_8.2.2.2.2.2.1, rfl⟩
theorem d_X4_mayBegin_27 : zD m_X4_mayBegin 27 (.getfield 64) 3 30 := ⟨eg_X4_mayBegin_8.2.2.2.2.2.2.1, rfl⟩
theorem d_X4_mayBegin_30 : zD m_X4_mayBegin 30 (.bipush 6) 2 32 := ⟨eg_X4_mayBegin_8.2.2.2.2.2.2.2, rfl⟩
theorem d_X4_mayBegin_32 : zDj m_X4_mayBegin 32 (.if_icmp .lt) 35 47 := ⟨15, eg_X4_mayBegin_16.1, rfl, by decide⟩
theorem d_X4_mayBegin_35 : zD m_X4_mayBegin 35 (.aload_n 0) 1 36 := ⟨eg_X4_mayBegin_16.2.1, rfl⟩
theorem d_X4_mayBegin_36 : zD m_X4_mayBegin 36 (.iconst 5) 1 37 := ⟨eg_X4_mayBegin_16.2.2.1, rfl⟩
theorem d_X4_mayBegin_37 : zD m_X4_mayBegin 37 (.aload_n 0) 1 38 := ⟨eg_X4_mayBegin_16.2.2.2.1, rfl⟩
theorem d_X4_mayBegin_38 : zD m_X4_mayBegin 38 (.getfield 73) 3 41 := ⟨eg_X4_mayBegin_16.2.2.2.2.1, rfl⟩
theorem d_X4_mayBegin_41 : zD m_X4_mayBegin 41 (.invokevirtual 85) 3 44 := ⟨eg_X4_mayBegin_16.2.2.2.2.2.1, rfl⟩
theorem d_X4_mayBegin_44 : zDj m_X4_mayBegin 44 (.goto) 47 70 := ⟨26, eg_X4_mayBegin_16.2.2.2.2.2.2.1, rfl, by decide⟩
theorem d_X4_mayBegin_47 : zD m_X4_mayBegin 47 (.iload_n 1) 1 48 := ⟨eg_X4_mayBegin_16.2.2.2.2.2.2.2, rfl⟩
theorem d_X4_mayBegin_48 : zD m_X4_mayBegin 48 (.iconst 3) 1 49 := ⟨eg_X4_mayBegin_24.1, rfl⟩
theorem d_X4_mayBegin_49 : zDj m_X4_mayBegin 49 (.if_icmp .lt) 52 70 := ⟨21, eg_X4_mayBegin_24.2.1, rfl, by decide⟩
theorem d_X4_mayBegin_52 : zD m_X4_mayBegin 52 (.aload_n 0) 1 53 := ⟨eg_X4_mayBegin_24.2.2.1, rfl⟩
theorem d_X4_mayBegin_53 : zD m_X4_mayBegin 53 (.getfield 22) 3 56 := ⟨eg_X4_mayBegin_24.2.2.2.1, rfl⟩
theorem d_X4_mayBegin_56 : zD m_X4_mayBegin 56 (.iload_n 1) 1 57 := ⟨eg_X4_mayBegin_24.2.2.2.2.1, rfl⟩
theorem d_X4_mayBegin_57 : zD m_X4_mayBegin 57 (.baload) 1 58 := ⟨eg_X4_mayBegin_24.2.2.2.2.2.1, rfl⟩
theorem d_X4_mayBegin_58 : zDj m_X4_mayBegin 58 (.ifCond .eq) 61 70 := ⟨12, eg_X4_mayBegin_24.2.2.2.2.2.2.1, rfl, by decide⟩
theorem d_X4_mayBegin_61 : zD m_X4_mayBegin 61 (.aload_n 0) 1 62 := ⟨eg_X4_mayBegin_24.2.2.2.2.2.2.2, rfl⟩
theorem d_X4_mayBegin_62 : zD m_X4_mayBegin 62 (.iconst 4) 1 63 := ⟨eg_X4_mayBegin_32.1, rfl⟩
theorem d_X4_mayBegin_63 : zD m_X4_mayBegin 63 (.aload_n 0) 1 64 := ⟨eg_X4_mayBegin_32.2.1, rfl⟩
theorem d_X4_mayBegin_64 : zD m_X4_mayBegin 64 (.getfield 73) 3 67 := ⟨eg_X4_mayBegin_32.2.2.1, rfl⟩
theorem d_X4_mayBegin_67 : zD m_X4_mayBegin 67 (.invokevirtual 85) 3 70 := ⟨eg_X4_mayBegin_32.2.2.2.1, rfl⟩
theorem d_X4_mayBegin_70 : zD m_X4_mayBegin 70 (.aload_n 0) 1 71 := ⟨eg_X4_mayBegin_32.2.2.2.2.1, rfl⟩
theorem d_X4_mayBegin_71 : zD m_X4_mayBegin 71 (.getfield 36) 3 74 := ⟨eg_X4_mayBegin_32.2.2.2.2.2.1, rfl⟩
theorem d_X4_mayBegin_74 : zDj m_X4_mayBegin 74 (.ifCond .ne) 77 81 := ⟨7, eg_X4_mayBegin_32.2.2.2.2.2.2.1, rfl, by decide⟩
theorem d_X4_mayBegin_77 : zD m_X4_mayBegin 77 (.iconst 1) 1 78 := ⟨eg_X4_mayBegin_32.2.2.2.2.2.2.2, rfl⟩
theorem d_X4_mayBegin_78 : zDj m_X4_mayBegin 78 (.goto) 81 82 := ⟨4, eg_X4_mayBegin_40.1, rfl, by decide⟩
theorem d_X4_mayBegin_81 : zD m_X4_mayBegin 81 (.iconst 0) 1 82 := ⟨eg_X4_mayBegin_40.2.1, rfl⟩
theorem d_X4_mayBegin_82 : decode (zcc m_X4_mayBegin) 82 = .ok (.ireturn, 1) := eg_X4_mayBegin_40.2.2
set_option maxRecDepth 20000 in
theorem eg_X4_kindHere_0 : decode (zcc m_X4_kindHere) 0 = .ok (.aload_n 0, 1) ∧ decode (zcc m_X4_kindHere) 1 = .ok (.getfield 40, 3) ∧ decode (zcc m_X4_kindHere) 4 = .ok (.iconst 2, 1) ∧ decode (zcc m_X4_kindHere) 5 = .ok (.if_icmp .eq (5), 3) ∧ decode (zcc m_X4_kindHere) 8 = .ok (.iconst (-1), 1) ∧ decode (zcc m_X4_kindHere) 9 = .ok (.ireturn, 1) ∧ decode (zcc m_X4_kindHere) 10 = .ok (.iconst 0, 1) ∧ decode (zcc m_X4_kindHere) 11 = .ok (.istore_n 1, 1) := by decide +kernel
set_option maxRecDepth 20000 in
theorem eg_X4_kindHere_8 : decode (zcc m_X4_kindHere) 12 = .ok (.iload_n 1, 1) ∧ decode (zcc m_X4_kindHere) 13 = .ok (.bipush 10, 2) ∧ decode (zcc m_X4_kindHere) 15 = .ok (.if_icmp .ge (22), 3) ∧ decode (zcc m_X4_kindHere) 18 = .ok (.aload_n 0, 1) ∧ decode (zcc m_X4_kindHere) 19 = .ok (.iload_n 1, 1) ∧ decode (zcc m_X4_kindHere) 20 = .ok (.invokestatic 119, 3) ∧ decode (zcc m_X4_kindHere) 23 = .ok (.invokevirtual 123, 3) ∧ decode (zcc m_X4_kindHere) 26 = .ok (.ifCond .eq (5), 3) := by decide +kernel
set_option maxRecDepth 20000 in
theorem eg_X4_kindHere_16 : decode (zcc m_X4_kindHere) 29 = .ok (.iload_n 1, 1) ∧ decode (zcc m_X4_kindHere) 30 = .ok (.ireturn, 1) ∧ decode (zcc m_X4_kindHere) 31 = .ok (.iinc 1 1, 3) ∧ decode (zcc m_X4_kindHere) 34 = .ok (.goto (-22), 3) ∧ decode (zcc m_X4_kindHere) 37 = .ok (.iconst (-1), 1) ∧ decode (zcc m_X4_kindHere) 38 = .ok (.ireturn, 1) := by decide +kernel
theorem d_X4_kindHere_0 : zD m_X4_kindHere 0 (.aload_n 0) 1 1 := ⟨eg_X4_kindHere_0.1, rfl⟩
theorem d_X4_kindHere_1 : zD m_X4_kindHere 1 (.getfield 40) 3 4 := ⟨eg_X4_kindHere_0.2.1, rfl⟩
theorem d_X4_kindHere_4 : zD m_X4_kindHere 4 (.iconst 2) 1 5 := ⟨eg_X4_kindHere_0.2.2.1, rfl⟩
theorem d_X4_kindHere_5 : zDj m_X4_kindHere 5 (.if_icmp .eq) 8 10 := ⟨5, eg_X4_kindHere_0.2.2.2.1, rfl, by decide⟩
theorem d_X4_kindHere_8 : zD m_X4_kindHere 8 (.iconst (-1)) 1 9 := ⟨eg_X4_kindHere_0.2.2.2.2.1, rfl⟩
theorem d_X4_kindHere_9 : decode (zcc m_X4_kindHere) 9 = .ok (.ireturn, 1) := eg_X4_kindHere_0.2.2.2.2.2.1
theorem d_X4_kindHere_10 : zD m_X4_kindHere 10 (.iconst 0) 1 11 := ⟨eg_X4_kindHere_0.2.2.2.2.2.2.1, rfl⟩
theorem d_X4_kindHere_11 : zD m_X4_kindHere 11 (.istore_n 1) 1 12 := ⟨eg_X4_kindHere_0.2.2.2.2.2.2.2, rfl⟩
theorem d_X4_kindHere_12 : zD m_X4_kindHere 12 (.iload_n 1) 1 13 := ⟨eg_X4_kindHere_8.1, rfl⟩
theorem d_X4_kindHere_13 : zD m_X4_kindHere 13 (.bipush 10) 2 15 := ⟨eg_X4_kindHere_8.2.1, rfl⟩
theorem d_X4_kindHere_15 : zDj m_X4_kindHere 15 (.if_icmp .ge) 18 37 := ⟨22, eg_X4_kindHere_8.2.2.1, rfl, by decide⟩
theorem d_X4_kindHere_18 : zD m_X4_kindHere 18 (.aload_n 0) 1 19 := ⟨eg_X4_kindHere_8.2.2.2.1, rfl⟩
theorem d_X4_kindHere_19 : zD m_X4_kindHere 19 (.iload_n 1) 1 20 := ⟨eg_X4_kindHere_8.2.2.2.2.1, rfl⟩
theorem d_X4_kindHere_20 : zD m_X4_kindHere 20 (.invokestatic 119) 3 23 := ⟨eg_X4_kindHere_8.2.2.2.2.2.1, rfl⟩
theorem d_X4_kindHere_23 : zD m_X4_kindHere 23 (.invokevirtual 123) 3 26 := ⟨eg_X4_kindHere_8.2.2.2.2.2.2.1, rfl⟩
theorem d_X4_kindHere_26 : zDj m_X4_kindHere 26 (.ifCond .eq) 29 31 := ⟨5, eg_X4_kindHere_8.2.2.2.2.2.2.2, rfl, by decide⟩
theorem d_X4_kindHere_29 : zD m_X4_kindHere 29 (.iload_n 1) 1 30 := ⟨eg_X4_kindHere_16.1, rfl⟩
theorem d_X4_kindHere_30 : decode (zcc m_X4_kindHere) 30 = .ok (.ireturn, 1) := eg_X4_kindHere_16.2.1
theorem d_X4_kindHere_31 : zD m_X4_kindHere 31 (.iinc 1 1) 3 34 := ⟨eg_X4_kindHere_16.2.2.1, rfl⟩
theorem d_X4_kindHere_34 : zDj m_X4_kindHere 34 (.goto) 37 12 := ⟨-22, eg_X4_kindHere_16.2.2.2.1, rfl, by decide⟩
theorem d_X4_kindHere_37 : zD m_X4_kindHere 37 (.iconst (-1)) 1 38 := ⟨eg_X4_kindHere_16.2.2.2.2.1, rfl⟩
theorem d_X4_kindHere_38 : decode (zcc m_X4_kindHere) 38 = .ok (.ireturn, 1) := eg_X4_kindHere_16.2.2.2.2.2
set_option maxRecDepth 20000 in
theorem eg_X4_nameOf_0 : decode (zcc m_X4_nameOf) 0 = .ok (.iload_n 0, 1) ∧ decode (zcc m_X4_nameOf) 1 = .ok (.tableswitch 78 0 8 #[51, 54, 57, 60, 63, 66, 69, 72, 75], 51) ∧ decode (zcc m_X4_nameOf) 52 = .ok (.ldc 127, 2) ∧ decode (zcc m_X4_nameOf) 54 = .ok (.areturn, 1) ∧ decode (zcc m_X4_nameOf) 55 = .ok (.ldc 129, 2) ∧ decode (zcc m_X4_nameOf) 57 = .ok (.areturn, 1) ∧ decode (zcc m_X4_nameOf) 58 = .ok (.ldc 130, 2) ∧ decode (zcc m_X4_nameOf) 60 = .ok (.areturn, 1) := by decide +kernel
set_option maxRecDepth 20000 in
theorem eg_X4_nameOf_8 : decode (zcc m_X4_nameOf) 61 = .ok (.ldc 131, 2) ∧ decode (zcc m_X4_nameOf) 63 = .ok (.areturn, 1) ∧ decode (zcc m_X4_nameOf) 64 = .ok (.ldc 133, 2) ∧ decode (zcc m_X4_nameOf) 66 = .ok (.areturn, 1) ∧ decode (zcc m_X4_nameOf) 67 = .ok (.ldc 135, 2) ∧ decode (zcc m_X4_nameOf) 69 = .ok (.areturn, 1) ∧ decode (zcc m_X4_nameOf) 70 = .ok (.ldc 137, 2) ∧ decode (zcc m_X4_nameOf) 72 = .ok (.areturn, 1) := by decide +kernel
set_option maxRecDepth 20000 in
theorem eg_X4_nameOf_16 : decode (zcc m_X4_nameOf) 73 = .ok (.ldc 139, 2) ∧ decode (zcc m_X4_nameOf) 75 = .ok (.areturn, 1) ∧ decode (zcc m_X4_nameOf) 76 = .ok (.ldc 141, 2) ∧ decode (zcc m_X4_nameOf) 78 = .ok (.areturn, 1) ∧ decode (zcc m_X4_nameOf) 79 = .ok (.ldc 143, 2) ∧ decode (zcc m_X4_nameOf) 81 = .ok (.areturn, 1) := by decide +kernel
theorem d_X4_nameOf_0 : zD m_X4_nameOf 0 (.iload_n 0) 1 1 := ⟨eg_X4_nameOf_0.1, rfl⟩
theorem d_X4_nameOf_1 : decode (zcc m_X4_nameOf) 1 = .ok (.tableswitch 78 0 8 #[51, 54, 57, 60, 63, 66, 69, 72, 75], 51) := eg_X4_nameOf_0.2.1
theorem d_X4_nameOf_52 : zD m_X4_nameOf 52 (.ldc 127) 2 54 := ⟨eg_X4_nameOf_0.2.2.1, rfl⟩
theorem d_X4_nameOf_54 : decode (zcc m_X4_nameOf) 54 = .ok (.areturn, 1) := eg_X4_nameOf_0.2.2.2.1
theorem d_X4_nameOf_55 : zD m_X4_nameOf 55 (.ldc 129) 2 57 := ⟨eg_X4_nameOf_0.2.2.2.2.1, rfl⟩
theorem d_X4_nameOf_57 : decode (zcc m_X4_nameOf) 57 = .ok (.areturn, 1) := eg_X4_nameOf_0.2.2.2.2.2.1
theorem d_X4_nameOf_58 : zD m_X4_nameOf 58 (.ldc 130) 2 60 := ⟨eg_X4_nameOf_0.2.2.2.2.2.2.1, rfl⟩
theorem d_X4_nameOf_60 : decode (zcc m_X4_nameOf) 60 = .ok (.areturn, 1) := eg_X4_nameOf_0.2.2.2.2.2.2.2
theorem d_X4_nameOf_61 : zD m_X4_nameOf 61 (.ldc 131) 2 63 := ⟨eg_X4_nameOf_8.1, rfl⟩
theorem d_X4_nameOf_63 : decode (zcc m_X4_nameOf) 63 = .ok (.areturn, 1) := eg_X4_nameOf_8.2.1
theorem d_X4_nameOf_64 : zD m_X4_nameOf 64 (.ldc 133) 2 66 := ⟨eg_X4_nameOf_8.2.2.1, rfl⟩
theorem d_X4_nameOf_66 : decode (zcc m_X4_nameOf) 66 = .ok (.areturn, 1) := eg_X4_nameOf_8.2.2.2.1
theorem d_X4_nameOf_67 : zD m_X4_nameOf 67 (.ldc 135) 2 69 := ⟨eg_X4_nameOf_8.2.2.2.2.1, rfl⟩
theorem d_X4_nameOf_69 : decode (zcc m_X4_nameOf) 69 = .ok (.areturn, 1) := eg_X4_nameOf_8.2.2.2.2.2.1
theorem d_X4_nameOf_70 : zD m_X4_nameOf 70 (.ldc 137) 2 72 := ⟨eg_X4_nameOf_8.2.2.2.2.2.2.1, rfl⟩
theorem d_X4_nameOf_72 : decode (zcc m_X4_nameOf) 72 = .ok (.areturn, 1) := eg_X4_nameOf_8.2.2.2.2.2.2.2
theorem d_X4_nameOf_73 : zD m_X4_nameOf 73 (.ldc 139) 2 75 := ⟨eg_X4_nameOf_16.1, rfl⟩
theorem d_X4_nameOf_75 : decode (zcc m_X4_nameOf) 75 = .ok (.areturn, 1) := eg_X4_nameOf_16.2.1
theorem d_X4_nameOf_76 : zD m_X4_nameOf 76 (.ldc 141) 2 78 := ⟨eg_X4_nameOf_16.2.2.1, rfl⟩
theorem d_X4_nameOf_78 : decode (zcc m_X4_nameOf) 78 = .ok (.areturn, 1) := eg_X4_nameOf_16.2.2.2.1
theorem d_X4_nameOf_79 : zD m_X4_nameOf 79 (.ldc 143) 2 81 := ⟨eg_X4_nameOf_16.2.2.2.2.1, rfl⟩
theorem d_X4_nameOf_81 : decode (zcc m_X4_nameOf) 81 = .ok (.areturn, 1) := eg_X4_nameOf_16.2.2.2.2.2
set_option maxRecDepth 20000 in
theorem eg_X4_spells_0 : decode (zcc m_X4_spells) 0 = .ok (.aload_n 1, 1) ∧ decode (zcc m_X4_spells) 1 = .ok (.invokevirtual 145, 3) ∧ decode (zcc m_X4_spells) 4 = .ok (.aload_n 0, 1) ∧ decode (zcc m_X4_spells) 5 = .ok (.getfield 61, 3) ∧ decode (zcc m_X4_spells) 8 = .ok (.aload_n 0, 1) ∧ decode (zcc m_X4_spells) 9 = .ok (.getfield 73, 3) ∧ decode (zcc m_X4_spells) 12 = .ok (.isub, 1) ∧ decode (zcc m_X4_spells) 13 = .ok (.if_icmp .eq (5), 3) := by decide +kernel
set_option maxRecDepth 20000 in
theorem eg_X4_spells_8 : decode (zcc m_X4_spells) 16 = .ok (.iconst 0, 1) ∧ decode (zcc m_X4_spells) 17 = .ok (.ireturn, 1) ∧ decode (zcc m_X4_spells) 18 = .ok (.iconst 0, 1) ∧ decode (zcc m_X4_spells) 19 = .ok (.istore_n 2, 1) ∧ decode (zcc m_X4_spells) 20 = .ok (.iload_n 2, 1) ∧ decode (zcc m_X4_spells) 21 = .ok (.aload_n 1, 1) ∧ decode (zcc m_X4_spells) 22 = .ok (.invokevirtual 145, 3) ∧ decode (zcc m_X4_spells) 25 = .ok (.if_icmp .ge (32), 3) := by decide +kernel
set_option maxRecDepth 20000 in
theorem eg_X4_spells_16 : decode (zcc m_X4_spells) 28 = .ok (.aload_n 0, 1) ∧ decode (zcc m_X4_spells) 29 = .ok (.getfield 26, 3) ∧ decode (zcc m_X4_spells) 32 = .ok (.aload_n 0, 1) ∧ decode (zcc m_X4_spells) 33 = .ok (.getfield 73, 3) ∧ decode (zcc m_X4_spells) 36 = .ok (.iload_n 2, 1) ∧ decode (zcc m_X4_spells) 37 = .ok (.iadd, 1) ∧ decode (zcc m_X4_spells) 38 = .ok (.invokevirtual 67, 3) ∧ decode (zcc m_X4_spells) 41 = .ok (.aload_n 1, 1) := by decide +kernel
set_option maxRecDepth 20000 in
theorem eg_X4_spells_24 : decode (zcc m_X4_spells) 42 = .ok (.iload_n 2, 1) ∧ decode (zcc m_X4_spells) 43 = .ok (.invokevirtual 150, 3) ∧ decode (zcc m_X4_spells) 46 = .ok (.if_icmp .eq (5), 3) ∧ decode (zcc m_X4_spells) 49 = .ok (.iconst 0, 1) ∧ decode (zcc m_X4_spells) 50 = .ok (.ireturn, 1) ∧ decode (zcc m_X4_spells) 51 = .ok (.iinc 2 1, 3) ∧ decode (zcc m_X4_spells) 54 = .ok (.goto (-34), 3) ∧ decode (zcc m_X4_spells) 57 = .ok (.iconst 1, 1) := by decide +kernel
set_option maxRecDepth 20000 in
theorem eg_X4_spells_32 : decode (zcc m_X4_spells) 58 = .ok (.ireturn, 1) := by decide +kernel
theorem d_X4_spells_0 : zD m_X4_spells 0 (.aload_n 1) 1 1 := ⟨eg_X4_spells_0.1, rfl⟩
theorem d_X4_spells_1 : zD m_X4_spells 1 (.invokevirtual 145) 3 4 := ⟨eg_X4_spells_0.2.1, rfl⟩
theorem d_X4_spells_4 : zD m_X4_spells 4 (.aload_n 0) 1 5 := ⟨eg_X4_spells_0.2.2.1, rfl⟩
theorem d_X4_spells_5 : zD m_X4_spells 5 (.getfield 61) 3 8 := ⟨eg_X4_spells_0.2.2.2.1, rfl⟩
theorem d_X4_spells_8 : zD m_X4_spells 8 (.aload_n 0) 1 9 := ⟨eg_X4_spells_0.2.2.2.2.1, rfl⟩
theorem d_X4_spells_9 : zD m_X4_spells 9 (.getfield 73) 3 12 := ⟨eg_X4_spells_0.2.2.2.2.2.1, rfl⟩
theorem d_X4_spells_12 : zD m_X4_spells 12 (.isub) 1 13 := ⟨eg_X4_spells_0.2.2.2.2.2.2.1, rfl⟩
theorem d_X4_spells_13 : zDj m_X4_spells 13 (.if_icmp .eq) 16 18 := ⟨5, eg_X4_spells_0.2.2.2.2.2.2.2, rfl, by decide⟩
theorem d_X4_spells_16 : zD m_X4_spells 16 (.iconst 0) 1 17 := ⟨eg_X4_spells_8.1, rfl⟩
theorem d_X4_spells_17 : decode (zcc m_X4_spells) 17 = .ok (.ireturn, 1) := eg_X4_spells_8.2.1
theorem d_X4_spells_18 : zD m_X4_spells 18 (.iconst 0) 1 19 := ⟨eg_X4_spells_8.2.2.1, rfl⟩
theorem d_X4_spells_19 : zD m_X4_spells 19 (.istore_n 2) 1 20 := ⟨eg_X4_spells_8.2.2.2.1, rfl⟩
theorem d_X4_spells_20 : zD m_X4_spells 20 (.iload_n 2) 1 21 := ⟨eg_X4_spells_8.2.2.2.2.1, rfl⟩
theorem d_X4_spells_21 : zD m_X4_spells 21 (.aload_n 1) 1 22 := ⟨eg_X4_spells_8.2.2.2.2.2.1, rfl⟩
theorem d_X4_spells_22 : zD m_X4_spells 22 (.invokevirtual 145) 3 25 := ⟨eg_X4_spells_8.2.2.2.2.2.2.1, rfl⟩
theorem d_X4_spells_25 : zDj m_X4_spells 25 (.if_icmp .ge) 28 57 := ⟨32, eg_X4_spells_8.2.2.2.2.2.2.2, rfl, by decide⟩
theorem d_X4_spells_28 : zD m_X4_spells 28 (.aload_n 0) 1 29 := ⟨eg_X4_spells_16.1, rfl⟩
theorem d_X4_spells_29 : zD m_X4_spells 29 (.getfield 26) 3 32 := ⟨eg_X4_spells_16.2.1, rfl⟩
theorem d_X4_spells_32 : zD m_X4_spells 32 (.aload_n 0) 1 33 := ⟨eg_X4_spells_16.2.2.1, rfl⟩
theorem d_X4_spells_33 : zD m_X4_spells 33 (.getfield 73) 3 36 := ⟨eg_X4_spells_16.2.2.2.1, rfl⟩
theorem d_X4_spells_36 : zD m_X4_spells 36 (.iload_n 2) 1 37 := ⟨eg_X4_spells_16.2.2.2.2.1, rfl⟩
theorem d_X4_spells_37 : zD m_X4_spells 37 (.iadd) 1 38 := ⟨eg_X4_spells_16.2.2.2.2.2.1, rfl⟩
theorem d_X4_spells_38 : zD m_X4_spells 38 (.invokevirtual 67) 3 41 := ⟨eg_X4_spells_16.2.2.2.2.2.2.1, rfl⟩
theorem d_X4_spells_41 : zD m_X4_spells 41 (.aload_n 1) 1 42 := ⟨eg_X4_spells_16.2.2.2.2.2.2.2, rfl⟩
theorem d_X4_spells_42 : zD m_X4_spells 42 (.iload_n 2) 1 43 := ⟨eg_X4_spells_24.1, rfl⟩
theorem d_X4_spells_43 : zD m_X4_spells 43 (.invokevirtual 150) 3 46 := ⟨eg_X4_spells_24.2.1, rfl⟩
theorem d_X4_spells_46 : zDj m_X4_spells 46 (.if_icmp .eq) 49 51 := ⟨5, eg_X4_spells_24.2.2.1, rfl, by decide⟩
theorem d_X4_spells_49 : zD m_X4_spells 49 (.iconst 0) 1 50 := ⟨eg_X4_spells_24.2.2.2.1, rfl⟩
theorem d_X4_spells_50 : decode (zcc m_X4_spells) 50 = .ok (.ireturn, 1) := eg_X4_spells_24.2.2.2.2.1
theorem d_X4_spells_51 : zD m_X4_spells 51 (.iinc 2 1) 3 54 := ⟨eg_X4_spells_24.2.2.2.2.2.1, rfl⟩
theorem d_X4_spells_54 : zDj m_X4_spells 54 (.goto) 57 20 := ⟨-34, eg_X4_spells_24.2.2.2.2.2.2.1, rfl, by decide⟩
theorem d_X4_spells_57 : zD m_X4_spells 57 (.iconst 1) 1 58 := ⟨eg_X4_spells_24.2.2.2.2.2.2.2, rfl⟩
theorem d_X4_spells_58 : decode (zcc m_X4_spells) 58 = .ok (.ireturn, 1) := eg_X4_spells_32
set_option maxRecDepth 20000 in
theorem eg_X4_readRow_0 : decode (zcc m_X4_readRow) 0 = .ok (.iconst 0, 1) ∧ decode (zcc m_X4_readRow) 1 = .ok (.istore_n 1, 1) ∧ decode (zcc m_X4_readRow) 2 = .ok (.iload_n 1, 1) ∧ decode (zcc m_X4_readRow) 3 = .ok (.bipush 8, 2) ∧ decode (zcc m_X4_readRow) 5 = .ok (.if_icmp .ge (30), 3) ∧ decode (zcc m_X4_readRow) 8 = .ok (.aload_n 0, 1) ∧ decode (zcc m_X4_readRow) 9 = .ok (.getfield 18, 3) ∧ decode (zcc m_X4_readRow) 12 = .ok (.aload_n 0, 1) := by decide +kernel
set_option maxRecDepth 20000 in
theorem eg_X4_readRow_8 : decode (zcc m_X4_readRow) 13 = .ok (.getfield 64, 3) ∧ decode (zcc m_X4_readRow) 16 = .ok (.bipush 8, 2) ∧ decode (zcc m_X4_readRow) 18 = .ok (.imul, 1) ∧ decode (zcc m_X4_readRow) 19 = .ok (.iload_n 1, 1) ∧ decode (zcc m_X4_readRow) 20 = .ok (.iadd, 1) ∧ decode (zcc m_X4_readRow) 21 = .ok (.aload_n 0, 1) ∧ decode (zcc m_X4_readRow) 22 = .ok (.iconst 0, 1) ∧ decode (zcc m_X4_readRow) 23 = .ok (.bipush 99, 2) := by decide +kernel
set_option maxRecDepth 20000 in
theorem eg_X4_readRow_16 : decode (zcc m_X4_readRow) 25 = .ok (.invokevirtual 112, 3) ∧ decode (zcc m_X4_readRow) 28 = .ok (.iastore, 1) ∧ decode (zcc m_X4_readRow) 29 = .ok (.iinc 1 1, 3) ∧ decode (zcc m_X4_readRow) 32 = .ok (.goto (-30), 3) ∧ decode (zcc m_X4_readRow) 35 = .ok (.aload_n 0, 1) ∧ decode (zcc m_X4_readRow) 36 = .ok (.dup, 1) ∧ decode (zcc m_X4_readRow) 37 = .ok (.getfield 64, 3) ∧ decode (zcc m_X4_readRow) 40 = .ok (.iconst 1, 1) := by decide +kernel
set_option maxRecDepth 20000 in
theorem eg_X4_readRow_24 : decode (zcc m_X4_readRow) 41 = .ok (.iadd, 1) ∧ decode (zcc m_X4_readRow) 42 = .ok (.putfield 64, 3) ∧ decode (zcc m_X4_readRow) 45 = .ok (.return_, 1) := by decide +kernel
theorem d_X4_readRow_0 : zD m_X4_readRow 0 (.iconst 0) 1 1 := ⟨eg_X4_readRow_0.1, rfl⟩
theorem d_X4_readRow_1 : zD m_X4_readRow 1 (.istore_n 1) 1 2 := ⟨eg_X4_readRow_0.2.1, rfl⟩
theorem d_X4_readRow_2 : zD m_X4_readRow 2 (.iload_n 1) 1 3 := ⟨eg_X4_readRow_0.2.2.1, rfl⟩
theorem d_X4_readRow_3 : zD m_X4_readRow 3 (.bipush 8) 2 5 := ⟨eg_X4_readRow_0.2.2.2.1, rfl⟩
theorem d_X4_readRow_5 : zDj m_X4_readRow 5 (.if_icmp .ge) 8 35 := ⟨30, eg_X4_readRow_0.2.2.2.2.1, rfl, by decide⟩
theorem d_X4_readRow_8 : zD m_X4_readRow 8 (.aload_n 0) 1 9 := ⟨eg_X4_readRow_0.2.2.2.2.2.1, rfl⟩
theorem d_X4_readRow_9 : zD m_X4_readRow 9 (.getfield 18) 3 12 := ⟨eg_X4_readRow_0.2.2.2.2.2.2.1, rfl⟩
theorem d_X4_readRow_12 : zD m_X4_readRow 12 (.aload_n 0) 1 13 := ⟨eg_X4_readRow_0.2.2.2.2.2.2.2, rfl⟩
theorem d_X4_readRow_13 : zD m_X4_readRow 13 (.getfield 64) 3 16 := ⟨eg_X4_readRow_8.1, rfl⟩
theorem d_X4_readRow_16 : zD m_X4_readRow 16 (.bipush 8) 2 18 := ⟨eg_X4_readRow_8.2.1, rfl⟩
theorem d_X4_readRow_18 : zD m_X4_readRow 18 (.imul) 1 19 := ⟨eg_X4_readRow_8.2.2.1, rfl⟩
theorem d_X4_readRow_19 : zD m_X4_readRow 19 (.iload_n 1) 1 20 := ⟨eg_X4_readRow_8.2.2.2.1, rfl⟩
theorem d_X4_readRow_20 : zD m_X4_readRow 20 (.iadd) 1 21 := ⟨eg_X4_readRow_8.2.2.2.2.1, rfl⟩
theorem d_X4_readRow_21 : zD m_X4_readRow 21 (.aload_n 0) 1 22 := ⟨eg_X4_readRow_8.2.2.2.2.2.1, rfl⟩
theorem d_X4_readRow_22 : zD m_X4_readRow 22 (.iconst 0) 1 23 := ⟨eg_X4_readRow_8.2.2.2.2.2.2.1, rfl⟩
theorem d_X4_readRow_23 : zD m_X4_readRow 23 (.bipush 99) 2 25 := ⟨eg_X4_readRow_8.2.2.2.2.2.2.2, rfl⟩
theorem d_X4_readRow_25 : zD m_X4_readRow 25 (.invokevirtual 112) 3 28 := ⟨eg_X4_readRow_16.1, rfl⟩
theorem d_X4_readRow_28 : zD m_X4_readRow 28 (.iastore) 1 29 := ⟨eg_X4_readRow_16.2.1, rfl⟩
theorem d_X4_readRow_29 : zD m_X4_readRow 29 (.iinc 1 1) 3 32 := ⟨eg_X4_readRow_16.2.2.1, rfl⟩
theorem d_X4_readRow_32 : zDj m_X4_readRow 32 (.goto) 35 2 := ⟨-30, eg_X4_readRow_16.2.2.2.1, rfl, by decide⟩
theorem d_X4_readRow_35 : zD m_X4_readRow 35 (.aload_n 0) 1 36 := ⟨eg_X4_readRow_16.2.2.2.2.1, rfl⟩
theorem d_X4_readRow_36 : zD m_X4_readRow 36 (.dup) 1 37 := ⟨eg_X4_readRow_16.2.2.2.2.2.1, rfl⟩
theorem d_X4_readRow_37 : zD m_X4_readRow 37 (.getfield 64) 3 40 := ⟨eg_X4_readRow_16.2.2.2.2.2.2.1, rfl⟩
theorem d_X4_readRow_40 : zD m_X4_readRow 40 (.iconst 1) 1 41 := ⟨eg_X4_readRow_16.2.2.2.2.2.2.2, rfl⟩
theorem d_X4_readRow_41 : zD m_X4_readRow 41 (.iadd) 1 42 := ⟨eg_X4_readRow_24.1, rfl⟩
theorem d_X4_readRow_42 : zD m_X4_readRow 42 (.putfield 64) 3 45 := ⟨eg_X4_readRow_24.2.1, rfl⟩
theorem d_X4_readRow_45 : decode (zcc m_X4_readRow) 45 = .ok (.return_, 1) := eg_X4_readRow_24.2.2
set_option maxRecDepth 20000 in
theorem eg_X4_readPart_0 : decode (zcc m_X4_readPart) 0 = .ok (.aload_n 0, 1) ∧ decode (zcc m_X4_readPart) 1 = .ok (.iconst 0, 1) ∧ decode (zcc m_X4_readPart) 2 = .ok (.bipush 47, 2) ∧ decode (zcc m_X4_readPart) 4 = .ok (.invokevirtual 112, 3) ∧ decode (zcc m_X4_readPart) 7 = .ok (.istore_n 3, 1) ∧ decode (zcc m_X4_readPart) 8 = .ok (.aload_n 1, 1) ∧ decode (zcc m_X4_readPart) 9 = .ok (.iload_n 3, 1) ∧ decode (zcc m_X4_readPart) 10 = .ok (.iaload, 1) := by decide +kernel
set_option maxRecDepth 20000 in
theorem eg_X4_readPart_8 : decode (zcc m_X4_readPart) 11 = .ok (.ifCond .eq (12), 3) ∧ decode (zcc m_X4_readPart) 14 = .ok (.aload_n 0, 1) ∧ decode (zcc m_X4_readPart) 15 = .ok (.iconst 4, 1) ∧ decode (zcc m_X4_readPart) 16 = .ok (.aload_n 0, 1) ∧ decode (zcc m_X4_readPart) 17 = .ok (.getfield 73, 3) ∧ decode (zcc m_X4_readPart) 20 = .ok (.invokevirtual 85, 3) ∧ decode (zcc m_X4_readPart) 23 = .ok (.aload_n 1, 1) ∧ decode (zcc m_X4_readPart) 24 = .ok (.iload_n 3, 1) := by decide +kernel
set_option maxRecDepth 20000 in
theorem eg_X4_readPart_16 : decode (zcc m_X4_readPart) 25 = .ok (.aload_n 0, 1) ∧ decode (zcc m_X4_readPart) 26 = .ok (.iconst 1, 1) ∧ decode (zcc m_X4_readPart) 27 = .ok (.iload_n 2, 1) ∧ decode (zcc m_X4_readPart) 28 = .ok (.invokevirtual 112, 3) ∧ decode (zcc m_X4_readPart) 31 = .ok (.iastore, 1) ∧ decode (zcc m_X4_readPart) 32 = .ok (.return_, 1) := by decide +kernel
theorem d_X4_readPart_0 : zD m_X4_readPart 0 (.aload_n 0) 1 1 := ⟨eg_X4_readPart_0.1, rfl⟩
theorem d_X4_readPart_1 : zD m_X4_readPart 1 (.iconst 0) 1 2 := ⟨eg_X4_readPart_0.2.1, rfl⟩
theorem d_X4_readPart_2 : zD m_X4_readPart 2 (.bipush 47) 2 4 := ⟨eg_X4_readPart_0.2.2.1, rfl⟩
theorem d_X4_readPart_4 : zD m_X4_readPart 4 (.invokevirtual 112) 3 7 := ⟨eg_X4_readPart_0.2.2.2.1, rfl⟩
theorem d_X4_readPart_7 : zD m_X4_readPart 7 (.istore_n 3) 1 8 := ⟨eg_X4_readPart_0.2.2.2.2.1, rfl⟩
theorem d_X4_readPart_8 : zD m_X4_readPart 8 (.aload_n 1) 1 9 := ⟨eg_X4_readPart_0.2.2.2.2.2.1, rfl⟩
theorem d_X4_readPart_9 : zD m_X4_readPart 9 (.iload_n 3) 1 10 := ⟨eg_X4_readPart_0.2.2.2.2.2.2.1, rfl⟩
theorem d_X4_readPart_10 : zD m_X4_readPart 10 (.iaload) 1 11 := ⟨eg_X4_readPart_0.2.2.2.2.2.2.2, rfl⟩
theorem d_X4_readPart_11 : zDj m_X4_readPart 11 (.ifCond .eq) 14 23 := ⟨12, eg_X4_readPart_8.1, rfl, by decide⟩
theorem d_X4_readPart_14 : zD m_X4_readPart 14 (.aload_n 0) 1 15 := ⟨eg_X4_readPart_8.2.1, rfl⟩
theorem d_X4_readPart_15 : zD m_X4_readPart 15 (.iconst 4) 1 16 := ⟨eg_X4_readPart_8.2.2.1, rfl⟩
theorem d_X4_readPart_16 : zD m_X4_readPart 16 (.aload_n 0) 1 17 := ⟨eg_X4_readPart_8.2.2.2.1, rfl⟩
theorem d_X4_readPart_17 : zD m_X4_readPart 17 (.getfield 73) 3 20 := ⟨eg_X4_readPart_8.2.2.2.2.1, rfl⟩
theorem d_X4_readPart_20 : zD m_X4_readPart 20 (.invokevirtual 85) 3 23 := ⟨eg_X4_readPart_8.2.2.2.2.2.1, rfl⟩
theorem d_X4_readPart_23 : zD m_X4_readPart 23 (.aload_n 1) 1 24 := ⟨eg_X4_readPart_8.2.2.2.2.2.2.1, rfl⟩
theorem d_X4_readPart_24 : zD m_X4_readPart 24 (.iload_n 3) 1 25 := ⟨eg_X4_readPart_8.2.2.2.2.2.2.2, rfl⟩
theorem d_X4_readPart_25 : zD m_X4_readPart 25 (.aload_n 0) 1 26 := ⟨eg_X4_readPart_16.1, rfl⟩
theorem d_X4_readPart_26 : zD m_X4_readPart 26 (.iconst 1) 1 27 := ⟨eg_X4_readPart_16.2.1, rfl⟩
theorem d_X4_readPart_27 : zD m_X4_readPart 27 (.iload_n 2) 1 28 := ⟨eg_X4_readPart_16.2.2.1, rfl⟩
theorem d_X4_readPart_28 : zD m_X4_readPart 28 (.invokevirtual 112) 3 31 := ⟨eg_X4_readPart_16.2.2.2.1, rfl⟩
theorem d_X4_readPart_31 : zD m_X4_readPart 31 (.iastore) 1 32 := ⟨eg_X4_readPart_16.2.2.2.2.1, rfl⟩
theorem d_X4_readPart_32 : decode (zcc m_X4_readPart) 32 = .ok (.return_, 1) := eg_X4_readPart_16.2.2.2.2.2
set_option maxRecDepth 20000 in
theorem eg_X4_readRound_0 : decode (zcc m_X4_readRound) 0 = .ok (.aload_n 0, 1) ∧ decode (zcc m_X4_readRound) 1 = .ok (.invokevirtual 33, 3) ∧ decode (zcc m_X4_readRound) 4 = .ok (.iconst 0, 1) ∧ decode (zcc m_X4_readRound) 5 = .ok (.istore_n 1, 1) ∧ decode (zcc m_X4_readRound) 6 = .ok (.iload_n 1, 1) ∧ decode (zcc m_X4_readRound) 7 = .ok (.bipush 12, 2) ∧ decode (zcc m_X4_readRound) 9 = .ok (.if_icmp .gt (92), 3) ∧ decode (zcc m_X4_readRound) 12 = .ok (.aload_n 0, 1) := by decide +kernel
set_option maxRecDepth 20000 in
theorem eg_X4_readRound_8 : decode (zcc m_X4_readRound) 13 = .ok (.getfield 36, 3) ∧ decode (zcc m_X4_readRound) 16 = .ok (.ifCond .ne (85), 3) ∧ decode (zcc m_X4_readRound) 19 = .ok (.aload_n 0, 1) ∧ decode (zcc m_X4_readRound) 20 = .ok (.iconst 0, 1) ∧ decode (zcc m_X4_readRound) 21 = .ok (.bipush 15, 2) ∧ decode (zcc m_X4_readRound) 23 = .ok (.invokevirtual 154, 3) ∧ decode (zcc m_X4_readRound) 26 = .ok (.istore_n 2, 1) ∧ decode (zcc m_X4_readRound) 27 = .ok (.aload_n 0, 1) := by decide +kernel
set_option maxRecDepth 20000 in
theorem eg_X4_readRound_16 : decode (zcc m_X4_readRound) 28 = .ok (.getfield 12, 3) ∧ decode (zcc m_X4_readRound) 31 = .ok (.getfield 157, 3) ∧ decode (zcc m_X4_readRound) 34 = .ok (.bipush 12, 2) ∧ decode (zcc m_X4_readRound) 36 = .ok (.if_icmp .lt (15), 3) ∧ decode (zcc m_X4_readRound) 39 = .ok (.aload_n 0, 1) ∧ decode (zcc m_X4_readRound) 40 = .ok (.iconst 5, 1) ∧ decode (zcc m_X4_readRound) 41 = .ok (.aload_n 0, 1) ∧ decode (zcc m_X4_readRound) 42 = .ok (.getfield 73, 3) := by decide +kernel
set_option maxRecDepth 20000 in
theorem eg_X4_readRound_24 : decode (zcc m_X4_readRound) 45 = .ok (.invokevirtual 85, 3) ∧ decode (zcc m_X4_readRound) 48 = .ok (.goto (32), 3) ∧ decode (zcc m_X4_readRound) 51 = .ok (.aload_n 0, 1) ∧ decode (zcc m_X4_readRound) 52 = .ok (.getfield 12, 3) ∧ decode (zcc m_X4_readRound) 55 = .ok (.getfield 160, 3) ∧ decode (zcc m_X4_readRound) 58 = .ok (.aload_n 0, 1) ∧ decode (zcc m_X4_readRound) 59 = .ok (.getfield 12, 3) ∧ decode (zcc m_X4_readRound) 62 = .ok (.getfield 157, 3) := by decide +kernel
set_option maxRecDepth 20000 in
theorem eg_X4_readRound_32 : decode (zcc m_X4_readRound) 65 = .ok (.iload_n 2, 1) ∧ decode (zcc m_X4_readRound) 66 = .ok (.iastore, 1) ∧ decode (zcc m_X4_readRound) 67 = .ok (.aload_n 0, 1) ∧ decode (zcc m_X4_readRound) 68 = .ok (.getfield 12, 3) ∧ decode (zcc m_X4_readRound) 71 = .ok (.dup, 1) ∧ decode (zcc m_X4_readRound) 72 = .ok (.getfield 157, 3) ∧ decode (zcc m_X4_readRound) 75 = .ok (.iconst 1, 1) ∧ decode (zcc m_X4_readRound) 76 = .ok (.iadd, 1) := by decide +kernel
set_option maxRecDepth 20000 in
theorem eg_X4_readRound_40 : decode (zcc m_X4_readRound) 77 = .ok (.putfield 157, 3) ∧ decode (zcc m_X4_readRound) 80 = .ok (.aload_n 0, 1) ∧ decode (zcc m_X4_readRound) 81 = .ok (.invokevirtual 33, 3) ∧ decode (zcc m_X4_readRound) 84 = .ok (.aload_n 0, 1) ∧ decode (zcc m_X4_readRound) 85 = .ok (.getfield 40, 3) ∧ decode (zcc m_X4_readRound) 88 = .ok (.iconst 3, 1) ∧ decode (zcc m_X4_readRound) 89 = .ok (.if_icmp .eq (6), 3) ∧ decode (zcc m_X4_readRound) 92 = .ok (.goto (9), 3) := by decide +kernel
set_option maxRecDepth 20000 in
theorem eg_X4_readRound_48 : decode (zcc m_X4_readRound) 95 = .ok (.iinc 1 1, 3) ∧ decode (zcc m_X4_readRound) 98 = .ok (.goto (-92), 3) ∧ decode (zcc m_X4_readRound) 101 = .ok (.return_, 1) := by decide +kernel
theorem d_X4_readRound_0 : zD m_X4_readRound 0 (.aload_n 0) 1 1 := ⟨eg_X4_readRound_0.1, rfl⟩
theorem d_X4_readRound_1 : zD m_X4_readRound 1 (.invokevirtual 33) 3 4 := ⟨eg_X4_readRound_0.2.1, rfl⟩
theorem d_X4_readRound_4 : zD m_X4_readRound 4 (.iconst 0) 1 5 := ⟨eg_X4_readRound_0.2.2.1, rfl⟩
theorem d_X4_readRound_5 : zD m_X4_readRound 5 (.istore_n 1) 1 6 := ⟨eg_X4_readRound_0.2.2.2.1, rfl⟩
theorem d_X4_readRound_6 : zD m_X4_readRound 6 (.iload_n 1) 1 7 := ⟨eg_X4_readRound_0.2.2.2.2.1, rfl⟩
theorem d_X4_readRound_7 : zD m_X4_readRound 7 (.bipush 12) 2 9 := ⟨eg_X4_readRound_0.2.2.2.2.2.1, rfl⟩
theorem d_X4_readRound_9 : zDj m_X4_readRound 9 (.if_icmp .gt) 12 101 := ⟨92, eg_X4_readRound_0.2.2.2.2.2.2.1, rfl, by decide⟩
theorem d_X4_readRound_12 : zD m_X4_readRound 12 (.aload_n 0) 1 13 := ⟨eg_X4_readRound_0.2.2.2.2.2.2.2, rfl⟩
theorem d_X4_readRound_13 : zD m_X4_readRound 13 (.getfield 36) 3 16 := ⟨eg_X4_readRound_8.1, rfl⟩
theorem d_X4_readRound_16 : zDj m_X4_readRound 16 (.ifCond .ne) 19 101 := ⟨85, eg_X4_readRound_8.2.1, rfl, by decide⟩
theorem d_X4_readRound_19 : zD m_X4_readRound 19 (.aload_n 0) 1 20 := ⟨eg_X4_readRound_8.2.2.1, rfl⟩
theorem d_X4_readRound_20 : zD m_X4_readRound 20 (.iconst 0) 1 21 := ⟨eg_X4_readRound_8.2.2.2.1, rfl⟩
theorem d_X4_readRound_21 : zD m_X4_readRound 21 (.bipush 15) 2 23 := ⟨eg_X4_readRound_8.2.2.2.2.1, rfl⟩
theorem d_X4_readRound_23 : zD m_X4_readRound 23 (.invokevirtual 154) 3 26 := ⟨eg_X4_readRound_8.2.2.2.2.2.1, rfl⟩
theorem d_X4_readRound_26 : zD m_X4_readRound 26 (.istore_n 2) 1 27 := ⟨eg_X4_readRound_8.2.2.2.2.2.2.1, rfl⟩
theorem d_X4_readRound_27 : zD m_X4_readRound 27 (.aload_n 0) 1 28 := ⟨eg_X4_readRound_8.2.2.2.2.2.2.2, rfl⟩
theorem d_X4_readRound_28 : zD m_X4_readRound 28 (.getfield 12) 3 31 := ⟨eg_X4_readRound_16.1, rfl⟩
theorem d_X4_readRound_31 : zD m_X4_readRound 31 (.getfield 157) 3 34 := ⟨eg_X4_readRound_16.2.1, rfl⟩
theorem d_X4_readRound_34 : zD m_X4_readRound 34 (.bipush 12) 2 36 := ⟨eg_X4_readRound_16.2.2.1, rfl⟩
theorem d_X4_readRound_36 : zDj m_X4_readRound 36 (.if_icmp .lt) 39 51 := ⟨15, eg_X4_readRound_16.2.2.2.1, rfl, by decide⟩
theorem d_X4_readRound_39 : zD m_X4_readRound 39 (.aload_n 0) 1 40 := ⟨eg_X4_readRound_16.2.2.2.2.1, rfl⟩
theorem d_X4_readRound_40 : zD m_X4_readRound 40 (.iconst 5) 1 41 := ⟨eg_X4_readRound_16.2.2.2.2.2.1, rfl⟩
theorem d_X4_readRound_41 : zD m_X4_readRound 41 (.aload_n 0) 1 42 := ⟨eg_X4_readRound_16.2.2.2.2.2.2.1, rfl⟩
theorem d_X4_readRound_42 : zD m_X4_readRound 42 (.getfield 73) 3 45 := ⟨eg_X4_readRound_16.2.2.2.2.2.2.2, rfl⟩
theorem d_X4_readRound_45 : zD m_X4_readRound 45 (.invokevirtual 85) 3 48 := ⟨eg_X4_readRound_24.1, rfl⟩
theorem d_X4_readRound_48 : zDj m_X4_readRound 48 (.goto) 51 80 := ⟨32, eg_X4_readRound_24.2.1, rfl, by decide⟩
theorem d_X4_readRound_51 : zD m_X4_readRound 51 (.aload_n 0) 1 52 := ⟨eg_X4_readRound_24.2.2.1, rfl⟩
theorem d_X4_readRound_52 : zD m_X4_readRound 52 (.getfield 12) 3 55 := ⟨eg_X4_readRound_24.2.2.2.1, rfl⟩
theorem d_X4_readRound_55 : zD m_X4_readRound 55 (.getfield 160) 3 58 := ⟨eg_X4_readRound_24.2.2.2.2.1, rfl⟩
theorem d_X4_readRound_58 : zD m_X4_readRound 58 (.aload_n 0) 1 59 := ⟨eg_X4_readRound_24.2.2.2.2.2.1, rfl⟩
theorem d_X4_readRound_59 : zD m_X4_readRound 59 (.getfield 12) 3 62 := ⟨eg_X4_readRound_24.2.2.2.2.2.2.1, rfl⟩
theorem d_X4_readRound_62 : zD m_X4_readRound 62 (.getfield 157) 3 65 := ⟨eg_X4_readRound_24.2.2.2.2.2.2.2, rfl⟩
theorem d_X4_readRound_65 : zD m_X4_readRound 65 (.iload_n 2) 1 66 := ⟨eg_X4_readRound_32.1, rfl⟩
theorem d_X4_readRound_66 : zD m_X4_readRound 66 (.iastore) 1 67 := ⟨eg_X4_readRound_32.2.1, rfl⟩
theorem d_X4_readRound_67 : zD m_X4_readRound 67 (.aload_n 0) 1 68 := ⟨eg_X4_readRound_32.2.2.1, rfl⟩
theorem d_X4_readRound_68 : zD m_X4_readRound 68 (.getfield 12) 3 71 := ⟨eg_X4_readRound_32.2.2.2.1, rfl⟩
theorem d_X4_readRound_71 : zD m_X4_readRound 71 (.dup) 1 72 := ⟨eg_X4_readRound_32.2.2.2.2.1, rfl⟩
theorem d_X4_readRound_72 : zD m_X4_readRound 72 (.getfield 157) 3 75 := ⟨eg_X4_readRound_32.2.2.2.2.2.1, rfl⟩
theorem d_X4_readRound_75 : zD m_X4_readRound 75 (.iconst 1) 1 76 := ⟨eg_X4_readRound_32.2.2.2.2.2.2.1, rfl⟩
theorem d_X4_readRound_76 : zD m_X4_readRound 76 (.iadd) 1 77 := ⟨eg_X4_readRound_32.2.2.2.2.2.2.2, rfl⟩
theorem d_X4_readRound_77 : zD m_X4_readRound 77 (.putfield 157) 3 80 := ⟨eg_X4_readRound_40.1, rfl⟩
theorem d_X4_readRound_80 : zD m_X4_readRound 80 (.aload_n 0) 1 81 := ⟨eg_X4_readRound_40.2.1, rfl⟩
theorem d_X4_readRound_81 : zD m_X4_readRound 81 (.invokevirtual 33) 3 84 := ⟨eg_X4_readRound_40.2.2.1, rfl⟩
theorem d_X4_readRound_84 : zD m_X4_readRound 84 (.aload_n 0) 1 85 := ⟨eg_X4_readRound_40.2.2.2.1, rfl⟩
theorem d_X4_readRound_85 : zD m_X4_readRound 85 (.getfield 40) 3 88 := ⟨eg_X4_readRound_40.2.2.2.2.1, rfl⟩
theorem d_X4_readRound_88 : zD m_X4_readRound 88 (.iconst 3) 1 89 := ⟨eg_X4_readRound_40.2.2.2.2.2.1, rfl⟩
theorem d_X4_readRound_89 : zDj m_X4_readRound 89 (.if_icmp .eq) 92 95 := ⟨6, eg_X4_readRound_40.2.2.2.2.2.2.1, rfl, by decide⟩
theorem d_X4_readRound_92 : zDj m_X4_readRound 92 (.goto) 95 101 := ⟨9, eg_X4_readRound_40.2.2.2.2.2.2.2, rfl, by decide⟩
theorem d_X4_readRound_95 : zD m_X4_readRound 95 (.iinc 1 1) 3 98 := ⟨eg_X4_readRound_48.1, rfl⟩
theorem d_X4_readRound_98 : zDj m_X4_readRound 98 (.goto) 101 6 := ⟨-92, eg_X4_readRound_48.2.1, rfl, by decide⟩
theorem d_X4_readRound_101 : decode (zcc m_X4_readRound) 101 = .ok (.return_, 1) := eg_X4_readRound_48.2.2
set_option maxRecDepth 20000 in
theorem eg_X4_number_0 : decode (zcc m_X4_number) 0 = .ok (.aload_n 0, 1) ∧ decode (zcc m_X4_number) 1 = .ok (.invokevirtual 33, 3) ∧ decode (zcc m_X4_number) 4 = .ok (.aload_n 0, 1) ∧ decode (zcc m_X4_number) 5 = .ok (.iload_n 1, 1) ∧ decode (zcc m_X4_number) 6 = .ok (.iload_n 2, 1) ∧ decode (zcc m_X4_number) 7 = .ok (.invokevirtual 154, 3) ∧ decode (zcc m_X4_number) 10 = .ok (.ireturn, 1) := by decide +kernel
theorem d_X4_number_0 : zD m_X4_number 0 (.aload_n 0) 1 1 := ⟨eg_X4_number_0.1, rfl⟩
theorem d_X4_number_1 : zD m_X4_number 1 (.invokevirtual 33) 3 4 := ⟨eg_X4_number_0.2.1, rfl⟩
theorem d_X4_number_4 : zD m_X4_number 4 (.aload_n 0) 1 5 := ⟨eg_X4_number_0.2.2.1, rfl⟩
theorem d_X4_number_5 : zD m_X4_number 5 (.iload_n 1) 1 6 := ⟨eg_X4_number_0.2.2.2.1, rfl⟩
theorem d_X4_number_6 : zD m_X4_number 6 (.iload_n 2) 1 7 := ⟨eg_X4_number_0.2.2.2.2.1, rfl⟩
theorem d_X4_number_7 : zD m_X4_number 7 (.invokevirtual 154) 3 10 := ⟨eg_X4_number_0.2.2.2.2.2.1, rfl⟩
theorem d_X4_number_10 : decode (zcc m_X4_number) 10 = .ok (.ireturn, 1) := eg_X4_number_0.2.2.2.2.2.2
set_option maxRecDepth 20000 in
theorem eg_X4_numberHere_0 : decode (zcc m_X4_numberHere) 0 = .ok (.aload_n 0, 1) ∧ decode (zcc m_X4_numberHere) 1 = .ok (.getfield 40, 3) ∧ decode (zcc m_X4_numberHere) 4 = .ok (.iconst 3, 1) ∧ decode (zcc m_X4_numberHere) 5 = .ok (.if_icmp .eq (14), 3) ∧ decode (zcc m_X4_numberHere) 8 = .ok (.aload_n 0, 1) ∧ decode (zcc m_X4_numberHere) 9 = .ok (.iconst 2, 1) ∧ decode (zcc m_X4_numberHere) 10 = .ok (.aload_n 0, 1) ∧ decode (zcc m_X4_numberHere) 11 = .ok (.getfield 73, 3) := by decide +kernel
set_option maxRecDepth 20000 in
theorem eg_X4_numberHere_8 : decode (zcc m_X4_numberHere) 14 = .ok (.invokevirtual 85, 3) ∧ decode (zcc m_X4_numberHere) 17 = .ok (.iload_n 1, 1) ∧ decode (zcc m_X4_numberHere) 18 = .ok (.ireturn, 1) ∧ decode (zcc m_X4_numberHere) 19 = .ok (.aload_n 0, 1) ∧ decode (zcc m_X4_numberHere) 20 = .ok (.getfield 76, 3) ∧ decode (zcc m_X4_numberHere) 23 = .ok (.iload_n 1, 1) ∧ decode (zcc m_X4_numberHere) 24 = .ok (.if_icmp .lt (11), 3) ∧ decode (zcc m_X4_numberHere) 27 = .ok (.aload_n 0, 1) := by decide +kernel
set_option maxRecDepth 20000 in
theorem eg_X4_numberHere_16 : decode (zcc m_X4_numberHere) 28 = .ok (.getfield 76, 3) ∧ decode (zcc m_X4_numberHere) 31 = .ok (.iload_n 2, 1) ∧ decode (zcc m_X4_numberHere) 32 = .ok (.if_icmp .le (14), 3) ∧ decode (zcc m_X4_numberHere) 35 = .ok (.aload_n 0, 1) ∧ decode (zcc m_X4_numberHere) 36 = .ok (.iconst 3, 1) ∧ decode (zcc m_X4_numberHere) 37 = .ok (.aload_n 0, 1) ∧ decode (zcc m_X4_numberHere) 38 = .ok (.getfield 73, 3) ∧ decode (zcc m_X4_numberHere) 41 = .ok (.invokevirtual 85, 3) := by decide +kernel
set_option maxRecDepth 20000 in
theorem eg_X4_numberHere_24 : decode (zcc m_X4_numberHere) 44 = .ok (.iload_n 1, 1) ∧ decode (zcc m_X4_numberHere) 45 = .ok (.ireturn, 1) ∧ decode (zcc m_X4_numberHere) 46 = .ok (.aload_n 0, 1) ∧ decode (zcc m_X4_numberHere) 47 = .ok (.getfield 76, 3) ∧ decode (zcc m_X4_numberHere) 50 = .ok (.ireturn, 1) := by decide +kernel
theorem d_X4_numberHere_0 : zD m_X4_numberHere 0 (.aload_n 0) 1 1 := ⟨eg_X4_numberHere_0.1, rfl⟩
theorem d_X4_numberHere_1 : zD m_X4_numberHere 1 (.getfield 40) 3 4 := ⟨eg_X4_numberHere_0.2.1, rfl⟩
theorem d_X4_numberHere_4 : zD m_X4_numberHere 4 (.iconst 3) 1 5 := ⟨eg_X4_numberHere_0.2.2.1, rfl⟩
theorem d_X4_numberHere_5 : zDj m_X4_numberHere 5 (.if_icmp .eq) 8 19 := ⟨14, eg_X4_numberHere_0.2.2.2.1, rfl, by decide⟩
theorem d_X4_numberHere_8 : zD m_X4_numberHere 8 (.aload_n 0) 1 9 := ⟨eg_X4_numberHere_0.2.2.2.2.1, rfl⟩
theorem d_X4_numberHere_9 : zD m_X4_numberHere 9 (.iconst 2) 1 10 := ⟨eg_X4_numberHere_0.2.2.2.2.2.1, rfl⟩
theorem d_X4_numberHere_10 : zD m_X4_numberHere 10 (.aload_n 0) 1 11 := ⟨eg_X4_numberHere_0.2.2.2.2.2.2.1, rfl⟩
theorem d_X4_numberHere_11 : zD m_X4_numberHere 11 (.getfield 73) 3 14 := ⟨eg_X4_numberHere_0.2.2.2.2.2.2.2, rfl⟩
theorem d_X4_numberHere_14 : zD m_X4_numberHere 14 (.invokevirtual 85) 3 17 := ⟨eg_X4_numberHere_8.1, rfl⟩
theorem d_X4_numberHere_17 : zD m_X4_numberHere 17 (.iload_n 1) 1 18 := ⟨eg_X4_numberHere_8.2.1, rfl⟩
theorem d_X4_numberHere_18 : decode (zcc m_X4_numberHere) 18 = .ok (.ireturn, 1) := eg_X4_numberHere_8.2.2.1
theorem d_X4_numberHere_19 : zD m_X4_numberHere 19 (.aload_n 0) 1 20 := ⟨eg_X4_numberHere_8.2.2.2.1, rfl⟩
theorem d_X4_numberHere_20 : zD m_X4_numberHere 20 (.getfield 76) 3 23 := ⟨eg_X4_numberHere_8.2.2.2.2.1, rfl⟩
theorem d_X4_numberHere_23 : zD m_X4_numberHere 23 (.iload_n 1) 1 24 := ⟨eg_X4_numberHere_8.2.2.2.2.2.1, rfl⟩
theorem d_X4_numberHere_24 : zDj m_X4_numberHere 24 (.if_icmp .lt) 27 35 := ⟨11, eg_X4_numberHere_8.2.2.2.2.2.2.1, rfl, by decide⟩
theorem d_X4_numberHere_27 : zD m_X4_numberHere 27 (.aload_n 0) 1 28 := ⟨eg_X4_numberHere_8.2.2.2.2.2.2.2, rfl⟩
theorem d_X4_numberHere_28 : zD m_X4_numberHere 28 (.getfield 76) 3 31 := ⟨eg_X4_numberHere_16.1, rfl⟩
theorem d_X4_numberHere_31 : zD m_X4_numberHere 31 (.iload_n 2) 1 32 := ⟨eg_X4_numberHere_16.2.1, rfl⟩
theorem d_X4_numberHere_32 : zDj m_X4_numberHere 32 (.if_icmp .le) 35 46 := ⟨14, eg_X4_numberHere_16.2.2.1, rfl, by decide⟩
theorem d_X4_numberHere_35 : zD m_X4_numberHere 35 (.aload_n 0) 1 36 := ⟨eg_X4_numberHere_16.2.2.2.1, rfl⟩
theorem d_X4_numberHere_36 : zD m_X4_numberHere 36 (.iconst 3) 1 37 := ⟨eg_X4_numberHere_16.2.2.2.2.1, rfl⟩
theorem d_X4_numberHere_37 : zD m_X4_numberHere 37 (.aload_n 0) 1 38 := ⟨eg_X4_numberHere_16.2.2.2.2.2.1, rfl⟩
theorem d_X4_numberHere_38 : zD m_X4_numberHere 38 (.getfield 73) 3 41 := ⟨eg_X4_numberHere_16.2.2.2.2.2.2.1, rfl⟩
theorem d_X4_numberHere_41 : zD m_X4_numberHere 41 (.invokevirtual 85) 3 44 := ⟨eg_X4_numberHere_16.2.2.2.2.2.2.2, rfl⟩
theorem d_X4_numberHere_44 : zD m_X4_numberHere 44 (.iload_n 1) 1 45 := ⟨eg_X4_numberHere_24.1, rfl⟩
theorem d_X4_numberHere_45 : decode (zcc m_X4_numberHere) 45 = .ok (.ireturn, 1) := eg_X4_numberHere_24.2.1
theorem d_X4_numberHere_46 : zD m_X4_numberHere 46 (.aload_n 0) 1 47 := ⟨eg_X4_numberHere_24.2.2.1, rfl⟩
theorem d_X4_numberHere_47 : zD m_X4_numberHere 47 (.getfield 76) 3 50 := ⟨eg_X4_numberHere_24.2.2.2.1, rfl⟩
theorem d_X4_numberHere_50 : decode (zcc m_X4_numberHere) 50 = .ok (.ireturn, 1) := eg_X4_numberHere_24.2.2.2.2
set_option maxRecDepth 20000 in
theorem eg_X4_lookAtWords_0 : decode (zcc m_X4_lookAtWords) 0 = .ok (.aload_n 0, 1) ∧ decode (zcc m_X4_lookAtWords) 1 = .ok (.getfield 12, 3) ∧ decode (zcc m_X4_lookAtWords) 4 = .ok (.getfield 109, 3) ∧ decode (zcc m_X4_lookAtWords) 7 = .ok (.bipush 6, 2) ∧ decode (zcc m_X4_lookAtWords) 9 = .ok (.iaload, 1) ∧ decode (zcc m_X4_lookAtWords) 10 = .ok (.iconst 3, 1) ∧ decode (zcc m_X4_lookAtWords) 11 = .ok (.if_icmp .eq (4), 3) ∧ decode (zcc m_X4_lookAtWords) 14 = .ok (.return_, 1) := by decide +kernel
set_option maxRecDepth 20000 in
theorem eg_X4_lookAtWords_8 : decode (zcc m_X4_lookAtWords) 15 = .ok (.iconst 0, 1) ∧ decode (zcc m_X4_lookAtWords) 16 = .ok (.istore_n 1, 1) ∧ decode (zcc m_X4_lookAtWords) 17 = .ok (.iload_n 1, 1) ∧ decode (zcc m_X4_lookAtWords) 18 = .ok (.aload_n 0, 1) ∧ decode (zcc m_X4_lookAtWords) 19 = .ok (.getfield 12, 3) ∧ decode (zcc m_X4_lookAtWords) 22 = .ok (.getfield 157, 3) ∧ decode (zcc m_X4_lookAtWords) 25 = .ok (.if_icmp .ge (36), 3) ∧ decode (zcc m_X4_lookAtWords) 28 = .ok (.aload_n 0, 1) := by decide +kernel
set_option maxRecDepth 20000 in
theorem eg_X4_lookAtWords_16 : decode (zcc m_X4_lookAtWords) 29 = .ok (.getfield 12, 3) ∧ decode (zcc m_X4_lookAtWords) 32 = .ok (.getfield 160, 3) ∧ decode (zcc m_X4_lookAtWords) 35 = .ok (.iload_n 1, 1) ∧ decode (zcc m_X4_lookAtWords) 36 = .ok (.iaload, 1) ∧ decode (zcc m_X4_lookAtWords) 37 = .ok (.bipush 7, 2) ∧ decode (zcc m_X4_lookAtWords) 39 = .ok (.if_icmp .le (16), 3) ∧ decode (zcc m_X4_lookAtWords) 42 = .ok (.aload_n 0, 1) ∧ decode (zcc m_X4_lookAtWords) 43 = .ok (.bipush 6, 2) := by decide +kernel
set_option maxRecDepth 20000 in
theorem eg_X4_lookAtWords_24 : decode (zcc m_X4_lookAtWords) 45 = .ok (.aload_n 0, 1) ∧ decode (zcc m_X4_lookAtWords) 46 = .ok (.getfield 26, 3) ∧ decode (zcc m_X4_lookAtWords) 49 = .ok (.getfield 163, 3) ∧ decode (zcc m_X4_lookAtWords) 52 = .ok (.invokevirtual 85, 3) ∧ decode (zcc m_X4_lookAtWords) 55 = .ok (.iinc 1 1, 3) ∧ decode (zcc m_X4_lookAtWords) 58 = .ok (.goto (-41), 3) ∧ decode (zcc m_X4_lookAtWords) 61 = .ok (.return_, 1) := by decide +kernel
theorem d_X4_lookAtWords_0 : zD m_X4_lookAtWords 0 (.aload_n 0) 1 1 := ⟨eg_X4_lookAtWords_0.1, rfl⟩
theorem d_X4_lookAtWords_1 : zD m_X4_lookAtWords 1 (.getfield 12) 3 4 := ⟨eg_X4_lookAtWords_0.2.1, rfl⟩
theorem d_X4_lookAtWords_4 : zD m_X4_lookAtWords 4 (.getfield 109) 3 7 := ⟨eg_X4_lookAtWords_0.2.2.1, rfl⟩
theorem d_X4_lookAtWords_7 : zD m_X4_lookAtWords 7 (.bipush 6) 2 9 := ⟨eg_X4_lookAtWords_0.2.2.2.1, rfl⟩
theorem d_X4_lookAtWords_9 : zD m_X4_lookAtWords 9 (.iaload) 1 10 := ⟨eg_X4_lookAtWords_0.2.2.2.2.1, rfl⟩
theorem d_X4_lookAtWords_10 : zD m_X4_lookAtWords 10 (.iconst 3) 1 11 := ⟨eg_X4_lookAtWords_0.2.2.2.2.2.1, rfl⟩
theorem d_X4_lookAtWords_11 : zDj m_X4_lookAtWords 11 (.if_icmp .eq) 14 15 := ⟨4, eg_X4_lookAtWords_0.2.2.2.2.2.2.1, rfl, by decide⟩
theorem d_X4_lookAtWords_14 : decode (zcc m_X4_lookAtWords) 14 = .ok (.return_, 1) := eg_X4_lookAtWords_0.2.2.2.2.2.2.2
theorem d_X4_lookAtWords_15 : zD m_X4_lookAtWords 15 (.iconst 0) 1 16 := ⟨eg_X4_lookAtWords_8.1, rfl⟩
theorem d_X4_lookAtWords_16 : zD m_X4_lookAtWords 16 (.istore_n 1) 1 17 := ⟨eg_X4_lookAtWords_8.2.1, rfl⟩
theorem d_X4_lookAtWords_17 : zD m_X4_lookAtWords 17 (.iload_n 1) 1 18 := ⟨eg_X4_lookAtWords_8.2.2.1, rfl⟩
theorem d_X4_lookAtWords_18 : zD m_X4_lookAtWords 18 (.aload_n 0) 1 19 := ⟨eg_X4_lookAtWords_8.2.2.2.1, rfl⟩
theorem d_X4_lookAtWords_19 : zD m_X4_lookAtWords 19 (.getfield 12) 3 22 := ⟨eg_X4_lookAtWords_8.2.2.2.2.1, rfl⟩
theorem d_X4_lookAtWords_22 : zD m_X4_lookAtWords 22 (.getfield 157) 3 25 := ⟨eg_X4_lookAtWords_8.2.2.2.2.2.1, rfl⟩
theorem d_X4_lookAtWords_25 : zDj m_X4_lookAtWords 25 (.if_icmp .ge) 28 61 := ⟨36, eg_X4_lookAtWords_8.2.2.2.2.2.2.1, rfl, by decide⟩
theorem d_X4_lookAtWords_28 : zD m_X4_lookAtWords 28 (.aload_n 0) 1 29 := ⟨eg_X4_lookAtWords_8.2.2.2.2.2.2.2, rfl⟩
theorem d_X4_lookAtWords_29 : zD m_X4_lookAtWords 29 (.getfield 12) 3 32 := ⟨eg_X4_lookAtWords_16.1, rfl⟩
theorem d_X4_lookAtWords_32 : zD m_X4_lookAtWords 32 (.getfield 160) 3 35 := ⟨eg_X4_lookAtWords_16.2.1, rfl⟩
theorem d_X4_lookAtWords_35 : zD m_X4_lookAtWords 35 (.iload_n 1) 1 36 := ⟨eg_X4_lookAtWords_16.2.2.1, rfl⟩
theorem d_X4_lookAtWords_36 : zD m_X4_lookAtWords 36 (.iaload) 1 37 := ⟨eg_X4_lookAtWords_16.2.2.2.1, rfl⟩
theorem d_X4_lookAtWords_37 : zD m_X4_lookAtWords 37 (.bipush 7) 2 39 := ⟨eg_X4_lookAtWords_16.2.2.2.2.1, rfl⟩
theorem d_X4_lookAtWords_39 : zDj m_X4_lookAtWords 39 (.if_icmp .le) 42 55 := ⟨16, eg_X4_lookAtWords_16.2.2.2.2.2.1, rfl, by decide⟩
theorem d_X4_lookAtWords_42 : zD m_X4_lookAtWords 42 (.aload_n 0) 1 43 := ⟨eg_X4_lookAtWords_16.2.2.2.2.2.2.1, rfl⟩
theorem d_X4_lookAtWords_43 : zD m_X4_lookAtWords 43 (.bipush 6) 2 45 := ⟨eg_X4_lookAtWords_16.2.2.2.2.2.2.2, rfl⟩
theorem d_X4_lookAtWords_45 : zD m_X4_lookAtWords 45 (.aload_n 0) 1 46 := ⟨eg_X4_lookAtWords_24.1, rfl⟩
theorem d_X4_lookAtWords_46 : zD m_X4_lookAtWords 46 (.getfield 26) 3 49 := ⟨eg_X4_lookAtWords_24.2.1, rfl⟩
theorem d_X4_lookAtWords_49 : zD m_X4_lookAtWords 49 (.getfield 163) 3 52 := ⟨eg_X4_lookAtWords_24.2.2.1, rfl⟩
theorem d_X4_lookAtWords_52 : zD m_X4_lookAtWords 52 (.invokevirtual 85) 3 55 := ⟨eg_X4_lookAtWords_24.2.2.2.1, rfl⟩
theorem d_X4_lookAtWords_55 : zD m_X4_lookAtWords 55 (.iinc 1 1) 3 58 := ⟨eg_X4_lookAtWords_24.2.2.2.2.1, rfl⟩
theorem d_X4_lookAtWords_58 : zDj m_X4_lookAtWords 58 (.goto) 61 17 := ⟨-41, eg_X4_lookAtWords_24.2.2.2.2.2.1, rfl, by decide⟩
theorem d_X4_lookAtWords_61 : decode (zcc m_X4_lookAtWords) 61 = .ok (.return_, 1) := eg_X4_lookAtWords_24.2.2.2.2.2.2
