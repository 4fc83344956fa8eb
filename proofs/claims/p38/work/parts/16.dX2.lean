set_option maxRecDepth 20000 in
theorem eg_X2_init_0 : decode (zcc m_X2_init) 0 = .ok (.aload_n 0, 1) ∧ decode (zcc m_X2_init) 1 = .ok (.invokespecial 3, 3) ∧ decode (zcc m_X2_init) 4 = .ok (.aload_n 0, 1) ∧ decode (zcc m_X2_init) 5 = .ok (.new 9, 3) ∧ decode (zcc m_X2_init) 8 = .ok (.dup, 1) ∧ decode (zcc m_X2_init) 9 = .ok (.invokespecial 11, 3) ∧ decode (zcc m_X2_init) 12 = .ok (.putfield 12, 3) ∧ decode (zcc m_X2_init) 15 = .ok (.aload_n 0, 1) := by decide +kernel
set_option maxRecDepth 20000 in
theorem eg_X2_init_8 : decode (zcc m_X2_init) 16 = .ok (.bipush 48, 2) ∧ decode (zcc m_X2_init) 18 = .ok (.newarray .int, 2) ∧ decode (zcc m_X2_init) 20 = .ok (.putfield 18, 3) ∧ decode (zcc m_X2_init) 23 = .ok (.return_, 1) := by decide +kernel
theorem d_X2_init_0 : zD m_X2_init 0 (.aload_n 0) 1 1 := ⟨eg_X2_init_0.1, rfl⟩
theorem d_X2_init_1 : zD m_X2_init 1 (.invokespecial 3) 3 4 := ⟨eg_X2_init_0.2.1, rfl⟩
theorem d_X2_init_4 : zD m_X2_init 4 (.aload_n 0) 1 5 := ⟨eg_X2_init_0.2.2.1, rfl⟩
theorem d_X2_init_5 : zD m_X2_init 5 (.new 9) 3 8 := ⟨eg_X2_init_0.2.2.2.1, rfl⟩
theorem d_X2_init_8 : zD m_X2_init 8 (.dup) 1 9 := ⟨eg_X2_init_0.2.2.2.2.1, rfl⟩
theorem d_X2_init_9 : zD m_X2_init 9 (.invokespecial 11) 3 12 := ⟨eg_X2_init_0.2.2.2.2.2.1, rfl⟩
theorem d_X2_init_12 : zD m_X2_init 12 (.putfield 12) 3 15 := ⟨eg_X2_init_0.2.2.2.2.2.2.1, rfl⟩
theorem d_X2_init_15 : zD m_X2_init 15 (.aload_n 0) 1 16 := ⟨eg_X2_init_0.2.2.2.2.2.2.2, rfl⟩
theorem d_X2_init_16 : zD m_X2_init 16 (.bipush 48) 2 18 := ⟨eg_X2_init_8.1, rfl⟩
theorem d_X2_init_18 : zD m_X2_init 18 (.newarray .int) 2 20 := ⟨eg_X2_init_8.2.1, rfl⟩
theorem d_X2_init_20 : zD m_X2_init 20 (.putfield 18) 3 23 := ⟨eg_X2_init_8.2.2.1, rfl⟩
theorem d_X2_init_23 : decode (zcc m_X2_init) 23 = .ok (.return_, 1) := eg_X2_init_8.2.2.2
set_option maxRecDepth 20000 in
theorem eg_X2_make_0 : decode (zcc m_X2_make) 0 = .ok (.aload_n 0, 1) ∧ decode (zcc m_X2_make) 1 = .ok (.getfield 12, 3) ∧ decode (zcc m_X2_make) 4 = .ok (.aload_n 1, 1) ∧ decode (zcc m_X2_make) 5 = .ok (.invokevirtual 22, 3) ∧ decode (zcc m_X2_make) 8 = .ok (.aload_n 0, 1) ∧ decode (zcc m_X2_make) 9 = .ok (.getfield 12, 3) ∧ decode (zcc m_X2_make) 12 = .ok (.getfield 26, 3) ∧ decode (zcc m_X2_make) 15 = .ok (.iconst 0, 1) := by decide +kernel
set_option maxRecDepth 20000 in
theorem eg_X2_make_8 : decode (zcc m_X2_make) 16 = .ok (.invokestatic 29, 3) ∧ decode (zcc m_X2_make) 19 = .ok (.aload_n 0, 1) ∧ decode (zcc m_X2_make) 20 = .ok (.bipush 6, 2) ∧ decode (zcc m_X2_make) 22 = .ok (.bipush 6, 2) ∧ decode (zcc m_X2_make) 24 = .ok (.iload_n 3, 1) ∧ decode (zcc m_X2_make) 25 = .ok (.invokestatic 35, 3) ∧ decode (zcc m_X2_make) 28 = .ok (.invokestatic 39, 3) ∧ decode (zcc m_X2_make) 31 = .ok (.putfield 44, 3) := by decide +kernel
set_option maxRecDepth 20000 in
theorem eg_X2_make_16 : decode (zcc m_X2_make) 34 = .ok (.aload_n 0, 1) ∧ decode (zcc m_X2_make) 35 = .ok (.bipush 8, 2) ∧ decode (zcc m_X2_make) 37 = .ok (.bipush 8, 2) ∧ decode (zcc m_X2_make) 39 = .ok (.iload 4, 2) ∧ decode (zcc m_X2_make) 41 = .ok (.invokestatic 35, 3) ∧ decode (zcc m_X2_make) 44 = .ok (.invokestatic 39, 3) ∧ decode (zcc m_X2_make) 47 = .ok (.putfield 48, 3) ∧ decode (zcc m_X2_make) 50 = .ok (.iconst 0, 1) := by decide +kernel
set_option maxRecDepth 20000 in
theorem eg_X2_make_24 : decode (zcc m_X2_make) 51 = .ok (.istore 6, 2) ∧ decode (zcc m_X2_make) 53 = .ok (.iload 6, 2) ∧ decode (zcc m_X2_make) 55 = .ok (.aload_n 0, 1) ∧ decode (zcc m_X2_make) 56 = .ok (.getfield 44, 3) ∧ decode (zcc m_X2_make) 59 = .ok (.if_icmp .ge (43), 3) ∧ decode (zcc m_X2_make) 62 = .ok (.iconst 0, 1) ∧ decode (zcc m_X2_make) 63 = .ok (.istore 7, 2) ∧ decode (zcc m_X2_make) 65 = .ok (.iload 7, 2) := by decide +kernel
set_option maxRecDepth 20000 in
theorem eg_X2_make_32 : decode (zcc m_X2_make) 67 = .ok (.iload_n 3, 1) ∧ decode (zcc m_X2_make) 68 = .ok (.if_icmp .ge (19), 3) ∧ decode (zcc m_X2_make) 71 = .ok (.aload_n 0, 1) ∧ decode (zcc m_X2_make) 72 = .ok (.getfield 12, 3) ∧ decode (zcc m_X2_make) 75 = .ok (.aload_n 2, 1) ∧ decode (zcc m_X2_make) 76 = .ok (.iload 5, 2) ∧ decode (zcc m_X2_make) 78 = .ok (.invokevirtual 51, 3) ∧ decode (zcc m_X2_make) 81 = .ok (.iinc 7 1, 3) := by decide +kernel
set_option maxRecDepth 20000 in
theorem eg_X2_make_40 : decode (zcc m_X2_make) 84 = .ok (.goto (-19), 3) ∧ decode (zcc m_X2_make) 87 = .ok (.aload_n 0, 1) ∧ decode (zcc m_X2_make) 88 = .ok (.aload_n 2, 1) ∧ decode (zcc m_X2_make) 89 = .ok (.iload 6, 2) ∧ decode (zcc m_X2_make) 91 = .ok (.iload 4, 2) ∧ decode (zcc m_X2_make) 93 = .ok (.invokevirtual 55, 3) ∧ decode (zcc m_X2_make) 96 = .ok (.iinc 6 1, 3) ∧ decode (zcc m_X2_make) 99 = .ok (.goto (-46), 3) := by decide +kernel
set_option maxRecDepth 20000 in
theorem eg_X2_make_48 : decode (zcc m_X2_make) 102 = .ok (.return_, 1) := by decide +kernel
theorem d_X2_make_0 : zD m_X2_make 0 (.aload_n 0) 1 1 := ⟨eg_X2_make_0.1, rfl⟩
theorem d_X2_make_1 : zD m_X2_make 1 (.getfield 12) 3 4 := ⟨eg_X2_make_0.2.1, rfl⟩
theorem d_X2_make_4 : zD m_X2_make 4 (.aload_n 1) 1 5 := ⟨eg_X2_make_0.2.2.1, rfl⟩
theorem d_X2_make_5 : zD m_X2_make 5 (.invokevirtual 22) 3 8 := ⟨eg_X2_make_0.2.2.2.1, rfl⟩
theorem d_X2_make_8 : zD m_X2_make 8 (.aload_n 0) 1 9 := ⟨eg_X2_make_0.2.2.2.2.1, rfl⟩
theorem d_X2_make_9 : zD m_X2_make 9 (.getfield 12) 3 12 := ⟨eg_X2_make_0.2.2.2.2.2.1, rfl⟩
theorem d_X2_make_12 : zD m_X2_make 12 (.getfield 26) 3 15 := ⟨eg_X2_make_0.2.2.2.2.2.2.1, rfl⟩
theorem d_X2_make_15 : zD m_X2_make 15 (.iconst 0) 1 16 := ⟨eg_X2_make_0.2.2.2.2.2.2.2, rfl⟩
theorem d_X2_make_16 : zD m_X2_make 16 (.invokestatic 29) 3 19 := ⟨eg_X2_make_8.1, rfl⟩
theorem d_X2_make_19 : zD m_X2_make 19 (.aload_n 0) 1 20 := ⟨eg_X2_make_8.2.1, rfl⟩
theorem d_X2_make_20 : zD m_X2_make 20 (.bipush 6) 2 22 := ⟨eg_X2_make_8.2.2.1, rfl⟩
theorem d_X2_make_22 : zD m_X2_make 22 (.bipush 6) 2 24 := ⟨eg_X2_make_8.2.2.2.1, rfl⟩
theorem d_X2_make_24 : zD m_X2_make 24 (.iload_n 3) 1 25 := ⟨eg_X2_make_8.2.2.2.2.1, rfl⟩
theorem d_X2_make_25 : zD m_X2_make 25 (.invokestatic 35) 3 28 := ⟨eg_X2_make_8.2.2.2.2.2.1, rfl⟩
theorem d_X2_make_28 : zD m_X2_make 28 (.invokestatic 39) 3 31 := ⟨eg_X2_make_8.2.2.2.2.2.2.1, rfl⟩
theorem d_X2_make_31 : zD m_X2_make 31 (.putfield 44) 3 34 := ⟨eg_X2_make_8.2.2.2.2.2.2.2, rfl⟩
theorem d_X2_make_34 : zD m_X2_make 34 (.aload_n 0) 1 35 := ⟨eg_X2_make_16.1, rfl⟩
theorem d_X2_make_35 : zD m_X2_make 35 (.bipush 8) 2 37 := ⟨eg_X2_make_16.2.1, rfl⟩
theorem d_X2_make_37 : zD m_X2_make 37 (.bipush 8) 2 39 := ⟨eg_X2_make_16.2.2.1, rfl⟩
theorem d_X2_make_39 : zD m_X2_make 39 (.iload 4) 2 41 := ⟨eg_X2_make_16.2.2.2.1, rfl⟩
theorem d_X2_make_41 : zD m_X2_make 41 (.invokestatic 35) 3 44 := ⟨eg_X2_make_16.2.2.2.2.1, rfl⟩
theorem d_X2_make_44 : zD m_X2_make 44 (.invokestatic 39) 3 47 := ⟨eg_X2_make_16.2.2.2.2.2.1, rfl⟩
theorem d_X2_make_47 : zD m_X2_make 47 (.putfield 48) 3 50 := ⟨eg_X2_make_16.2.2.2.2.2.2.1, rfl⟩
theorem d_X2_make_50 : zD m_X2_make 50 (.iconst 0) 1 51 := ⟨eg_X2_make_16.2.2.2.2.2.2.2, rfl⟩
theorem d_X2_make_51 : zD m_X2_make 51 (.istore 6) 2 53 := ⟨eg_X2_make_24.1, rfl⟩
theorem d_X2_make_53 : zD m_X2_make 53 (.iload 6) 2 55 := ⟨eg_X2_make_24.2.1, rfl⟩
theorem d_X2_make_55 : zD m_X2_make 55 (.aload_n 0) 1 56 := ⟨eg_X2_make_24.2.2.1, rfl⟩
theorem d_X2_make_56 : zD m_X2_make 56 (.getfield 44) 3 59 := ⟨eg_X2_make_24.2.2.2.1, rfl⟩
theorem d_X2_make_59 : zDj m_X2_make 59 (.if_icmp .ge) 62 102 := ⟨43, eg_X2_make_24.2.2.2.2.1, rfl, by decide⟩
theorem d_X2_make_62 : zD m_X2_make 62 (.iconst 0) 1 63 := ⟨eg_X2_make_24.2.2.2.2.2.1, rfl⟩
theorem d_X2_make_63 : zD m_X2_make 63 (.istore 7) 2 65 := ⟨eg_X2_make_24.2.2.2.2.2.2.1, rfl⟩
theorem d_X2_make_65 : zD m_X2_make 65 (.iload 7) 2 67 := ⟨eg_X2_make_24.2.2.2.2.2.2.2, rfl⟩
theorem d_X2_make_67 : zD m_X2_make 67 (.iload_n 3) 1 68 := ⟨eg_X2_make_32.1, rfl⟩
theorem d_X2_make_68 : zDj m_X2_make 68 (.if_icmp .ge) 71 87 := ⟨19, eg_X2_make_32.2.1, rfl, by decide⟩
theorem d_X2_make_71 : zD m_X2_make 71 (.aload_n 0) 1 72 := ⟨eg_X2_make_32.2.2.1, rfl⟩
theorem d_X2_make_72 : zD m_X2_make 72 (.getfield 12) 3 75 := ⟨eg_X2_make_32.2.2.2.1, rfl⟩
theorem d_X2_make_75 : zD m_X2_make 75 (.aload_n 2) 1 76 := ⟨eg_X2_make_32.2.2.2.2.1, rfl⟩
theorem d_X2_make_76 : zD m_X2_make 76 (.iload 5) 2 78 := ⟨eg_X2_make_32.2.2.2.2.2.1, rfl⟩
theorem d_X2_make_78 : zD m_X2_make 78 (.invokevirtual 51) 3 81 := ⟨eg_X2_make_32.2.2.2.2.2.2.1, rfl⟩
theorem d_X2_make_81 : zD m_X2_make 81 (.iinc 7 1) 3 84 := ⟨eg_X2_make_32.2.2.2.2.2.2.2, rfl⟩
theorem d_X2_make_84 : zDj m_X2_make 84 (.goto) 87 65 := ⟨-19, eg_X2_make_40.1, rfl, by decide⟩
theorem d_X2_make_87 : zD m_X2_make 87 (.aload_n 0) 1 88 := ⟨eg_X2_make_40.2.1, rfl⟩
theorem d_X2_make_88 : zD m_X2_make 88 (.aload_n 2) 1 89 := ⟨eg_X2_make_40.2.2.1, rfl⟩
theorem d_X2_make_89 : zD m_X2_make 89 (.iload 6) 2 91 := ⟨eg_X2_make_40.2.2.2.1, rfl⟩
theorem d_X2_make_91 : zD m_X2_make 91 (.iload 4) 2 93 := ⟨eg_X2_make_40.2.2.2.2.1, rfl⟩
theorem d_X2_make_93 : zD m_X2_make 93 (.invokevirtual 55) 3 96 := ⟨eg_X2_make_40.2.2.2.2.2.1, rfl⟩
theorem d_X2_make_96 : zD m_X2_make 96 (.iinc 6 1) 3 99 := ⟨eg_X2_make_40.2.2.2.2.2.2.1, rfl⟩
theorem d_X2_make_99 : zDj m_X2_make 99 (.goto) 102 53 := ⟨-46, eg_X2_make_40.2.2.2.2.2.2.2, rfl, by decide⟩
theorem d_X2_make_102 : decode (zcc m_X2_make) 102 = .ok (.return_, 1) := eg_X2_make_48
set_option maxRecDepth 20000 in
theorem eg_X2_readRowOf_0 : decode (zcc m_X2_readRowOf) 0 = .ok (.iconst 0, 1) ∧ decode (zcc m_X2_readRowOf) 1 = .ok (.istore 4, 2) ∧ decode (zcc m_X2_readRowOf) 3 = .ok (.iload 4, 2) ∧ decode (zcc m_X2_readRowOf) 5 = .ok (.aload_n 0, 1) ∧ decode (zcc m_X2_readRowOf) 6 = .ok (.getfield 48, 3) ∧ decode (zcc m_X2_readRowOf) 9 = .ok (.if_icmp .ge (57), 3) ∧ decode (zcc m_X2_readRowOf) 12 = .ok (.iconst 0, 1) ∧ decode (zcc m_X2_readRowOf) 13 = .ok (.istore 5, 2) := by decide +kernel
set_option maxRecDepth 20000 in
theorem eg_X2_readRowOf_8 : decode (zcc m_X2_readRowOf) 15 = .ok (.iconst 0, 1) ∧ decode (zcc m_X2_readRowOf) 16 = .ok (.istore 6, 2) ∧ decode (zcc m_X2_readRowOf) 18 = .ok (.iload 6, 2) ∧ decode (zcc m_X2_readRowOf) 20 = .ok (.iload_n 3, 1) ∧ decode (zcc m_X2_readRowOf) 21 = .ok (.if_icmp .ge (21), 3) ∧ decode (zcc m_X2_readRowOf) 24 = .ok (.iload 5, 2) ∧ decode (zcc m_X2_readRowOf) 26 = .ok (.aload_n 0, 1) ∧ decode (zcc m_X2_readRowOf) 27 = .ok (.getfield 12, 3) := by decide +kernel
set_option maxRecDepth 20000 in
theorem eg_X2_readRowOf_16 : decode (zcc m_X2_readRowOf) 30 = .ok (.invokevirtual 59, 3) ∧ decode (zcc m_X2_readRowOf) 33 = .ok (.iadd, 1) ∧ decode (zcc m_X2_readRowOf) 34 = .ok (.istore 5, 2) ∧ decode (zcc m_X2_readRowOf) 36 = .ok (.iinc 6 1, 3) ∧ decode (zcc m_X2_readRowOf) 39 = .ok (.goto (-21), 3) ∧ decode (zcc m_X2_readRowOf) 42 = .ok (.aload_n 0, 1) ∧ decode (zcc m_X2_readRowOf) 43 = .ok (.getfield 18, 3) ∧ decode (zcc m_X2_readRowOf) 46 = .ok (.iload_n 2, 1) := by decide +kernel
set_option maxRecDepth 20000 in
theorem eg_X2_readRowOf_24 : decode (zcc m_X2_readRowOf) 47 = .ok (.bipush 8, 2) ∧ decode (zcc m_X2_readRowOf) 49 = .ok (.imul, 1) ∧ decode (zcc m_X2_readRowOf) 50 = .ok (.iload 4, 2) ∧ decode (zcc m_X2_readRowOf) 52 = .ok (.iadd, 1) ∧ decode (zcc m_X2_readRowOf) 53 = .ok (.iload 5, 2) ∧ decode (zcc m_X2_readRowOf) 55 = .ok (.aload_n 1, 1) ∧ decode (zcc m_X2_readRowOf) 56 = .ok (.invokestatic 63, 3) ∧ decode (zcc m_X2_readRowOf) 59 = .ok (.iastore, 1) := by decide +kernel
set_option maxRecDepth 20000 in
theorem eg_X2_readRowOf_32 : decode (zcc m_X2_readRowOf) 60 = .ok (.iinc 4 1, 3) ∧ decode (zcc m_X2_readRowOf) 63 = .ok (.goto (-60), 3) ∧ decode (zcc m_X2_readRowOf) 66 = .ok (.return_, 1) := by decide +kernel
theorem d_X2_readRowOf_0 : zD m_X2_readRowOf 0 (.iconst 0) 1 1 := ⟨eg_X2_readRowOf_0.1, rfl⟩
theorem d_X2_readRowOf_1 : zD m_X2_readRowOf 1 (.istore 4) 2 3 := ⟨eg_X2_readRowOf_0.2.1, rfl⟩
theorem d_X2_readRowOf_3 : zD m_X2_readRowOf 3 (.iload 4) 2 5 := ⟨eg_X2_readRowOf_0.2.2.1, rfl⟩
theorem d_X2_readRowOf_5 : zD m_X2_readRowOf 5 (.aload_n 0) 1 6 := ⟨eg_X2_readRowOf_0.2.2.2.1, rfl⟩
theorem d_X2_readRowOf_6 : zD m_X2_readRowOf 6 (.getfield 48) 3 9 := ⟨eg_X2_readRowOf_0.2.2.2.2.1, rfl⟩
theorem d_X2_readRowOf_9 : zDj m_X2_readRowOf 9 (.if_icmp .ge) 12 66 := ⟨57, eg_X2_readRowOf_0.2.2.2.2.2.1, rfl, by decide⟩
theorem d_X2_readRowOf_12 : zD m_X2_readRowOf 12 (.iconst 0) 1 13 := ⟨eg_X2_readRowOf_0.2.2.2.2.2.2.1, rfl⟩
theorem d_X2_readRowOf_13 : zD m_X2_readRowOf 13 (.istore 5) 2 15 := ⟨eg_X2_readRowOf_0.2.2.2.2.2.2.2, rfl⟩
theorem d_X2_readRowOf_15 : zD m_X2_readRowOf 15 (.iconst 0) 1 16 := ⟨eg_X2_readRowOf_8.1, rfl⟩
theorem d_X2_readRowOf_16 : zD m_X2_readRowOf 16 (.istore 6) 2 18 := ⟨eg_X2_readRowOf_8.2.1, rfl⟩
theorem d_X2_readRowOf_18 : zD m_X2_readRowOf 18 (.iload 6) 2 20 := ⟨eg_X2_readRowOf_8.2.2.1, rfl⟩
theorem d_X2_readRowOf_20 : zD m_X2_readRowOf 20 (.iload_n 3) 1 21 := ⟨eg_X2_readRowOf_8.2.2.2.1, rfl⟩
theorem d_X2_readRowOf_21 : zDj m_X2_readRowOf 21 (.if_icmp .ge) 24 42 := ⟨21, eg_X2_readRowOf_8.2.2.2.2.1, rfl, by decide⟩
theorem d_X2_readRowOf_24 : zD m_X2_readRowOf 24 (.iload 5) 2 26 := ⟨eg_X2_readRowOf_8.2.2.2.2.2.1, rfl⟩
theorem d_X2_readRowOf_26 : zD m_X2_readRowOf 26 (.aload_n 0) 1 27 := ⟨eg_X2_readRowOf_8.2.2.2.2.2.2.1, rfl⟩
theorem d_X2_readRowOf_27 : zD m_X2_readRowOf 27 (.getfield 12) 3 30 := ⟨eg_X2_readRowOf_8.2.2.2.2.2.2.2, rfl⟩
theorem d_X2_readRowOf_30 : zD m_X2_readRowOf 30 (.invokevirtual 59) 3 33 := ⟨eg_X2_readRowOf_16.1, rfl⟩
theorem d_X2_readRowOf_33 : zD m_X2_readRowOf 33 (.iadd) 1 34 := ⟨eg_X2_readRowOf_16.2.1, rfl⟩
theorem d_X2_readRowOf_34 : zD m_X2_readRowOf 34 (.istore 5) 2 36 := ⟨eg_X2_readRowOf_16.2.2.1, rfl⟩
theorem d_X2_readRowOf_36 : zD m_X2_readRowOf 36 (.iinc 6 1) 3 39 := ⟨eg_X2_readRowOf_16.2.2.2.1, rfl⟩
theorem d_X2_readRowOf_39 : zDj m_X2_readRowOf 39 (.goto) 42 18 := ⟨-21, eg_X2_readRowOf_16.2.2.2.2.1, rfl, by decide⟩
theorem d_X2_readRowOf_42 : zD m_X2_readRowOf 42 (.aload_n 0) 1 43 := ⟨eg_X2_readRowOf_16.2.2.2.2.2.1, rfl⟩
theorem d_X2_readRowOf_43 : zD m_X2_readRowOf 43 (.getfield 18) 3 46 := ⟨eg_X2_readRowOf_16.2.2.2.2.2.2.1, rfl⟩
theorem d_X2_readRowOf_46 : zD m_X2_readRowOf 46 (.iload_n 2) 1 47 := ⟨eg_X2_readRowOf_16.2.2.2.2.2.2.2, rfl⟩
theorem d_X2_readRowOf_47 : zD m_X2_readRowOf 47 (.bipush 8) 2 49 := ⟨eg_X2_readRowOf_24.1, rfl⟩
theorem d_X2_readRowOf_49 : zD m_X2_readRowOf 49 (.imul) 1 50 := ⟨eg_X2_readRowOf_24.2.1, rfl⟩
theorem d_X2_readRowOf_50 : zD m_X2_readRowOf 50 (.iload 4) 2 52 := ⟨eg_X2_readRowOf_24.2.2.1, rfl⟩
theorem d_X2_readRowOf_52 : zD m_X2_readRowOf 52 (.iadd) 1 53 := ⟨eg_X2_readRowOf_24.2.2.2.1, rfl⟩
theorem d_X2_readRowOf_53 : zD m_X2_readRowOf 53 (.iload 5) 2 55 := ⟨eg_X2_readRowOf_24.2.2.2.2.1, rfl⟩
theorem d_X2_readRowOf_55 : zD m_X2_readRowOf 55 (.aload_n 1) 1 56 := ⟨eg_X2_readRowOf_24.2.2.2.2.2.1, rfl⟩
theorem d_X2_readRowOf_56 : zD m_X2_readRowOf 56 (.invokestatic 63) 3 59 := ⟨eg_X2_readRowOf_24.2.2.2.2.2.2.1, rfl⟩
theorem d_X2_readRowOf_59 : zD m_X2_readRowOf 59 (.iastore) 1 60 := ⟨eg_X2_readRowOf_24.2.2.2.2.2.2.2, rfl⟩
theorem d_X2_readRowOf_60 : zD m_X2_readRowOf 60 (.iinc 4 1) 3 63 := ⟨eg_X2_readRowOf_32.1, rfl⟩
theorem d_X2_readRowOf_63 : zDj m_X2_readRowOf 63 (.goto) 66 3 := ⟨-60, eg_X2_readRowOf_32.2.1, rfl, by decide⟩
theorem d_X2_readRowOf_66 : decode (zcc m_X2_readRowOf) 66 = .ok (.return_, 1) := eg_X2_readRowOf_32.2.2
set_option maxRecDepth 20000 in
theorem eg_X2_greatest_0 : decode (zcc m_X2_greatest) 0 = .ok (.iconst 0, 1) ∧ decode (zcc m_X2_greatest) 1 = .ok (.istore_n 1, 1) ∧ decode (zcc m_X2_greatest) 2 = .ok (.iconst 0, 1) ∧ decode (zcc m_X2_greatest) 3 = .ok (.istore_n 2, 1) ∧ decode (zcc m_X2_greatest) 4 = .ok (.iload_n 2, 1) ∧ decode (zcc m_X2_greatest) 5 = .ok (.aload_n 0, 1) ∧ decode (zcc m_X2_greatest) 6 = .ok (.getfield 44, 3) ∧ decode (zcc m_X2_greatest) 9 = .ok (.aload_n 0, 1) := by decide +kernel
set_option maxRecDepth 20000 in
theorem eg_X2_greatest_8 : decode (zcc m_X2_greatest) 10 = .ok (.getfield 48, 3) ∧ decode (zcc m_X2_greatest) 13 = .ok (.imul, 1) ∧ decode (zcc m_X2_greatest) 14 = .ok (.if_icmp .ge (19), 3) ∧ decode (zcc m_X2_greatest) 17 = .ok (.iload_n 1, 1) ∧ decode (zcc m_X2_greatest) 18 = .ok (.aload_n 0, 1) ∧ decode (zcc m_X2_greatest) 19 = .ok (.iload_n 2, 1) ∧ decode (zcc m_X2_greatest) 20 = .ok (.invokevirtual 67, 3) ∧ decode (zcc m_X2_greatest) 23 = .ok (.invokestatic 71, 3) := by decide +kernel
set_option maxRecDepth 20000 in
theorem eg_X2_greatest_16 : decode (zcc m_X2_greatest) 26 = .ok (.istore_n 1, 1) ∧ decode (zcc m_X2_greatest) 27 = .ok (.iinc 2 1, 3) ∧ decode (zcc m_X2_greatest) 30 = .ok (.goto (-26), 3) ∧ decode (zcc m_X2_greatest) 33 = .ok (.iload_n 1, 1) ∧ decode (zcc m_X2_greatest) 34 = .ok (.ireturn, 1) := by decide +kernel
theorem d_X2_greatest_0 : zD m_X2_greatest 0 (.iconst 0) 1 1 := ⟨eg_X2_greatest_0.1, rfl⟩
theorem d_X2_greatest_1 : zD m_X2_greatest 1 (.istore_n 1) 1 2 := ⟨eg_X2_greatest_0.2.1, rfl⟩
theorem d_X2_greatest_2 : zD m_X2_greatest 2 (.iconst 0) 1 3 := ⟨eg_X2_greatest_0.2.2.1, rfl⟩
theorem d_X2_greatest_3 : zD m_X2_greatest 3 (.istore_n 2) 1 4 := ⟨eg_X2_greatest_0.2.2.2.1, rfl⟩
theorem d_X2_greatest_4 : zD m_X2_greatest 4 (.iload_n 2) 1 5 := ⟨eg_X2_greatest_0.2.2.2.2.1, rfl⟩
theorem d_X2_greatest_5 : zD m_X2_greatest 5 (.aload_n 0) 1 6 := ⟨eg_X2_greatest_0.2.2.2.2.2.1, rfl⟩
theorem d_X2_greatest_6 : zD m_X2_greatest 6 (.getfield 44) 3 9 := ⟨eg_X2_greatest_0.2.2.2.2.2.2.1, rfl⟩
theorem d_X2_greatest_9 : zD m_X2_greatest 9 (.aload_n 0) 1 10 := ⟨eg_X2_greatest_0.2.2.2.2.2.2.2, rfl⟩
theorem d_X2_greatest_10 : zD m_X2_greatest 10 (.getfield 48) 3 13 := ⟨eg_X2_greatest_8.1, rfl⟩
theorem d_X2_greatest_13 : zD m_X2_greatest 13 (.imul) 1 14 := ⟨eg_X2_greatest_8.2.1, rfl⟩
theorem d_X2_greatest_14 : zDj m_X2_greatest 14 (.if_icmp .ge) 17 33 := ⟨19, eg_X2_greatest_8.2.2.1, rfl, by decide⟩
theorem d_X2_greatest_17 : zD m_X2_greatest 17 (.iload_n 1) 1 18 := ⟨eg_X2_greatest_8.2.2.2.1, rfl⟩
theorem d_X2_greatest_18 : zD m_X2_greatest 18 (.aload_n 0) 1 19 := ⟨eg_X2_greatest_8.2.2.2.2.1, rfl⟩
theorem d_X2_greatest_19 : zD m_X2_greatest 19 (.iload_n 2) 1 20 := ⟨eg_X2_greatest_8.2.2.2.2.2.1, rfl⟩
theorem d_X2_greatest_20 : zD m_X2_greatest 20 (.invokevirtual 67) 3 23 := ⟨eg_X2_greatest_8.2.2.2.2.2.2.1, rfl⟩
theorem d_X2_greatest_23 : zD m_X2_greatest 23 (.invokestatic 71) 3 26 := ⟨eg_X2_greatest_8.2.2.2.2.2.2.2, rfl⟩
theorem d_X2_greatest_26 : zD m_X2_greatest 26 (.istore_n 1) 1 27 := ⟨eg_X2_greatest_16.1, rfl⟩
theorem d_X2_greatest_27 : zD m_X2_greatest 27 (.iinc 2 1) 3 30 := ⟨eg_X2_greatest_16.2.1, rfl⟩
theorem d_X2_greatest_30 : zDj m_X2_greatest 30 (.goto) 33 4 := ⟨-26, eg_X2_greatest_16.2.2.1, rfl, by decide⟩
theorem d_X2_greatest_33 : zD m_X2_greatest 33 (.iload_n 1) 1 34 := ⟨eg_X2_greatest_16.2.2.2.1, rfl⟩
theorem d_X2_greatest_34 : decode (zcc m_X2_greatest) 34 = .ok (.ireturn, 1) := eg_X2_greatest_16.2.2.2.2
set_option maxRecDepth 20000 in
theorem eg_X2_least_0 : decode (zcc m_X2_least) 0 = .ok (.sipush 255, 3) ∧ decode (zcc m_X2_least) 3 = .ok (.istore_n 1, 1) ∧ decode (zcc m_X2_least) 4 = .ok (.iconst 0, 1) ∧ decode (zcc m_X2_least) 5 = .ok (.istore_n 2, 1) ∧ decode (zcc m_X2_least) 6 = .ok (.iload_n 2, 1) ∧ decode (zcc m_X2_least) 7 = .ok (.aload_n 0, 1) ∧ decode (zcc m_X2_least) 8 = .ok (.getfield 44, 3) ∧ decode (zcc m_X2_least) 11 = .ok (.aload_n 0, 1) := by decide +kernel
set_option maxRecDepth 20000 in
theorem eg_X2_least_8 : decode (zcc m_X2_least) 12 = .ok (.getfield 48, 3) ∧ decode (zcc m_X2_least) 15 = .ok (.imul, 1) ∧ decode (zcc m_X2_least) 16 = .ok (.if_icmp .ge (19), 3) ∧ decode (zcc m_X2_least) 19 = .ok (.iload_n 1, 1) ∧ decode (zcc m_X2_least) 20 = .ok (.aload_n 0, 1) ∧ decode (zcc m_X2_least) 21 = .ok (.iload_n 2, 1) ∧ decode (zcc m_X2_least) 22 = .ok (.invokevirtual 67, 3) ∧ decode (zcc m_X2_least) 25 = .ok (.invokestatic 39, 3) := by decide +kernel
set_option maxRecDepth 20000 in
theorem eg_X2_least_16 : decode (zcc m_X2_least) 28 = .ok (.istore_n 1, 1) ∧ decode (zcc m_X2_least) 29 = .ok (.iinc 2 1, 3) ∧ decode (zcc m_X2_least) 32 = .ok (.goto (-26), 3) ∧ decode (zcc m_X2_least) 35 = .ok (.iload_n 1, 1) ∧ decode (zcc m_X2_least) 36 = .ok (.ireturn, 1) := by decide +kernel
theorem d_X2_least_0 : zD m_X2_least 0 (.sipush 255) 3 3 := ⟨eg_X2_least_0.1, rfl⟩
theorem d_X2_least_3 : zD m_X2_least 3 (.istore_n 1) 1 4 := ⟨eg_X2_least_0.2.1, rfl⟩
theorem d_X2_least_4 : zD m_X2_least 4 (.iconst 0) 1 5 := ⟨eg_X2_least_0.2.2.1, rfl⟩
theorem d_X2_least_5 : zD m_X2_least 5 (.istore_n 2) 1 6 := ⟨eg_X2_least_0.2.2.2.1, rfl⟩
theorem d_X2_least_6 : zD m_X2_least 6 (.iload_n 2) 1 7 := ⟨eg_X2_least_0.2.2.2.2.1, rfl⟩
theorem d_X2_least_7 : zD m_X2_least 7 (.aload_n 0) 1 8 := ⟨eg_X2_least_0.2.2.2.2.2.1, rfl⟩
theorem d_X2_least_8 : zD m_X2_least 8 (.getfield 44) 3 11 := ⟨eg_X2_least_0.2.2.2.2.2.2.1, rfl⟩
theorem d_X2_least_11 : zD m_X2_least 11 (.aload_n 0) 1 12 := ⟨eg_X2_least_0.2.2.2.2.2.2.2, rfl⟩
theorem d_X2_least_12 : zD m_X2_least 12 (.getfield 48) 3 15 := ⟨eg_X2_least_8.1, rfl⟩
theorem d_X2_least_15 : zD m_X2_least 15 (.imul) 1 16 := ⟨eg_X2_least_8.2.1, rfl⟩
theorem d_X2_least_16 : zDj m_X2_least 16 (.if_icmp .ge) 19 35 := ⟨19, eg_X2_least_8.2.2.1, rfl, by decide⟩
theorem d_X2_least_19 : zD m_X2_least 19 (.iload_n 1) 1 20 := ⟨eg_X2_least_8.2.2.2.1, rfl⟩
theorem d_X2_least_20 : zD m_X2_least 20 (.aload_n 0) 1 21 := ⟨eg_X2_least_8.2.2.2.2.1, rfl⟩
theorem d_X2_least_21 : zD m_X2_least 21 (.iload_n 2) 1 22 := ⟨eg_X2_least_8.2.2.2.2.2.1, rfl⟩
theorem d_X2_least_22 : zD m_X2_least 22 (.invokevirtual 67) 3 25 := ⟨eg_X2_least_8.2.2.2.2.2.2.1, rfl⟩
theorem d_X2_least_25 : zD m_X2_least 25 (.invokestatic 39) 3 28 := ⟨eg_X2_least_8.2.2.2.2.2.2.2, rfl⟩
theorem d_X2_least_28 : zD m_X2_least 28 (.istore_n 1) 1 29 := ⟨eg_X2_least_16.1, rfl⟩
theorem d_X2_least_29 : zD m_X2_least 29 (.iinc 2 1) 3 32 := ⟨eg_X2_least_16.2.1, rfl⟩
theorem d_X2_least_32 : zDj m_X2_least 32 (.goto) 35 6 := ⟨-26, eg_X2_least_16.2.2.1, rfl, by decide⟩
theorem d_X2_least_35 : zD m_X2_least 35 (.iload_n 1) 1 36 := ⟨eg_X2_least_16.2.2.2.1, rfl⟩
theorem d_X2_least_36 : decode (zcc m_X2_least) 36 = .ok (.ireturn, 1) := eg_X2_least_16.2.2.2.2
set_option maxRecDepth 20000 in
theorem eg_X2_summed_0 : decode (zcc m_X2_summed) 0 = .ok (.iconst 0, 1) ∧ decode (zcc m_X2_summed) 1 = .ok (.istore_n 1, 1) ∧ decode (zcc m_X2_summed) 2 = .ok (.iconst 0, 1) ∧ decode (zcc m_X2_summed) 3 = .ok (.istore_n 2, 1) ∧ decode (zcc m_X2_summed) 4 = .ok (.iload_n 2, 1) ∧ decode (zcc m_X2_summed) 5 = .ok (.aload_n 0, 1) ∧ decode (zcc m_X2_summed) 6 = .ok (.getfield 44, 3) ∧ decode (zcc m_X2_summed) 9 = .ok (.aload_n 0, 1) := by decide +kernel
set_option maxRecDepth 20000 in
theorem eg_X2_summed_8 : decode (zcc m_X2_summed) 10 = .ok (.getfield 48, 3) ∧ decode (zcc m_X2_summed) 13 = .ok (.imul, 1) ∧ decode (zcc m_X2_summed) 14 = .ok (.if_icmp .ge (17), 3) ∧ decode (zcc m_X2_summed) 17 = .ok (.iload_n 1, 1) ∧ decode (zcc m_X2_summed) 18 = .ok (.aload_n 0, 1) ∧ decode (zcc m_X2_summed) 19 = .ok (.iload_n 2, 1) ∧ decode (zcc m_X2_summed) 20 = .ok (.invokevirtual 67, 3) ∧ decode (zcc m_X2_summed) 23 = .ok (.iadd, 1) := by decide +kernel
set_option maxRecDepth 20000 in
theorem eg_X2_summed_16 : decode (zcc m_X2_summed) 24 = .ok (.istore_n 1, 1) ∧ decode (zcc m_X2_summed) 25 = .ok (.iinc 2 1, 3) ∧ decode (zcc m_X2_summed) 28 = .ok (.goto (-24), 3) ∧ decode (zcc m_X2_summed) 31 = .ok (.iload_n 1, 1) ∧ decode (zcc m_X2_summed) 32 = .ok (.ireturn, 1) := by decide +kernel
theorem d_X2_summed_0 : zD m_X2_summed 0 (.iconst 0) 1 1 := ⟨eg_X2_summed_0.1, rfl⟩
theorem d_X2_summed_1 : zD m_X2_summed 1 (.istore_n 1) 1 2 := ⟨eg_X2_summed_0.2.1, rfl⟩
theorem d_X2_summed_2 : zD m_X2_summed 2 (.iconst 0) 1 3 := ⟨eg_X2_summed_0.2.2.1, rfl⟩
theorem d_X2_summed_3 : zD m_X2_summed 3 (.istore_n 2) 1 4 := ⟨eg_X2_summed_0.2.2.2.1, rfl⟩
theorem d_X2_summed_4 : zD m_X2_summed 4 (.iload_n 2) 1 5 := ⟨eg_X2_summed_0.2.2.2.2.1, rfl⟩
theorem d_X2_summed_5 : zD m_X2_summed 5 (.aload_n 0) 1 6 := ⟨eg_X2_summed_0.2.2.2.2.2.1, rfl⟩
theorem d_X2_summed_6 : zD m_X2_summed 6 (.getfield 44) 3 9 := ⟨eg_X2_summed_0.2.2.2.2.2.2.1, rfl⟩
theorem d_X2_summed_9 : zD m_X2_summed 9 (.aload_n 0) 1 10 := ⟨eg_X2_summed_0.2.2.2.2.2.2.2, rfl⟩
theorem d_X2_summed_10 : zD m_X2_summed 10 (.getfield 48) 3 13 := ⟨eg_X2_summed_8.1, rfl⟩
theorem d_X2_summed_13 : zD m_X2_summed 13 (.imul) 1 14 := ⟨eg_X2_summed_8.2.1, rfl⟩
theorem d_X2_summed_14 : zDj m_X2_summed 14 (.if_icmp .ge) 17 31 := ⟨17, eg_X2_summed_8.2.2.1, rfl, by decide⟩
theorem d_X2_summed_17 : zD m_X2_summed 17 (.iload_n 1) 1 18 := ⟨eg_X2_summed_8.2.2.2.1, rfl⟩
theorem d_X2_summed_18 : zD m_X2_summed 18 (.aload_n 0) 1 19 := ⟨eg_X2_summed_8.2.2.2.2.1, rfl⟩
theorem d_X2_summed_19 : zD m_X2_summed 19 (.iload_n 2) 1 20 := ⟨eg_X2_summed_8.2.2.2.2.2.1, rfl⟩
theorem d_X2_summed_20 : zD m_X2_summed 20 (.invokevirtual 67) 3 23 := ⟨eg_X2_summed_8.2.2.2.2.2.2.1, rfl⟩
theorem d_X2_summed_23 : zD m_X2_summed 23 (.iadd) 1 24 := ⟨eg_X2_summed_8.2.2.2.2.2.2.2, rfl⟩
theorem d_X2_summed_24 : zD m_X2_summed 24 (.istore_n 1) 1 25 := ⟨eg_X2_summed_16.1, rfl⟩
theorem d_X2_summed_25 : zD m_X2_summed 25 (.iinc 2 1) 3 28 := ⟨eg_X2_summed_16.2.1, rfl⟩
theorem d_X2_summed_28 : zDj m_X2_summed 28 (.goto) 31 4 := ⟨-24, eg_X2_summed_16.2.2.1, rfl, by decide⟩
theorem d_X2_summed_31 : zD m_X2_summed 31 (.iload_n 1) 1 32 := ⟨eg_X2_summed_16.2.2.2.1, rfl⟩
theorem d_X2_summed_32 : decode (zcc m_X2_summed) 32 = .ok (.ireturn, 1) := eg_X2_summed_16.2.2.2.2
set_option maxRecDepth 20000 in
theorem eg_X2_brightest_0 : decode (zcc m_X2_brightest) 0 = .ok (.iconst 0, 1) ∧ decode (zcc m_X2_brightest) 1 = .ok (.istore_n 1, 1) ∧ decode (zcc m_X2_brightest) 2 = .ok (.iconst 0, 1) ∧ decode (zcc m_X2_brightest) 3 = .ok (.istore_n 2, 1) ∧ decode (zcc m_X2_brightest) 4 = .ok (.iload_n 2, 1) ∧ decode (zcc m_X2_brightest) 5 = .ok (.aload_n 0, 1) ∧ decode (zcc m_X2_brightest) 6 = .ok (.getfield 44, 3) ∧ decode (zcc m_X2_brightest) 9 = .ok (.aload_n 0, 1) := by decide +kernel
set_option maxRecDepth 20000 in
theorem eg_X2_brightest_8 : decode (zcc m_X2_brightest) 10 = .ok (.getfield 48, 3) ∧ decode (zcc m_X2_brightest) 13 = .ok (.imul, 1) ∧ decode (zcc m_X2_brightest) 14 = .ok (.if_icmp .ge (28), 3) ∧ decode (zcc m_X2_brightest) 17 = .ok (.iload_n 1, 1) ∧ decode (zcc m_X2_brightest) 18 = .ok (.aload_n 0, 1) ∧ decode (zcc m_X2_brightest) 19 = .ok (.iload_n 2, 1) ∧ decode (zcc m_X2_brightest) 20 = .ok (.invokevirtual 67, 3) ∧ decode (zcc m_X2_brightest) 23 = .ok (.sipush 255, 3) := by decide +kernel
set_option maxRecDepth 20000 in
theorem eg_X2_brightest_16 : decode (zcc m_X2_brightest) 26 = .ok (.if_icmp .ne (7), 3) ∧ decode (zcc m_X2_brightest) 29 = .ok (.iconst 1, 1) ∧ decode (zcc m_X2_brightest) 30 = .ok (.goto (4), 3) ∧ decode (zcc m_X2_brightest) 33 = .ok (.iconst 0, 1) ∧ decode (zcc m_X2_brightest) 34 = .ok (.iadd, 1) ∧ decode (zcc m_X2_brightest) 35 = .ok (.istore_n 1, 1) ∧ decode (zcc m_X2_brightest) 36 = .ok (.iinc 2 1, 3) ∧ decode (zcc m_X2_brightest) 39 = .ok (.goto (-35), 3) := by decide +kernel
set_option maxRecDepth 20000 in
theorem eg_X2_brightest_24 : decode (zcc m_X2_brightest) 42 = .ok (.iload_n 1, 1) ∧ decode (zcc m_X2_brightest) 43 = .ok (.ireturn, 1) := by decide +kernel
theorem d_X2_brightest_0 : zD m_X2_brightest 0 (.iconst 0) 1 1 := ⟨eg_X2_brightest_0.1, rfl⟩
theorem d_X2_brightest_1 : zD m_X2_brightest 1 (.istore_n 1) 1 2 := ⟨eg_X2_brightest_0.2.1, rfl⟩
theorem d_X2_brightest_2 : zD m_X2_brightest 2 (.iconst 0) 1 3 := ⟨eg_X2_brightest_0.2.2.1, rfl⟩
theorem d_X2_brightest_3 : zD m_X2_brightest 3 (.istore_n 2) 1 4 := ⟨eg_X2_brightest_0.2.2.2.1, rfl⟩
theorem d_X2_brightest_4 : zD m_X2_brightest 4 (.iload_n 2) 1 5 := ⟨eg_X2_brightest_0.2.2.2.2.1, rfl⟩
theorem d_X2_brightest_5 : zD m_X2_brightest 5 (.aload_n 0) 1 6 := ⟨eg_X2_brightest_0.2.2.2.2.2.1, rfl⟩
theorem d_X2_brightest_6 : zD m_X2_brightest 6 (.getfield 44) 3 9 := ⟨eg_X2_brightest_0.2.2.2.2.2.2.1, rfl⟩
theorem d_X2_brightest_9 : zD m_X2_brightest 9 (.aload_n 0) 1 10 := ⟨eg_X2_brightest_0.2.2.2.2.2.2.2, rfl⟩
theorem d_X2_brightest_10 : zD m_X2_brightest 10 (.getfield 48) 3 13 := ⟨eg_X2_brightest_8.1, rfl⟩
theorem d_X2_brightest_13 : zD m_X2_brightest 13 (.imul) 1 14 := ⟨eg_X2_brightest_8.2.1, rfl⟩
theorem d_X2_brightest_14 : zDj m_X2_brightest 14 (.if_icmp .ge) 17 42 := ⟨28, eg_X2_brightest_8.2.2.1, rfl, by decide⟩
theorem d_X2_brightest_17 : zD m_X2_brightest 17 (.iload_n 1) 1 18 := ⟨eg_X2_brightest_8.2.2.2.1, rfl⟩
theorem d_X2_brightest_18 : zD m_X2_brightest 18 (.aload_n 0) 1 19 := ⟨eg_X2_brightest_8.2.2.2.2.1, rfl⟩
theorem d_X2_brightest_19 : zD m_X2_brightest 19 (.iload_n 2) 1 20 := ⟨eg_X2_brightest_8.2.2.2.2.2.1, rfl⟩
theorem d_X2_brightest_20 : zD m_X2_brightest 20 (.invokevirtual 67) 3 23 := ⟨eg_X2_brightest_8.2.2.2.2.2.2.1, rfl⟩
theorem d_X2_brightest_23 : zD m_X2_brightest 23 (.sipush 255) 3 26 := ⟨eg_X2_brightest_8.2.2.2.2.2.2.2, rfl⟩
theorem d_X2_brightest_26 : zDj m_X2_brightest 26 (.if_icmp .ne) 29 33 := ⟨7, eg_X2_brightest_16.1, rfl, by decide⟩
theorem d_X2_brightest_29 : zD m_X2_brightest 29 (.iconst 1) 1 30 := ⟨eg_X2_brightest_16.2.1, rfl⟩
theorem d_X2_brightest_30 : zDj m_X2_brightest 30 (.goto) 33 34 := ⟨4, eg_X2_brightest_16.2.2.1, rfl, by decide⟩
theorem d_X2_brightest_33 : zD m_X2_brightest 33 (.iconst 0) 1 34 := ⟨eg_X2_brightest_16.2.2.2.1, rfl⟩
theorem d_X2_brightest_34 : zD m_X2_brightest 34 (.iadd) 1 35 := ⟨eg_X2_brightest_16.2.2.2.2.1, rfl⟩
theorem d_X2_brightest_35 : zD m_X2_brightest 35 (.istore_n 1) 1 36 := ⟨eg_X2_brightest_16.2.2.2.2.2.1, rfl⟩
theorem d_X2_brightest_36 : zD m_X2_brightest 36 (.iinc 2 1) 3 39 := ⟨eg_X2_brightest_16.2.2.2.2.2.2.1, rfl⟩
theorem d_X2_brightest_39 : zDj m_X2_brightest 39 (.goto) 42 4 := ⟨-35, eg_X2_brightest_16.2.2.2.2.2.2.2, rfl, by decide⟩
theorem d_X2_brightest_42 : zD m_X2_brightest 42 (.iload_n 1) 1 43 := ⟨eg_X2_brightest_24.1, rfl⟩
theorem d_X2_brightest_43 : decode (zcc m_X2_brightest) 43 = .ok (.ireturn, 1) := eg_X2_brightest_24.2
set_option maxRecDepth 20000 in
theorem eg_X2_valueIn_0 : decode (zcc m_X2_valueIn) 0 = .ok (.aload_n 0, 1) ∧ decode (zcc m_X2_valueIn) 1 = .ok (.getfield 48, 3) ∧ decode (zcc m_X2_valueIn) 4 = .ok (.iconst 1, 1) ∧ decode (zcc m_X2_valueIn) 5 = .ok (.if_icmp .ge (7), 3) ∧ decode (zcc m_X2_valueIn) 8 = .ok (.iconst 0, 1) ∧ decode (zcc m_X2_valueIn) 9 = .ok (.goto (24), 3) ∧ decode (zcc m_X2_valueIn) 12 = .ok (.aload_n 0, 1) ∧ decode (zcc m_X2_valueIn) 13 = .ok (.getfield 18, 3) := by decide +kernel
set_option maxRecDepth 20000 in
theorem eg_X2_valueIn_8 : decode (zcc m_X2_valueIn) 16 = .ok (.iload_n 1, 1) ∧ decode (zcc m_X2_valueIn) 17 = .ok (.aload_n 0, 1) ∧ decode (zcc m_X2_valueIn) 18 = .ok (.getfield 48, 3) ∧ decode (zcc m_X2_valueIn) 21 = .ok (.idiv, 1) ∧ decode (zcc m_X2_valueIn) 22 = .ok (.bipush 8, 2) ∧ decode (zcc m_X2_valueIn) 24 = .ok (.imul, 1) ∧ decode (zcc m_X2_valueIn) 25 = .ok (.iload_n 1, 1) ∧ decode (zcc m_X2_valueIn) 26 = .ok (.aload_n 0, 1) := by decide +kernel
set_option maxRecDepth 20000 in
theorem eg_X2_valueIn_16 : decode (zcc m_X2_valueIn) 27 = .ok (.getfield 48, 3) ∧ decode (zcc m_X2_valueIn) 30 = .ok (.irem, 1) ∧ decode (zcc m_X2_valueIn) 31 = .ok (.iadd, 1) ∧ decode (zcc m_X2_valueIn) 32 = .ok (.iaload, 1) ∧ decode (zcc m_X2_valueIn) 33 = .ok (.ireturn, 1) := by decide +kernel
theorem d_X2_valueIn_0 : zD m_X2_valueIn 0 (.aload_n 0) 1 1 := ⟨eg_X2_valueIn_0.1, rfl⟩
theorem d_X2_valueIn_1 : zD m_X2_valueIn 1 (.getfield 48) 3 4 := ⟨eg_X2_valueIn_0.2.1, rfl⟩
theorem d_X2_valueIn_4 : zD m_X2_valueIn 4 (.iconst 1) 1 5 := ⟨eg_X2_valueIn_0.2.2.1, rfl⟩
theorem d_X2_valueIn_5 : zDj m_X2_valueIn 5 (.if_icmp .ge) 8 12 := ⟨7, eg_X2_valueIn_0.2.2.2.1, rfl, by decide⟩
theorem d_X2_valueIn_8 : zD m_X2_valueIn 8 (.iconst 0) 1 9 := ⟨eg_X2_valueIn_0.2.2.2.2.1, rfl⟩
theorem d_X2_valueIn_9 : zDj m_X2_valueIn 9 (.goto) 12 33 := ⟨24, eg_X2_valueIn_0.2.2.2.2.2.1, rfl, by decide⟩
theorem d_X2_valueIn_12 : zD m_X2_valueIn 12 (.aload_n 0) 1 13 := ⟨eg_X2_valueIn_0.2.2.2.2.2.2.1, rfl⟩
theorem d_X2_valueIn_13 : zD m_X2_valueIn 13 (.getfield 18) 3 16 := ⟨eg_X2_valueIn_0.2.2.2.2.2.2.2, rfl⟩
theorem d_X2_valueIn_16 : zD m_X2_valueIn 16 (.iload_n 1) 1 17 := ⟨eg_X2_valueIn_8.1, rfl⟩
theorem d_X2_valueIn_17 : zD m_X2_valueIn 17 (.aload_n 0) 1 18 := ⟨eg_X2_valueIn_8.2.1, rfl⟩
theorem d_X2_valueIn_18 : zD m_X2_valueIn 18 (.getfield 48) 3 21 := ⟨eg_X2_valueIn_8.2.2.1, rfl⟩
theorem d_X2_valueIn_21 : zD m_X2_valueIn 21 (.idiv) 1 22 := ⟨eg_X2_valueIn_8.2.2.2.1, rfl⟩
theorem d_X2_valueIn_22 : zD m_X2_valueIn 22 (.bipush 8) 2 24 := ⟨eg_X2_valueIn_8.2.2.2.2.1, rfl⟩
theorem d_X2_valueIn_24 : zD m_X2_valueIn 24 (.imul) 1 25 := ⟨eg_X2_valueIn_8.2.2.2.2.2.1, rfl⟩
theorem d_X2_valueIn_25 : zD m_X2_valueIn 25 (.iload_n 1) 1 26 := ⟨eg_X2_valueIn_8.2.2.2.2.2.2.1, rfl⟩
theorem d_X2_valueIn_26 : zD m_X2_valueIn 26 (.aload_n 0) 1 27 := ⟨eg_X2_valueIn_8.2.2.2.2.2.2.2, rfl⟩
theorem d_X2_valueIn_27 : zD m_X2_valueIn 27 (.getfield 48) 3 30 := ⟨eg_X2_valueIn_16.1, rfl⟩
theorem d_X2_valueIn_30 : zD m_X2_valueIn 30 (.irem) 1 31 := ⟨eg_X2_valueIn_16.2.1, rfl⟩
theorem d_X2_valueIn_31 : zD m_X2_valueIn 31 (.iadd) 1 32 := ⟨eg_X2_valueIn_16.2.2.1, rfl⟩
theorem d_X2_valueIn_32 : zD m_X2_valueIn 32 (.iaload) 1 33 := ⟨eg_X2_valueIn_16.2.2.2.1, rfl⟩
theorem d_X2_valueIn_33 : decode (zcc m_X2_valueIn) 33 = .ok (.ireturn, 1) := eg_X2_valueIn_16.2.2.2.2
