set_option maxRecDepth 20000 in
theorem eg_X7_init_0 : decode (zcc m_X7_init) 0 = .ok (.aload_n 0, 1) ∧ decode (zcc m_X7_init) 1 = .ok (.invokespecial 3, 3) ∧ decode (zcc m_X7_init) 4 = .ok (.aload_n 0, 1) ∧ decode (zcc m_X7_init) 5 = .ok (.new 9, 3) ∧ decode (zcc m_X7_init) 8 = .ok (.dup, 1) ∧ decode (zcc m_X7_init) 9 = .ok (.invokespecial 11, 3) ∧ decode (zcc m_X7_init) 12 = .ok (.putfield 12, 3) ∧ decode (zcc m_X7_init) 15 = .ok (.aload_n 0, 1) := by decide +kernel
set_option maxRecDepth 20000 in
theorem eg_X7_init_8 : decode (zcc m_X7_init) 16 = .ok (.new 16, 3) ∧ decode (zcc m_X7_init) 19 = .ok (.dup, 1) ∧ decode (zcc m_X7_init) 20 = .ok (.invokespecial 18, 3) ∧ decode (zcc m_X7_init) 23 = .ok (.putfield 19, 3) ∧ decode (zcc m_X7_init) 26 = .ok (.aload_n 0, 1) ∧ decode (zcc m_X7_init) 27 = .ok (.new 23, 3) ∧ decode (zcc m_X7_init) 30 = .ok (.dup, 1) ∧ decode (zcc m_X7_init) 31 = .ok (.aload_n 0, 1) := by decide +kernel
set_option maxRecDepth 20000 in
theorem eg_X7_init_16 : decode (zcc m_X7_init) 32 = .ok (.getfield 12, 3) ∧ decode (zcc m_X7_init) 35 = .ok (.invokespecial 25, 3) ∧ decode (zcc m_X7_init) 38 = .ok (.putfield 28, 3) ∧ decode (zcc m_X7_init) 41 = .ok (.aload_n 0, 1) ∧ decode (zcc m_X7_init) 42 = .ok (.new 32, 3) ∧ decode (zcc m_X7_init) 45 = .ok (.dup, 1) ∧ decode (zcc m_X7_init) 46 = .ok (.invokespecial 34, 3) ∧ decode (zcc m_X7_init) 49 = .ok (.putfield 35, 3) := by decide +kernel
set_option maxRecDepth 20000 in
theorem eg_X7_init_24 : decode (zcc m_X7_init) 52 = .ok (.aload_n 0, 1) ∧ decode (zcc m_X7_init) 53 = .ok (.iconst 2, 1) ∧ decode (zcc m_X7_init) 54 = .ok (.anewarray 32, 3) ∧ decode (zcc m_X7_init) 57 = .ok (.putfield 39, 3) ∧ decode (zcc m_X7_init) 60 = .ok (.aload_n 0, 1) ∧ decode (zcc m_X7_init) 61 = .ok (.iconst 2, 1) ∧ decode (zcc m_X7_init) 62 = .ok (.newarray .boolean, 2) ∧ decode (zcc m_X7_init) 64 = .ok (.putfield 43, 3) := by decide +kernel
set_option maxRecDepth 20000 in
theorem eg_X7_init_32 : decode (zcc m_X7_init) 67 = .ok (.aload_n 0, 1) ∧ decode (zcc m_X7_init) 68 = .ok (.new 47, 3) ∧ decode (zcc m_X7_init) 71 = .ok (.dup, 1) ∧ decode (zcc m_X7_init) 72 = .ok (.invokespecial 49, 3) ∧ decode (zcc m_X7_init) 75 = .ok (.putfield 50, 3) ∧ decode (zcc m_X7_init) 78 = .ok (.aload_n 0, 1) ∧ decode (zcc m_X7_init) 79 = .ok (.new 47, 3) ∧ decode (zcc m_X7_init) 82 = .ok (.dup, 1) := by decide +kernel
set_option maxRecDepth 20000 in
theorem eg_X7_init_40 : decode (zcc m_X7_init) 83 = .ok (.invokespecial 49, 3) ∧ decode (zcc m_X7_init) 86 = .ok (.putfield 54, 3) ∧ decode (zcc m_X7_init) 89 = .ok (.aload_n 0, 1) ∧ decode (zcc m_X7_init) 90 = .ok (.new 57, 3) ∧ decode (zcc m_X7_init) 93 = .ok (.dup, 1) ∧ decode (zcc m_X7_init) 94 = .ok (.invokespecial 59, 3) ∧ decode (zcc m_X7_init) 97 = .ok (.putfield 60, 3) ∧ decode (zcc m_X7_init) 100 = .ok (.aload_n 0, 1) := by decide +kernel
set_option maxRecDepth 20000 in
theorem eg_X7_init_48 : decode (zcc m_X7_init) 101 = .ok (.iconst 4, 1) ∧ decode (zcc m_X7_init) 102 = .ok (.anewarray 64, 3) ∧ decode (zcc m_X7_init) 105 = .ok (.putfield 66, 3) ∧ decode (zcc m_X7_init) 108 = .ok (.iconst 0, 1) ∧ decode (zcc m_X7_init) 109 = .ok (.istore_n 1, 1) ∧ decode (zcc m_X7_init) 110 = .ok (.iload_n 1, 1) ∧ decode (zcc m_X7_init) 111 = .ok (.iconst 2, 1) ∧ decode (zcc m_X7_init) 112 = .ok (.if_icmp .ge (22), 3) := by decide +kernel
set_option maxRecDepth 20000 in
theorem eg_X7_init_56 : decode (zcc m_X7_init) 115 = .ok (.aload_n 0, 1) ∧ decode (zcc m_X7_init) 116 = .ok (.getfield 39, 3) ∧ decode (zcc m_X7_init) 119 = .ok (.iload_n 1, 1) ∧ decode (zcc m_X7_init) 120 = .ok (.new 32, 3) ∧ decode (zcc m_X7_init) 123 = .ok (.dup, 1) ∧ decode (zcc m_X7_init) 124 = .ok (.invokespecial 34, 3) ∧ decode (zcc m_X7_init) 127 = .ok (.aastore, 1) ∧ decode (zcc m_X7_init) 128 = .ok (.iinc 1 1, 3) := by decide +kernel
set_option maxRecDepth 20000 in
theorem eg_X7_init_64 : decode (zcc m_X7_init) 131 = .ok (.goto (-21), 3) ∧ decode (zcc m_X7_init) 134 = .ok (.iconst 0, 1) ∧ decode (zcc m_X7_init) 135 = .ok (.istore_n 1, 1) ∧ decode (zcc m_X7_init) 136 = .ok (.iload_n 1, 1) ∧ decode (zcc m_X7_init) 137 = .ok (.iconst 4, 1) ∧ decode (zcc m_X7_init) 138 = .ok (.if_icmp .ge (22), 3) ∧ decode (zcc m_X7_init) 141 = .ok (.aload_n 0, 1) ∧ decode (zcc m_X7_init) 142 = .ok (.getfield 66, 3) := by decide +kernel
set_option maxRecDepth 20000 in
theorem eg_X7_init_72 : decode (zcc m_X7_init) 145 = .ok (.iload_n 1, 1) ∧ decode (zcc m_X7_init) 146 = .ok (.new 64, 3) ∧ decode (zcc m_X7_init) 149 = .ok (.dup, 1) ∧ decode (zcc m_X7_init) 150 = .ok (.invokespecial 70, 3) ∧ decode (zcc m_X7_init) 153 = .ok (.aastore, 1) ∧ decode (zcc m_X7_init) 154 = .ok (.iinc 1 1, 3) ∧ decode (zcc m_X7_init) 157 = .ok (.goto (-21), 3) ∧ decode (zcc m_X7_init) 160 = .ok (.return_, 1) := by decide +kernel
theorem d_X7_init_0 : zD m_X7_init 0 (.aload_n 0) 1 1 := ⟨eg_X7_init_0.1, rfl⟩
theorem d_X7_init_1 : zD m_X7_init 1 (.invokespecial 3) 3 4 := ⟨eg_X7_init_0.2.1, rfl⟩
theorem d_X7_init_4 : zD m_X7_init 4 (.aload_n 0) 1 5 := ⟨eg_X7_init_0.2.2.1, rfl⟩
theorem d_X7_init_5 : zD m_X7_init 5 (.new 9) 3 8 := ⟨eg_X7_init_0.2.2.2.1, rfl⟩
theorem d_X7_init_8 : zD m_X7_init 8 (.dup) 1 9 := ⟨eg_X7_init_0.2.2.2.2.1, rfl⟩
theorem d_X7_init_9 : zD m_X7_init 9 (.invokespecial 11) 3 12 := ⟨eg_X7_init_0.2.2.2.2.2.1, rfl⟩
theorem d_X7_init_12 : zD m_X7_init 12 (.putfield 12) 3 15 := ⟨eg_X7_init_0.2.2.2.2.2.2.1, rfl⟩
theorem d_X7_init_15 : zD m_X7_init 15 (.aload_n 0) 1 16 := ⟨eg_X7_init_0.2.2.2.2.2.2.2, rfl⟩
theorem d_X7_init_16 : zD m_X7_init 16 (.new 16) 3 19 := ⟨eg_X7_init_8.1, rfl⟩
theorem d_X7_init_19 : zD m_X7_init 19 (.dup) 1 20 := ⟨eg_X7_init_8.2.1, rfl⟩
theorem d_X7_init_20 : zD m_X7_init 20 (.invokespecial 18) 3 23 := ⟨eg_X7_init_8.2.2.1, rfl⟩
theorem d_X7_init_23 : zD m_X7_init 23 (.putfield 19) 3 26 := ⟨eg_X7_init_8.2.2.2.1, rfl⟩
theorem d_X7_init_26 : zD m_X7_init 26 (.aload_n 0) 1 27 := ⟨eg_X7_init_8.2.2.2.2.1, rfl⟩
theorem d_X7_init_27 : zD m_X7_init 27 (.new 23) 3 30 := ⟨eg_X7_init_8.2.2.2.2.2.1, rfl⟩
theorem d_X7_init_30 : zD m_X7_init 30 (.dup) 1 31 := ⟨eg_X7_init_8.2.2.2.2.2.2.1, rfl⟩
theorem d_X7_init_31 : zD m_X7_init 31 (.aload_n 0) 1 32 := ⟨eg_X7_init_8.2.2.2.2.2.2.2, rfl⟩
theorem d_X7_init_32 : zD m_X7_init 32 (.getfield 12) 3 35 := ⟨eg_X7_init_16.1, rfl⟩
theorem d_X7_init_35 : zD m_X7_init 35 (.invokespecial 25) 3 38 := ⟨eg_X7_init_16.2.1, rfl⟩
theorem d_X7_init_38 : zD m_X7_init 38 (.putfield 28) 3 41 := ⟨eg_X7_init_16.2.2.1, rfl⟩
theorem d_X7_init_41 : zD m_X7_init 41 (.aload_n 0) 1 42 := ⟨eg_X7_init_16.2.2.2.1, rfl⟩
theorem d_X7_init_42 : zD m_X7_init 42 (.new 32) 3 45 := ⟨eg_X7_init_16.2.2.2.2.1, rfl⟩
theorem d_X7_init_45 : zD m_X7_init 45 (.dup) 1 46 := ⟨eg_X7_init_16.2.2.2.2.2.1, rfl⟩
theorem d_X7_init_46 : zD m_X7_init 46 (.invokespecial 34) 3 49 := ⟨eg_X7_init_16.2.2.2.2.2.2.1, rfl⟩
theorem d_X7_init_49 : zD m_X7_init 49 (.putfield 35) 3 52 := ⟨eg_X7_init_16.2.2.2.2.2.2.2, rfl⟩
theorem d_X7_init_52 : zD m_X7_init 52 (.aload_n 0) 1 53 := ⟨eg_X7_init_24.1, rfl⟩
theorem d_X7_init_53 : zD m_X7_init 53 (.iconst 2) 1 54 := ⟨eg_X7_init_24.2.1, rfl⟩
theorem d_X7_init_54 : zD m_X7_init 54 (.anewarray 32) 3 57 := ⟨eg_X7_init_24.2.2.1, rfl⟩
theorem d_X7_init_57 : zD m_X7_init 57 (.putfield 39) 3 60 := ⟨eg_X7_init_24.2.2.2.1, rfl⟩
theorem d_X7_init_60 : zD m_X7_init 60 (.aload_n 0) 1 61 := ⟨eg_X7_init_24.2.2.2.2.1, rfl⟩
theorem d_X7_init_61 : zD m_X7_init 61 (.iconst 2) 1 62 := ⟨eg_X7_init_24.2.2.2.2.2.1, rfl⟩
theorem d_X7_init_62 : zD m_X7_init 62 (.newarray .boolean) 2 64 := ⟨eg_X7_init_24.2.2.2.2.2.2.1, rfl⟩
theorem d_X7_init_64 : zD m_X7_init 64 (.putfield 43) 3 67 := ⟨eg_X7_init_24.2.2.2.2.2.2.2, rfl⟩
theorem d_X7_init_67 : zD m_X7_init 67 (.aload_n 0) 1 68 := ⟨eg_X7_init_32.1, rfl⟩
theorem d_X7_init_68 : zD m_X7_init 68 (.new 47) 3 71 := ⟨eg_X7_init_32.2.1, rfl⟩
theorem d_X7_init_71 : zD m_X7_init 71 (.dup) 1 72 := ⟨eg_X7_init_32.2.2.1, rfl⟩
theorem d_X7_init_72 : zD m_X7_init 72 (.invokespecial 49) 3 75 := ⟨eg_X7_init_32.2.2.2.1, rfl⟩
theorem d_X7_init_75 : zD m_X7_init 75 (.putfield 50) 3 78 := ⟨eg_X7_init_32.2.2.2.2.1, rfl⟩
theorem d_X7_init_78 : zD m_X7_init 78 (.aload_n 0) 1 79 := ⟨eg_X7_init_32.2.2.2.2.2.1, rfl⟩
theorem d_X7_init_79 : zD m_X7_init 79 (.new 47) 3 82 := ⟨eg_X7_init_32.2.2.2.2.2.2.1, rfl⟩
theorem d_X7_init_82 : zD m_X7_init 82 (.dup) 1 83 := ⟨eg_X7_init_32.2.2.2.2.2.2.2, rfl⟩
theorem d_X7_init_83 : zD m_X7_init 83 (.invokespecial 49) 3 86 := ⟨eg_X7_init_40.1, rfl⟩
theorem d_X7_init_86 : zD m_X7_init 86 (.putfield 54) 3 89 := ⟨eg_X7_init_40.2.1, rfl⟩
theorem d_X7_init_89 : zD m_X7_init 89 (.aload_n 0) 1 90 := ⟨eg_X7_init_40.2.2.1, rfl⟩
theorem d_X7_init_90 : zD m_X7_init 90 (.new 57) 3 93 := ⟨eg_X7_init_40.2.2.2.1, rfl⟩
theorem d_X7_init_93 : zD m_X7_init 93 (.dup) 1 94 := ⟨eg_X7_init_40.2.2.2.2.1, rfl⟩
theorem d_X7_init_94 : zD m_X7_init 94 (.invokespecial 59) 3 97 := ⟨eg_X7_init_40.2.2.2.2.2.1, rfl⟩
theorem d_X7_init_97 : zD m_X7_init 97 (.putfield 60) 3 100 := ⟨eg_X7_init_40.2.2.2.2.2.2.1, rfl⟩
theorem d_X7_init_100 : zD m_X7_init 100 (.aload_n 0) 1 101 := ⟨eg_X7_init_40.2.2.2.2.2.2.2, rfl⟩
theorem d_X7_init_101 : zD m_X7_init 101 (.iconst 4) 1 102 := ⟨eg_X7_init_48.1, rfl⟩
theorem d_X7_init_102 : zD m_X7_init 102 (.anewarray 64) 3 105 := ⟨eg_X7_init_48.2.1, rfl⟩
theorem d_X7_init_105 : zD m_X7_init 105 (.putfield 66) 3 108 := ⟨eg_X7_init_48.2.2.1, rfl⟩
theorem d_X7_init_108 : zD m_X7_init 108 (.iconst 0) 1 109 := ⟨eg_X7_init_48.2.2.2.1, rfl⟩
theorem d_X7_init_109 : zD m_X7_init 109 (.istore_n 1) 1 110 := ⟨eg_X7_init_48.2.2.2.2.1, rfl⟩
theorem d_X7_init_110 : zD m_X7_init 110 (.iload_n 1) 1 111 := ⟨eg_X7_init_48.2.2.2.2.2.1, rfl⟩
theorem d_X7_init_111 : zD m_X7_init 111 (.iconst 2) 1 112 := ⟨eg_X7_init_48.2.2.2.2.2.2.1, rfl⟩
theorem d_X7_init_112 : zDj m_X7_init 112 (.if_icmp .ge) 115 134 := ⟨22, eg_X7_init_48.2.2.2.2.2.2.2, rfl, by decide⟩
theorem d_X7_init_115 : zD m_X7_init 115 (.aload_n 0) 1 116 := ⟨eg_X7_init_56.1, rfl⟩
theorem d_X7_init_116 : zD m_X7_init 116 (.getfield 39) 3 119 := ⟨eg_X7_init_56.2.1, rfl⟩
theorem d_X7_init_119 : zD m_X7_init 119 (.iload_n 1) 1 120 := ⟨eg_X7_init_56.2.2.1, rfl⟩
theorem d_X7_init_120 : zD m_X7_init 120 (.new 32) 3 123 := ⟨eg_X7_init_56.2.2.2.1, rfl⟩
theorem d_X7_init_123 : zD m_X7_init 123 (.dup) 1 124 := ⟨eg_X7_init_56.2.2.2.2.1, rfl⟩
theorem d_X7_init_124 : zD m_X7_init 124 (.invokespecial 34) 3 127 := ⟨eg_X7_init_56.2.2.2.2.2.1, rfl⟩
theorem d_X7_init_127 : zD m_X7_init 127 (.aastore) 1 128 := ⟨eg_X7_init_56.2.2.2.2.2.2.1, rfl⟩
theorem d_X7_init_128 : zD m_X7_init 128 (.iinc 1 1) 3 131 := ⟨eg_X7_init_56.2.2.2.2.2.2.2, rfl⟩
theorem d_X7_init_131 : zDj m_X7_init 131 (.goto) 134 110 := ⟨-21, eg_X7_init_64.1, rfl, by decide⟩
theorem d_X7_init_134 : zD m_X7_init 134 (.iconst 0) 1 135 := ⟨eg_X7_init_64.2.1, rfl⟩
theorem d_X7_init_135 : zD m_X7_init 135 (.istore_n 1) 1 136 := ⟨eg_X7_init_64.2.2.1, rfl⟩
theorem d_X7_init_136 : zD m_X7_init 136 (.iload_n 1) 1 137 := ⟨eg_X7_init_64.2.2.2.1, rfl⟩
theorem d_X7_init_137 : zD m_X7_init 137 (.iconst 4) 1 138 := ⟨eg_X7_init_64.2.2.2.2.1, rfl⟩
theorem d_X7_init_138 : zDj m_X7_init 138 (.if_icmp .ge) 141 160 := ⟨22, eg_X7_init_64.2.2.2.2.2.1, rfl, by decide⟩
theorem d_X7_init_141 : zD m_X7_init 141 (.aload_n 0) 1 142 := ⟨eg_X7_init_64.2.2.2.2.2.2.1, rfl⟩
theorem d_X7_init_142 : zD m_X7_init 142 (.getfield 66) 3 145 := ⟨eg_X7_init_64.2.2.2.2.2.2.2, rfl⟩
theorem d_X7_init_145 : zD m_X7_init 145 (.iload_n 1) 1 146 := ⟨eg_X7_init_72.1, rfl⟩
theorem d_X7_init_146 : zD m_X7_init 146 (.new 64) 3 149 := ⟨eg_X7_init_72.2.1, rfl⟩
theorem d_X7_init_149 : zD m_X7_init 149 (.dup) 1 150 := ⟨eg_X7_init_72.2.2.1, rfl⟩
theorem d_X7_init_150 : zD m_X7_init 150 (.invokespecial 70) 3 153 := ⟨eg_X7_init_72.2.2.2.1, rfl⟩
theorem d_X7_init_153 : zD m_X7_init 153 (.aastore) 1 154 := ⟨eg_X7_init_72.2.2.2.2.1, rfl⟩
theorem d_X7_init_154 : zD m_X7_init 154 (.iinc 1 1) 3 157 := ⟨eg_X7_init_72.2.2.2.2.2.1, rfl⟩
theorem d_X7_init_157 : zDj m_X7_init 157 (.goto) 160 136 := ⟨-21, eg_X7_init_72.2.2.2.2.2.2.1, rfl, by decide⟩
theorem d_X7_init_160 : decode (zcc m_X7_init) 160 = .ok (.return_, 1) := eg_X7_init_72.2.2.2.2.2.2.2
set_option maxRecDepth 20000 in
theorem eg_X7_feed_0 : decode (zcc m_X7_feed) 0 = .ok (.aload_n 0, 1) ∧ decode (zcc m_X7_feed) 1 = .ok (.getfield 12, 3) ∧ decode (zcc m_X7_feed) 4 = .ok (.lload_n 1, 1) ∧ decode (zcc m_X7_feed) 5 = .ok (.invokevirtual 71, 3) ∧ decode (zcc m_X7_feed) 8 = .ok (.ireturn, 1) := by decide +kernel
theorem d_X7_feed_0 : zD m_X7_feed 0 (.aload_n 0) 1 1 := ⟨eg_X7_feed_0.1, rfl⟩
theorem d_X7_feed_1 : zD m_X7_feed 1 (.getfield 12) 3 4 := ⟨eg_X7_feed_0.2.1, rfl⟩
theorem d_X7_feed_4 : zD m_X7_feed 4 (.lload_n 1) 1 5 := ⟨eg_X7_feed_0.2.2.1, rfl⟩
theorem d_X7_feed_5 : zD m_X7_feed 5 (.invokevirtual 71) 3 8 := ⟨eg_X7_feed_0.2.2.2.1, rfl⟩
theorem d_X7_feed_8 : decode (zcc m_X7_feed) 8 = .ok (.ireturn, 1) := eg_X7_feed_0.2.2.2.2
set_option maxRecDepth 20000 in
theorem eg_X7_end_0 : decode (zcc m_X7_end) 0 = .ok (.iload_n 1, 1) ∧ decode (zcc m_X7_end) 1 = .ok (.ifCond .lt (14), 3) ∧ decode (zcc m_X7_end) 4 = .ok (.iload_n 1, 1) ∧ decode (zcc m_X7_end) 5 = .ok (.aload_n 0, 1) ∧ decode (zcc m_X7_end) 6 = .ok (.getfield 12, 3) ∧ decode (zcc m_X7_end) 9 = .ok (.getfield 75, 3) ∧ decode (zcc m_X7_end) 12 = .ok (.if_icmp .le (5), 3) ∧ decode (zcc m_X7_end) 15 = .ok (.iconst (-1), 1) := by decide +kernel
set_option maxRecDepth 20000 in
theorem eg_X7_end_8 : decode (zcc m_X7_end) 16 = .ok (.ireturn, 1) ∧ decode (zcc m_X7_end) 17 = .ok (.aload_n 0, 1) ∧ decode (zcc m_X7_end) 18 = .ok (.getfield 12, 3) ∧ decode (zcc m_X7_end) 21 = .ok (.getfield 75, 3) ∧ decode (zcc m_X7_end) 24 = .ok (.istore_n 2, 1) ∧ decode (zcc m_X7_end) 25 = .ok (.aload_n 0, 1) ∧ decode (zcc m_X7_end) 26 = .ok (.getfield 12, 3) ∧ decode (zcc m_X7_end) 29 = .ok (.iload_n 1, 1) := by decide +kernel
set_option maxRecDepth 20000 in
theorem eg_X7_end_16 : decode (zcc m_X7_end) 30 = .ok (.putfield 75, 3) ∧ decode (zcc m_X7_end) 33 = .ok (.iload_n 2, 1) ∧ decode (zcc m_X7_end) 34 = .ok (.ireturn, 1) := by decide +kernel
theorem d_X7_end_0 : zD m_X7_end 0 (.iload_n 1) 1 1 := ⟨eg_X7_end_0.1, rfl⟩
theorem d_X7_end_1 : zDj m_X7_end 1 (.ifCond .lt) 4 15 := ⟨14, eg_X7_end_0.2.1, rfl, by decide⟩
theorem d_X7_end_4 : zD m_X7_end 4 (.iload_n 1) 1 5 := ⟨eg_X7_end_0.2.2.1, rfl⟩
theorem d_X7_end_5 : zD m_X7_end 5 (.aload_n 0) 1 6 := ⟨eg_X7_end_0.2.2.2.1, rfl⟩
theorem d_X7_end_6 : zD m_X7_end 6 (.getfield 12) 3 9 := ⟨eg_X7_end_0.2.2.2.2.1, rfl⟩
theorem d_X7_end_9 : zD m_X7_end 9 (.getfield 75) 3 12 := ⟨eg_X7_end_0.2.2.2.2.2.1, rfl⟩
theorem d_X7_end_12 : zDj m_X7_end 12 (.if_icmp .le) 15 17 := ⟨5, eg_X7_end_0.2.2.2.2.2.2.1, rfl, by decide⟩
theorem d_X7_end_15 : zD m_X7_end 15 (.iconst (-1)) 1 16 := ⟨eg_X7_end_0.2.2.2.2.2.2.2, rfl⟩
theorem d_X7_end_16 : decode (zcc m_X7_end) 16 = .ok (.ireturn, 1) := eg_X7_end_8.1
theorem d_X7_end_17 : zD m_X7_end 17 (.aload_n 0) 1 18 := ⟨eg_X7_end_8.2.1, rfl⟩
theorem d_X7_end_18 : zD m_X7_end 18 (.getfield 12) 3 21 := ⟨eg_X7_end_8.2.2.1, rfl⟩
theorem d_X7_end_21 : zD m_X7_end 21 (.getfield 75) 3 24 := ⟨eg_X7_end_8.2.2.2.1, rfl⟩
theorem d_X7_end_24 : zD m_X7_end 24 (.istore_n 2) 1 25 := ⟨eg_X7_end_8.2.2.2.2.1, rfl⟩
theorem d_X7_end_25 : zD m_X7_end 25 (.aload_n 0) 1 26 := ⟨eg_X7_end_8.2.2.2.2.2.1, rfl⟩
theorem d_X7_end_26 : zD m_X7_end 26 (.getfield 12) 3 29 := ⟨eg_X7_end_8.2.2.2.2.2.2.1, rfl⟩
theorem d_X7_end_29 : zD m_X7_end 29 (.iload_n 1) 1 30 := ⟨eg_X7_end_8.2.2.2.2.2.2.2, rfl⟩
theorem d_X7_end_30 : zD m_X7_end 30 (.putfield 75) 3 33 := ⟨eg_X7_end_16.1, rfl⟩
theorem d_X7_end_33 : zD m_X7_end 33 (.iload_n 2) 1 34 := ⟨eg_X7_end_16.2.1, rfl⟩
theorem d_X7_end_34 : decode (zcc m_X7_end) 34 = .ok (.ireturn, 1) := eg_X7_end_16.2.2
set_option maxRecDepth 20000 in
theorem eg_X7_text_0 : decode (zcc m_X7_text) 0 = .ok (.aload_n 0, 1) ∧ decode (zcc m_X7_text) 1 = .ok (.getfield 28, 3) ∧ decode (zcc m_X7_text) 4 = .ok (.invokevirtual 79, 3) ∧ decode (zcc m_X7_text) 7 = .ok (.istore_n 1, 1) ∧ decode (zcc m_X7_text) 8 = .ok (.aload_n 0, 1) ∧ decode (zcc m_X7_text) 9 = .ok (.getfield 12, 3) ∧ decode (zcc m_X7_text) 12 = .ok (.iconst 0, 1) ∧ decode (zcc m_X7_text) 13 = .ok (.putfield 75, 3) := by decide +kernel
set_option maxRecDepth 20000 in
theorem eg_X7_text_8 : decode (zcc m_X7_text) 16 = .ok (.aload_n 0, 1) ∧ decode (zcc m_X7_text) 17 = .ok (.getfield 28, 3) ∧ decode (zcc m_X7_text) 20 = .ok (.getfield 83, 3) ∧ decode (zcc m_X7_text) 23 = .ok (.ifCond .ne (7), 3) ∧ decode (zcc m_X7_text) 26 = .ok (.aload_n 0, 1) ∧ decode (zcc m_X7_text) 27 = .ok (.invokevirtual 86, 3) ∧ decode (zcc m_X7_text) 30 = .ok (.iload_n 1, 1) ∧ decode (zcc m_X7_text) 31 = .ok (.ireturn, 1) := by decide +kernel
theorem d_X7_text_0 : zD m_X7_text 0 (.aload_n 0) 1 1 := ⟨eg_X7_text_0.1, rfl⟩
theorem d_X7_text_1 : zD m_X7_text 1 (.getfield 28) 3 4 := ⟨eg_X7_text_0.2.1, rfl⟩
theorem d_X7_text_4 : zD m_X7_text 4 (.invokevirtual 79) 3 7 := ⟨eg_X7_text_0.2.2.1, rfl⟩
theorem d_X7_text_7 : zD m_X7_text 7 (.istore_n 1) 1 8 := ⟨eg_X7_text_0.2.2.2.1, rfl⟩
theorem d_X7_text_8 : zD m_X7_text 8 (.aload_n 0) 1 9 := ⟨eg_X7_text_0.2.2.2.2.1, rfl⟩
theorem d_X7_text_9 : zD m_X7_text 9 (.getfield 12) 3 12 := ⟨eg_X7_text_0.2.2.2.2.2.1, rfl⟩
theorem d_X7_text_12 : zD m_X7_text 12 (.iconst 0) 1 13 := ⟨eg_X7_text_0.2.2.2.2.2.2.1, rfl⟩
theorem d_X7_text_13 : zD m_X7_text 13 (.putfield 75) 3 16 := ⟨eg_X7_text_0.2.2.2.2.2.2.2, rfl⟩
theorem d_X7_text_16 : zD m_X7_text 16 (.aload_n 0) 1 17 := ⟨eg_X7_text_8.1, rfl⟩
theorem d_X7_text_17 : zD m_X7_text 17 (.getfield 28) 3 20 := ⟨eg_X7_text_8.2.1, rfl⟩
theorem d_X7_text_20 : zD m_X7_text 20 (.getfield 83) 3 23 := ⟨eg_X7_text_8.2.2.1, rfl⟩
theorem d_X7_text_23 : zDj m_X7_text 23 (.ifCond .ne) 26 30 := ⟨7, eg_X7_text_8.2.2.2.1, rfl, by decide⟩
theorem d_X7_text_26 : zD m_X7_text 26 (.aload_n 0) 1 27 := ⟨eg_X7_text_8.2.2.2.2.1, rfl⟩
theorem d_X7_text_27 : zD m_X7_text 27 (.invokevirtual 86) 3 30 := ⟨eg_X7_text_8.2.2.2.2.2.1, rfl⟩
theorem d_X7_text_30 : zD m_X7_text 30 (.iload_n 1) 1 31 := ⟨eg_X7_text_8.2.2.2.2.2.2.1, rfl⟩
theorem d_X7_text_31 : decode (zcc m_X7_text) 31 = .ok (.ireturn, 1) := eg_X7_text_8.2.2.2.2.2.2.2
set_option maxRecDepth 20000 in
theorem eg_X7_fault_0 : decode (zcc m_X7_fault) 0 = .ok (.aload_n 0, 1) ∧ decode (zcc m_X7_fault) 1 = .ok (.getfield 28, 3) ∧ decode (zcc m_X7_fault) 4 = .ok (.getfield 83, 3) ∧ decode (zcc m_X7_fault) 7 = .ok (.ireturn, 1) := by decide +kernel
theorem d_X7_fault_0 : zD m_X7_fault 0 (.aload_n 0) 1 1 := ⟨eg_X7_fault_0.1, rfl⟩
theorem d_X7_fault_1 : zD m_X7_fault 1 (.getfield 28) 3 4 := ⟨eg_X7_fault_0.2.1, rfl⟩
theorem d_X7_fault_4 : zD m_X7_fault 4 (.getfield 83) 3 7 := ⟨eg_X7_fault_0.2.2.1, rfl⟩
theorem d_X7_fault_7 : decode (zcc m_X7_fault) 7 = .ok (.ireturn, 1) := eg_X7_fault_0.2.2.2
set_option maxRecDepth 20000 in
theorem eg_X7_rule_0 : decode (zcc m_X7_rule) 0 = .ok (.iload_n 1, 1) ∧ decode (zcc m_X7_rule) 1 = .ok (.ifCond .lt (9), 3) ∧ decode (zcc m_X7_rule) 4 = .ok (.iload_n 1, 1) ∧ decode (zcc m_X7_rule) 5 = .ok (.bipush 7, 2) ∧ decode (zcc m_X7_rule) 7 = .ok (.if_icmp .lt (7), 3) ∧ decode (zcc m_X7_rule) 10 = .ok (.iconst (-1), 1) ∧ decode (zcc m_X7_rule) 11 = .ok (.goto (12), 3) ∧ decode (zcc m_X7_rule) 14 = .ok (.aload_n 0, 1) := by decide +kernel
set_option maxRecDepth 20000 in
theorem eg_X7_rule_8 : decode (zcc m_X7_rule) 15 = .ok (.getfield 19, 3) ∧ decode (zcc m_X7_rule) 18 = .ok (.getfield 89, 3) ∧ decode (zcc m_X7_rule) 21 = .ok (.iload_n 1, 1) ∧ decode (zcc m_X7_rule) 22 = .ok (.iaload, 1) ∧ decode (zcc m_X7_rule) 23 = .ok (.ireturn, 1) := by decide +kernel
theorem d_X7_rule_0 : zD m_X7_rule 0 (.iload_n 1) 1 1 := ⟨eg_X7_rule_0.1, rfl⟩
theorem d_X7_rule_1 : zDj m_X7_rule 1 (.ifCond .lt) 4 10 := ⟨9, eg_X7_rule_0.2.1, rfl, by decide⟩
theorem d_X7_rule_4 : zD m_X7_rule 4 (.iload_n 1) 1 5 := ⟨eg_X7_rule_0.2.2.1, rfl⟩
theorem d_X7_rule_5 : zD m_X7_rule 5 (.bipush 7) 2 7 := ⟨eg_X7_rule_0.2.2.2.1, rfl⟩
theorem d_X7_rule_7 : zDj m_X7_rule 7 (.if_icmp .lt) 10 14 := ⟨7, eg_X7_rule_0.2.2.2.2.1, rfl, by decide⟩
theorem d_X7_rule_10 : zD m_X7_rule 10 (.iconst (-1)) 1 11 := ⟨eg_X7_rule_0.2.2.2.2.2.1, rfl⟩
theorem d_X7_rule_11 : zDj m_X7_rule 11 (.goto) 14 23 := ⟨12, eg_X7_rule_0.2.2.2.2.2.2.1, rfl, by decide⟩
theorem d_X7_rule_14 : zD m_X7_rule 14 (.aload_n 0) 1 15 := ⟨eg_X7_rule_0.2.2.2.2.2.2.2, rfl⟩
theorem d_X7_rule_15 : zD m_X7_rule 15 (.getfield 19) 3 18 := ⟨eg_X7_rule_8.1, rfl⟩
theorem d_X7_rule_18 : zD m_X7_rule 18 (.getfield 89) 3 21 := ⟨eg_X7_rule_8.2.1, rfl⟩
theorem d_X7_rule_21 : zD m_X7_rule 21 (.iload_n 1) 1 22 := ⟨eg_X7_rule_8.2.2.1, rfl⟩
theorem d_X7_rule_22 : zD m_X7_rule 22 (.iaload) 1 23 := ⟨eg_X7_rule_8.2.2.2.1, rfl⟩
theorem d_X7_rule_23 : decode (zcc m_X7_rule) 23 = .ok (.ireturn, 1) := eg_X7_rule_8.2.2.2.2
set_option maxRecDepth 20000 in
theorem eg_X7_well_0 : decode (zcc m_X7_well) 0 = .ok (.iload_n 1, 1) ∧ decode (zcc m_X7_well) 1 = .ok (.invokestatic 93, 3) ∧ decode (zcc m_X7_well) 4 = .ok (.ifCond .ne (5), 3) ∧ decode (zcc m_X7_well) 7 = .ok (.iconst (-1), 1) ∧ decode (zcc m_X7_well) 8 = .ok (.ireturn, 1) ∧ decode (zcc m_X7_well) 9 = .ok (.iload_n 2, 1) ∧ decode (zcc m_X7_well) 10 = .ok (.tableswitch 84 0 4 #[34, 44, 54, 64, 74], 34) ∧ decode (zcc m_X7_well) 44 = .ok (.aload_n 0, 1) := by decide +kernel
set_option maxRecDepth 20000 in
theorem eg_X7_well_8 : decode (zcc m_X7_well) 45 = .ok (.getfield 35, 3) ∧ decode (zcc m_X7_well) 48 = .ok (.getfield 97, 3) ∧ decode (zcc m_X7_well) 51 = .ok (.iload_n 1, 1) ∧ decode (zcc m_X7_well) 52 = .ok (.iaload, 1) ∧ decode (zcc m_X7_well) 53 = .ok (.ireturn, 1) ∧ decode (zcc m_X7_well) 54 = .ok (.aload_n 0, 1) ∧ decode (zcc m_X7_well) 55 = .ok (.getfield 35, 3) ∧ decode (zcc m_X7_well) 58 = .ok (.getfield 100, 3) := by decide +kernel
set_option maxRecDepth 20000 in
theorem eg_X7_well_16 : decode (zcc m_X7_well) 61 = .ok (.iload_n 1, 1) ∧ decode (zcc m_X7_well) 62 = .ok (.iaload, 1) ∧ decode (zcc m_X7_well) 63 = .ok (.ireturn, 1) ∧ decode (zcc m_X7_well) 64 = .ok (.aload_n 0, 1) ∧ decode (zcc m_X7_well) 65 = .ok (.getfield 19, 3) ∧ decode (zcc m_X7_well) 68 = .ok (.getfield 103, 3) ∧ decode (zcc m_X7_well) 71 = .ok (.iload_n 1, 1) ∧ decode (zcc m_X7_well) 72 = .ok (.iaload, 1) := by decide +kernel
set_option maxRecDepth 20000 in
theorem eg_X7_well_24 : decode (zcc m_X7_well) 73 = .ok (.ireturn, 1) ∧ decode (zcc m_X7_well) 74 = .ok (.aload_n 0, 1) ∧ decode (zcc m_X7_well) 75 = .ok (.getfield 19, 3) ∧ decode (zcc m_X7_well) 78 = .ok (.getfield 106, 3) ∧ decode (zcc m_X7_well) 81 = .ok (.iload_n 1, 1) ∧ decode (zcc m_X7_well) 82 = .ok (.iaload, 1) ∧ decode (zcc m_X7_well) 83 = .ok (.ireturn, 1) ∧ decode (zcc m_X7_well) 84 = .ok (.aload_n 0, 1) := by decide +kernel
set_option maxRecDepth 20000 in
theorem eg_X7_well_32 : decode (zcc m_X7_well) 85 = .ok (.getfield 35, 3) ∧ decode (zcc m_X7_well) 88 = .ok (.getfield 109, 3) ∧ decode (zcc m_X7_well) 91 = .ok (.iload_n 1, 1) ∧ decode (zcc m_X7_well) 92 = .ok (.iaload, 1) ∧ decode (zcc m_X7_well) 93 = .ok (.ireturn, 1) ∧ decode (zcc m_X7_well) 94 = .ok (.iconst (-1), 1) ∧ decode (zcc m_X7_well) 95 = .ok (.ireturn, 1) := by decide +kernel
theorem d_X7_well_0 : zD m_X7_well 0 (.iload_n 1) 1 1 := ⟨eg_X7_well_0.1, rfl⟩
theorem d_X7_well_1 : zD m_X7_well 1 (.invokestatic 93) 3 4 := ⟨eg_X7_well_0.2.1, rfl⟩
theorem d_X7_well_4 : zDj m_X7_well 4 (.ifCond .ne) 7 9 := ⟨5, eg_X7_well_0.2.2.1, rfl, by decide⟩
theorem d_X7_well_7 : zD m_X7_well 7 (.iconst (-1)) 1 8 := ⟨eg_X7_well_0.2.2.2.1, rfl⟩
theorem d_X7_well_8 : decode (zcc m_X7_well) 8 = .ok (.ireturn, 1) := eg_X7_well_0.2.2.2.2.1
theorem d_X7_well_9 : zD m_X7_well 9 (.iload_n 2) 1 10 := ⟨eg_X7_well_0.2.2.2.2.2.1, rfl⟩
theorem d_X7_well_10 : decode (zcc m_X7_well) 10 = .ok (.tableswitch 84 0 4 #[34, 44, 54, 64, 74], 34) := eg_X7_well_0.2.2.2.2.2.2.1
theorem d_X7_well_44 : zD m_X7_well 44 (.aload_n 0) 1 45 := ⟨eg_X7_well_0.2.2.2.2.2.2.2, rfl⟩
theorem d_X7_well_45 : zD m_X7_well 45 (.getfield 35) 3 48 := ⟨eg_X7_well_8.1, rfl⟩
theorem d_X7_well_48 : zD m_X7_well 48 (.getfield 97) 3 51 := ⟨eg_X7_well_8.2.1, rfl⟩
theorem d_X7_well_51 : zD m_X7_well 51 (.iload_n 1) 1 52 := ⟨eg_X7_well_8.2.2.1, rfl⟩
theorem d_X7_well_52 : zD m_X7_well 52 (.iaload) 1 53 := ⟨eg_X7_well_8.2.2.2.1, rfl⟩
theorem d_X7_well_53 : decode (zcc m_X7_well) 53 = .ok (.ireturn, 1) := eg_X7_well_8.2.2.2.2.1
theorem d_X7_well_54 : zD m_X7_well 54 (.aload_n 0) 1 55 := ⟨eg_X7_well_8.2.2.2.2.2.1, rfl⟩
theorem d_X7_well_55 : zD m_X7_well 55 (.getfield 35) 3 58 := ⟨eg_X7_well_8.2.2.2.2.2.2.1, rfl⟩
theorem d_X7_well_58 : zD m_X7_well 58 (.getfield 100) 3 61 := ⟨eg_X7_well_8.2.2.2.2.2.2.2, rfl⟩
theorem d_X7_well_61 : zD m_X7_well 61 (.iload_n 1) 1 62 := ⟨eg_X7_well_16.1, rfl⟩
theorem d_X7_well_62 : zD m_X7_well 62 (.iaload) 1 63 := ⟨eg_X7_well_16.2.1, rfl⟩
theorem d_X7_well_63 : decode (zcc m_X7_well) 63 = .ok (.ireturn, 1) := eg_X7_well_16.2.2.1
theorem d_X7_well_64 : zD m_X7_well 64 (.aload_n 0) 1 65 := ⟨eg_X7_well_16.2.2.2.1, rfl⟩
theorem d_X7_well_65 : zD m_X7_well 65 (.getfield 19) 3 68 := ⟨eg_X7_well_16.2.2.2.2.1, rfl⟩
theorem d_X7_well_68 : zD m_X7_well 68 (.getfield 103) 3 71 := ⟨eg_X7_well_16.2.2.2.2.2.1, rfl⟩
theorem d_X7_well_71 : zD m_X7_well 71 (.iload_n 1) 1 72 := ⟨eg_X7_well_16.2.2.2.2.2.2.1, rfl⟩
theorem d_X7_well_72 : zD m_X7_well 72 (.iaload) 1 73 := ⟨eg_X7_well_16.2.2.2.2.2.2.2, rfl⟩
theorem d_X7_well_73 : decode (zcc m_X7_well) 73 = .ok (.ireturn, 1) := eg_X7_well_24.1
theorem d_X7_well_74 : zD m_X7_well 74 (.aload_n 0) 1 75 := ⟨eg_X7_well_24.2.1, rfl⟩
theorem d_X7_well_75 : zD m_X7_well 75 (.getfield 19) 3 78 := ⟨eg_X7_well_24.2.2.1, rfl⟩
theorem d_X7_well_78 : zD m_X7_well 78 (.getfield 106) 3 81 := ⟨eg_X7_well_24.2.2.2.1, rfl⟩
theorem d_X7_well_81 : zD m_X7_well 81 (.iload_n 1) 1 82 := ⟨eg_X7_well_24.2.2.2.2.1, rfl⟩
theorem d_X7_well_82 : zD m_X7_well 82 (.iaload) 1 83 := ⟨eg_X7_well_24.2.2.2.2.2.1, rfl⟩
theorem d_X7_well_83 : decode (zcc m_X7_well) 83 = .ok (.ireturn, 1) := eg_X7_well_24.2.2.2.2.2.2.1
theorem d_X7_well_84 : zD m_X7_well 84 (.aload_n 0) 1 85 := ⟨eg_X7_well_24.2.2.2.2.2.2.2, rfl⟩
theorem d_X7_well_85 : zD m_X7_well 85 (.getfield 35) 3 88 := ⟨eg_X7_well_32.1, rfl⟩
theorem d_X7_well_88 : zD m_X7_well 88 (.getfield 109) 3 91 := ⟨eg_X7_well_32.2.1, rfl⟩
theorem d_X7_well_91 : zD m_X7_well 91 (.iload_n 1) 1 92 := ⟨eg_X7_well_32.2.2.1, rfl⟩
theorem d_X7_well_92 : zD m_X7_well 92 (.iaload) 1 93 := ⟨eg_X7_well_32.2.2.2.1, rfl⟩
theorem d_X7_well_93 : decode (zcc m_X7_well) 93 = .ok (.ireturn, 1) := eg_X7_well_32.2.2.2.2.1
theorem d_X7_well_94 : zD m_X7_well 94 (.iconst (-1)) 1 95 := ⟨eg_X7_well_32.2.2.2.2.2.1, rfl⟩
theorem d_X7_well_95 : decode (zcc m_X7_well) 95 = .ok (.ireturn, 1) := eg_X7_well_32.2.2.2.2.2.2
set_option maxRecDepth 20000 in
theorem eg_X7_light_0 : decode (zcc m_X7_light) 0 = .ok (.iload_n 1, 1) ∧ decode (zcc m_X7_light) 1 = .ok (.iload_n 2, 1) ∧ decode (zcc m_X7_light) 2 = .ok (.invokestatic 112, 3) ∧ decode (zcc m_X7_light) 5 = .ok (.ifCond .ne (5), 3) ∧ decode (zcc m_X7_light) 8 = .ok (.iconst (-1), 1) ∧ decode (zcc m_X7_light) 9 = .ok (.ireturn, 1) ∧ decode (zcc m_X7_light) 10 = .ok (.aload_n 0, 1) ∧ decode (zcc m_X7_light) 11 = .ok (.getfield 35, 3) := by decide +kernel
set_option maxRecDepth 20000 in
theorem eg_X7_light_8 : decode (zcc m_X7_light) 14 = .ok (.getfield 100, 3) ∧ decode (zcc m_X7_light) 17 = .ok (.iload_n 1, 1) ∧ decode (zcc m_X7_light) 18 = .ok (.iaload, 1) ∧ decode (zcc m_X7_light) 19 = .ok (.istore_n 3, 1) ∧ decode (zcc m_X7_light) 20 = .ok (.aload_n 0, 1) ∧ decode (zcc m_X7_light) 21 = .ok (.getfield 35, 3) ∧ decode (zcc m_X7_light) 24 = .ok (.getfield 100, 3) ∧ decode (zcc m_X7_light) 27 = .ok (.iload_n 1, 1) := by decide +kernel
set_option maxRecDepth 20000 in
theorem eg_X7_light_16 : decode (zcc m_X7_light) 28 = .ok (.iload_n 2, 1) ∧ decode (zcc m_X7_light) 29 = .ok (.iastore, 1) ∧ decode (zcc m_X7_light) 30 = .ok (.iload_n 3, 1) ∧ decode (zcc m_X7_light) 31 = .ok (.ireturn, 1) := by decide +kernel
theorem d_X7_light_0 : zD m_X7_light 0 (.iload_n 1) 1 1 := ⟨eg_X7_light_0.1, rfl⟩
theorem d_X7_light_1 : zD m_X7_light 1 (.iload_n 2) 1 2 := ⟨eg_X7_light_0.2.1, rfl⟩
theorem d_X7_light_2 : zD m_X7_light 2 (.invokestatic 112) 3 5 := ⟨eg_X7_light_0.2.2.1, rfl⟩
theorem d_X7_light_5 : zDj m_X7_light 5 (.ifCond .ne) 8 10 := ⟨5, eg_X7_light_0.2.2.2.1, rfl, by decide⟩
theorem d_X7_light_8 : zD m_X7_light 8 (.iconst (-1)) 1 9 := ⟨eg_X7_light_0.2.2.2.2.1, rfl⟩
theorem d_X7_light_9 : decode (zcc m_X7_light) 9 = .ok (.ireturn, 1) := eg_X7_light_0.2.2.2.2.2.1
theorem d_X7_light_10 : zD m_X7_light 10 (.aload_n 0) 1 11 := ⟨eg_X7_light_0.2.2.2.2.2.2.1, rfl⟩
theorem d_X7_light_11 : zD m_X7_light 11 (.getfield 35) 3 14 := ⟨eg_X7_light_0.2.2.2.2.2.2.2, rfl⟩
theorem d_X7_light_14 : zD m_X7_light 14 (.getfield 100) 3 17 := ⟨eg_X7_light_8.1, rfl⟩
theorem d_X7_light_17 : zD m_X7_light 17 (.iload_n 1) 1 18 := ⟨eg_X7_light_8.2.1, rfl⟩
theorem d_X7_light_18 : zD m_X7_light 18 (.iaload) 1 19 := ⟨eg_X7_light_8.2.2.1, rfl⟩
theorem d_X7_light_19 : zD m_X7_light 19 (.istore_n 3) 1 20 := ⟨eg_X7_light_8.2.2.2.1, rfl⟩
theorem d_X7_light_20 : zD m_X7_light 20 (.aload_n 0) 1 21 := ⟨eg_X7_light_8.2.2.2.2.1, rfl⟩
theorem d_X7_light_21 : zD m_X7_light 21 (.getfield 35) 3 24 := ⟨eg_X7_light_8.2.2.2.2.2.1, rfl⟩
theorem d_X7_light_24 : zD m_X7_light 24 (.getfield 100) 3 27 := ⟨eg_X7_light_8.2.2.2.2.2.2.1, rfl⟩
theorem d_X7_light_27 : zD m_X7_light 27 (.iload_n 1) 1 28 := ⟨eg_X7_light_8.2.2.2.2.2.2.2, rfl⟩
theorem d_X7_light_28 : zD m_X7_light 28 (.iload_n 2) 1 29 := ⟨eg_X7_light_16.1, rfl⟩
theorem d_X7_light_29 : zD m_X7_light 29 (.iastore) 1 30 := ⟨eg_X7_light_16.2.1, rfl⟩
theorem d_X7_light_30 : zD m_X7_light 30 (.iload_n 3) 1 31 := ⟨eg_X7_light_16.2.2.1, rfl⟩
theorem d_X7_light_31 : decode (zcc m_X7_light) 31 = .ok (.ireturn, 1) := eg_X7_light_16.2.2.2
set_option maxRecDepth 20000 in
theorem eg_X7_expose_0 : decode (zcc m_X7_expose) 0 = .ok (.iload_n 1, 1) ∧ decode (zcc m_X7_expose) 1 = .ok (.invokestatic 116, 3) ∧ decode (zcc m_X7_expose) 4 = .ok (.ifCond .ne (5), 3) ∧ decode (zcc m_X7_expose) 7 = .ok (.iconst (-1), 1) ∧ decode (zcc m_X7_expose) 8 = .ok (.ireturn, 1) ∧ decode (zcc m_X7_expose) 9 = .ok (.aload_n 0, 1) ∧ decode (zcc m_X7_expose) 10 = .ok (.getfield 35, 3) ∧ decode (zcc m_X7_expose) 13 = .ok (.iload_n 1, 1) := by decide +kernel
set_option maxRecDepth 20000 in
theorem eg_X7_expose_8 : decode (zcc m_X7_expose) 14 = .ok (.aload_n 0, 1) ∧ decode (zcc m_X7_expose) 15 = .ok (.getfield 19, 3) ∧ decode (zcc m_X7_expose) 18 = .ok (.invokevirtual 119, 3) ∧ decode (zcc m_X7_expose) 21 = .ok (.aload_n 0, 1) ∧ decode (zcc m_X7_expose) 22 = .ok (.getfield 35, 3) ∧ decode (zcc m_X7_expose) 25 = .ok (.getfield 97, 3) ∧ decode (zcc m_X7_expose) 28 = .ok (.invokestatic 123, 3) ∧ decode (zcc m_X7_expose) 31 = .ok (.ireturn, 1) := by decide +kernel
theorem d_X7_expose_0 : zD m_X7_expose 0 (.iload_n 1) 1 1 := ⟨eg_X7_expose_0.1, rfl⟩
theorem d_X7_expose_1 : zD m_X7_expose 1 (.invokestatic 116) 3 4 := ⟨eg_X7_expose_0.2.1, rfl⟩
theorem d_X7_expose_4 : zDj m_X7_expose 4 (.ifCond .ne) 7 9 := ⟨5, eg_X7_expose_0.2.2.1, rfl, by decide⟩
theorem d_X7_expose_7 : zD m_X7_expose 7 (.iconst (-1)) 1 8 := ⟨eg_X7_expose_0.2.2.2.1, rfl⟩
theorem d_X7_expose_8 : decode (zcc m_X7_expose) 8 = .ok (.ireturn, 1) := eg_X7_expose_0.2.2.2.2.1
theorem d_X7_expose_9 : zD m_X7_expose 9 (.aload_n 0) 1 10 := ⟨eg_X7_expose_0.2.2.2.2.2.1, rfl⟩
theorem d_X7_expose_10 : zD m_X7_expose 10 (.getfield 35) 3 13 := ⟨eg_X7_expose_0.2.2.2.2.2.2.1, rfl⟩
theorem d_X7_expose_13 : zD m_X7_expose 13 (.iload_n 1) 1 14 := ⟨eg_X7_expose_0.2.2.2.2.2.2.2, rfl⟩
theorem d_X7_expose_14 : zD m_X7_expose 14 (.aload_n 0) 1 15 := ⟨eg_X7_expose_8.1, rfl⟩
theorem d_X7_expose_15 : zD m_X7_expose 15 (.getfield 19) 3 18 := ⟨eg_X7_expose_8.2.1, rfl⟩
theorem d_X7_expose_18 : zD m_X7_expose 18 (.invokevirtual 119) 3 21 := ⟨eg_X7_expose_8.2.2.1, rfl⟩
theorem d_X7_expose_21 : zD m_X7_expose 21 (.aload_n 0) 1 22 := ⟨eg_X7_expose_8.2.2.2.1, rfl⟩
theorem d_X7_expose_22 : zD m_X7_expose 22 (.getfield 35) 3 25 := ⟨eg_X7_expose_8.2.2.2.2.1, rfl⟩
theorem d_X7_expose_25 : zD m_X7_expose 25 (.getfield 97) 3 28 := ⟨eg_X7_expose_8.2.2.2.2.2.1, rfl⟩
theorem d_X7_expose_28 : zD m_X7_expose 28 (.invokestatic 123) 3 31 := ⟨eg_X7_expose_8.2.2.2.2.2.2.1, rfl⟩
theorem d_X7_expose_31 : decode (zcc m_X7_expose) 31 = .ok (.ireturn, 1) := eg_X7_expose_8.2.2.2.2.2.2.2
set_option maxRecDepth 20000 in
theorem eg_X7_down_0 : decode (zcc m_X7_down) 0 = .ok (.aload_n 0, 1) ∧ decode (zcc m_X7_down) 1 = .ok (.getfield 35, 3) ∧ decode (zcc m_X7_down) 4 = .ok (.aload_n 0, 1) ∧ decode (zcc m_X7_down) 5 = .ok (.getfield 19, 3) ∧ decode (zcc m_X7_down) 8 = .ok (.iconst 1, 1) ∧ decode (zcc m_X7_down) 9 = .ok (.invokevirtual 127, 3) ∧ decode (zcc m_X7_down) 12 = .ok (.aload_n 0, 1) ∧ decode (zcc m_X7_down) 13 = .ok (.getfield 35, 3) := by decide +kernel
set_option maxRecDepth 20000 in
theorem eg_X7_down_8 : decode (zcc m_X7_down) 16 = .ok (.getfield 131, 3) ∧ decode (zcc m_X7_down) 19 = .ok (.invokestatic 123, 3) ∧ decode (zcc m_X7_down) 22 = .ok (.ireturn, 1) := by decide +kernel
theorem d_X7_down_0 : zD m_X7_down 0 (.aload_n 0) 1 1 := ⟨eg_X7_down_0.1, rfl⟩
theorem d_X7_down_1 : zD m_X7_down 1 (.getfield 35) 3 4 := ⟨eg_X7_down_0.2.1, rfl⟩
theorem d_X7_down_4 : zD m_X7_down 4 (.aload_n 0) 1 5 := ⟨eg_X7_down_0.2.2.1, rfl⟩
theorem d_X7_down_5 : zD m_X7_down 5 (.getfield 19) 3 8 := ⟨eg_X7_down_0.2.2.2.1, rfl⟩
theorem d_X7_down_8 : zD m_X7_down 8 (.iconst 1) 1 9 := ⟨eg_X7_down_0.2.2.2.2.1, rfl⟩
theorem d_X7_down_9 : zD m_X7_down 9 (.invokevirtual 127) 3 12 := ⟨eg_X7_down_0.2.2.2.2.2.1, rfl⟩
theorem d_X7_down_12 : zD m_X7_down 12 (.aload_n 0) 1 13 := ⟨eg_X7_down_0.2.2.2.2.2.2.1, rfl⟩
theorem d_X7_down_13 : zD m_X7_down 13 (.getfield 35) 3 16 := ⟨eg_X7_down_0.2.2.2.2.2.2.2, rfl⟩
theorem d_X7_down_16 : zD m_X7_down 16 (.getfield 131) 3 19 := ⟨eg_X7_down_8.1, rfl⟩
theorem d_X7_down_19 : zD m_X7_down 19 (.invokestatic 123) 3 22 := ⟨eg_X7_down_8.2.1, rfl⟩
theorem d_X7_down_22 : decode (zcc m_X7_down) 22 = .ok (.ireturn, 1) := eg_X7_down_8.2.2
set_option maxRecDepth 20000 in
theorem eg_X7_read_0 : decode (zcc m_X7_read) 0 = .ok (.aload_n 0, 1) ∧ decode (zcc m_X7_read) 1 = .ok (.getfield 35, 3) ∧ decode (zcc m_X7_read) 4 = .ok (.invokevirtual 134, 3) ∧ decode (zcc m_X7_read) 7 = .ok (.aload_n 0, 1) ∧ decode (zcc m_X7_read) 8 = .ok (.getfield 19, 3) ∧ decode (zcc m_X7_read) 11 = .ok (.invokestatic 137, 3) ∧ decode (zcc m_X7_read) 14 = .ok (.ireturn, 1) := by decide +kernel
theorem d_X7_read_0 : zD m_X7_read 0 (.aload_n 0) 1 1 := ⟨eg_X7_read_0.1, rfl⟩
theorem d_X7_read_1 : zD m_X7_read 1 (.getfield 35) 3 4 := ⟨eg_X7_read_0.2.1, rfl⟩
theorem d_X7_read_4 : zD m_X7_read 4 (.invokevirtual 134) 3 7 := ⟨eg_X7_read_0.2.2.1, rfl⟩
theorem d_X7_read_7 : zD m_X7_read 7 (.aload_n 0) 1 8 := ⟨eg_X7_read_0.2.2.2.1, rfl⟩
theorem d_X7_read_8 : zD m_X7_read 8 (.getfield 19) 3 11 := ⟨eg_X7_read_0.2.2.2.2.1, rfl⟩
theorem d_X7_read_11 : zD m_X7_read 11 (.invokestatic 137) 3 14 := ⟨eg_X7_read_0.2.2.2.2.2.1, rfl⟩
theorem d_X7_read_14 : decode (zcc m_X7_read) 14 = .ok (.ireturn, 1) := eg_X7_read_0.2.2.2.2.2.2
set_option maxRecDepth 20000 in
theorem eg_X7_line_0 : decode (zcc m_X7_line) 0 = .ok (.iload_n 1, 1) ∧ decode (zcc m_X7_line) 1 = .ok (.invokestatic 141, 3) ∧ decode (zcc m_X7_line) 4 = .ok (.ifCond .eq (15), 3) ∧ decode (zcc m_X7_line) 7 = .ok (.aload_n 0, 1) ∧ decode (zcc m_X7_line) 8 = .ok (.getfield 35, 3) ∧ decode (zcc m_X7_line) 11 = .ok (.getfield 131, 3) ∧ decode (zcc m_X7_line) 14 = .ok (.iload_n 1, 1) ∧ decode (zcc m_X7_line) 15 = .ok (.iaload, 1) := by decide +kernel
set_option maxRecDepth 20000 in
theorem eg_X7_line_8 : decode (zcc m_X7_line) 16 = .ok (.goto (4), 3) ∧ decode (zcc m_X7_line) 19 = .ok (.iconst (-1), 1) ∧ decode (zcc m_X7_line) 20 = .ok (.ireturn, 1) := by decide +kernel
theorem d_X7_line_0 : zD m_X7_line 0 (.iload_n 1) 1 1 := ⟨eg_X7_line_0.1, rfl⟩
theorem d_X7_line_1 : zD m_X7_line 1 (.invokestatic 141) 3 4 := ⟨eg_X7_line_0.2.1, rfl⟩
theorem d_X7_line_4 : zDj m_X7_line 4 (.ifCond .eq) 7 19 := ⟨15, eg_X7_line_0.2.2.1, rfl, by decide⟩
theorem d_X7_line_7 : zD m_X7_line 7 (.aload_n 0) 1 8 := ⟨eg_X7_line_0.2.2.2.1, rfl⟩
theorem d_X7_line_8 : zD m_X7_line 8 (.getfield 35) 3 11 := ⟨eg_X7_line_0.2.2.2.2.1, rfl⟩
theorem d_X7_line_11 : zD m_X7_line 11 (.getfield 131) 3 14 := ⟨eg_X7_line_0.2.2.2.2.2.1, rfl⟩
theorem d_X7_line_14 : zD m_X7_line 14 (.iload_n 1) 1 15 := ⟨eg_X7_line_0.2.2.2.2.2.2.1, rfl⟩
theorem d_X7_line_15 : zD m_X7_line 15 (.iaload) 1 16 := ⟨eg_X7_line_0.2.2.2.2.2.2.2, rfl⟩
theorem d_X7_line_16 : zDj m_X7_line 16 (.goto) 19 20 := ⟨4, eg_X7_line_8.1, rfl, by decide⟩
theorem d_X7_line_19 : zD m_X7_line 19 (.iconst (-1)) 1 20 := ⟨eg_X7_line_8.2.1, rfl⟩
theorem d_X7_line_20 : decode (zcc m_X7_line) 20 = .ok (.ireturn, 1) := eg_X7_line_8.2.2
set_option maxRecDepth 20000 in
theorem eg_X7_now_0 : decode (zcc m_X7_now) 0 = .ok (.iload_n 1, 1) ∧ decode (zcc m_X7_now) 1 = .ok (.tableswitch 109 0 6 #[43, 55, 67, 79, 87, 95, 101], 43) ∧ decode (zcc m_X7_now) 44 = .ok (.aload_n 0, 1) ∧ decode (zcc m_X7_now) 45 = .ok (.getfield 35, 3) ∧ decode (zcc m_X7_now) 48 = .ok (.getfield 97, 3) ∧ decode (zcc m_X7_now) 51 = .ok (.invokestatic 123, 3) ∧ decode (zcc m_X7_now) 54 = .ok (.i2l, 1) ∧ decode (zcc m_X7_now) 55 = .ok (.lreturn, 1) := by decide +kernel
set_option maxRecDepth 20000 in
theorem eg_X7_now_8 : decode (zcc m_X7_now) 56 = .ok (.aload_n 0, 1) ∧ decode (zcc m_X7_now) 57 = .ok (.getfield 35, 3) ∧ decode (zcc m_X7_now) 60 = .ok (.getfield 131, 3) ∧ decode (zcc m_X7_now) 63 = .ok (.invokestatic 123, 3) ∧ decode (zcc m_X7_now) 66 = .ok (.i2l, 1) ∧ decode (zcc m_X7_now) 67 = .ok (.lreturn, 1) ∧ decode (zcc m_X7_now) 68 = .ok (.aload_n 0, 1) ∧ decode (zcc m_X7_now) 69 = .ok (.getfield 35, 3) := by decide +kernel
set_option maxRecDepth 20000 in
theorem eg_X7_now_16 : decode (zcc m_X7_now) 72 = .ok (.getfield 109, 3) ∧ decode (zcc m_X7_now) 75 = .ok (.invokestatic 123, 3) ∧ decode (zcc m_X7_now) 78 = .ok (.i2l, 1) ∧ decode (zcc m_X7_now) 79 = .ok (.lreturn, 1) ∧ decode (zcc m_X7_now) 80 = .ok (.aload_n 0, 1) ∧ decode (zcc m_X7_now) 81 = .ok (.getfield 35, 3) ∧ decode (zcc m_X7_now) 84 = .ok (.getfield 144, 3) ∧ decode (zcc m_X7_now) 87 = .ok (.lreturn, 1) := by decide +kernel
set_option maxRecDepth 20000 in
theorem eg_X7_now_24 : decode (zcc m_X7_now) 88 = .ok (.aload_n 0, 1) ∧ decode (zcc m_X7_now) 89 = .ok (.getfield 35, 3) ∧ decode (zcc m_X7_now) 92 = .ok (.getfield 148, 3) ∧ decode (zcc m_X7_now) 95 = .ok (.lreturn, 1) ∧ decode (zcc m_X7_now) 96 = .ok (.aload_n 0, 1) ∧ decode (zcc m_X7_now) 97 = .ok (.invokevirtual 151, 3) ∧ decode (zcc m_X7_now) 100 = .ok (.i2l, 1) ∧ decode (zcc m_X7_now) 101 = .ok (.lreturn, 1) := by decide +kernel
set_option maxRecDepth 20000 in
theorem eg_X7_now_32 : decode (zcc m_X7_now) 102 = .ok (.aload_n 0, 1) ∧ decode (zcc m_X7_now) 103 = .ok (.getfield 35, 3) ∧ decode (zcc m_X7_now) 106 = .ok (.getfield 154, 3) ∧ decode (zcc m_X7_now) 109 = .ok (.lreturn, 1) ∧ decode (zcc m_X7_now) 110 = .ok (.ldc2_w 157, 3) ∧ decode (zcc m_X7_now) 113 = .ok (.lreturn, 1) := by decide +kernel
theorem d_X7_now_0 : zD m_X7_now 0 (.iload_n 1) 1 1 := ⟨eg_X7_now_0.1, rfl⟩
theorem d_X7_now_1 : decode (zcc m_X7_now) 1 = .ok (.tableswitch 109 0 6 #[43, 55, 67, 79, 87, 95, 101], 43) := eg_X7_now_0.2.1
theorem d_X7_now_44 : zD m_X7_now 44 (.aload_n 0) 1 45 := ⟨eg_X7_now_0.2.2.1, rfl⟩
theorem d_X7_now_45 : zD m_X7_now 45 (.getfield 35) 3 48 := ⟨eg_X7_now_0.2.2.2.1, rfl⟩
theorem d_X7_now_48 : zD m_X7_now 48 (.getfield 97) 3 51 := ⟨eg_X7_now_0.2.2.2.2.1, rfl⟩
theorem d_X7_now_51 : zD m_X7_now 51 (.invokestatic 123) 3 54 := ⟨eg_X7_now_0.2.2.2.2.2.1, rfl⟩
theorem d_X7_now_54 : zD m_X7_now 54 (.i2l) 1 55 := ⟨eg_X7_now_0.2.2.2.2.2.2.1, rfl⟩
theorem d_X7_now_55 : decode (zcc m_X7_now) 55 = .ok (.lreturn, 1) := eg_X7_now_0.2.2.2.2.2.2.2
theorem d_X7_now_56 : zD m_X7_now 56 (.aload_n 0) 1 57 := ⟨eg_X7_now_8.1, rfl⟩
theorem d_X7_now_57 : zD m_X7_now 57 (.getfield 35) 3 60 := ⟨eg_X7_now_8.2.1, rfl⟩
theorem d_X7_now_60 : zD m_X7_now 60 (.getfield 131) 3 63 := ⟨eg_X7_now_8.2.2.1, rfl⟩
theorem d_X7_now_63 : zD m_X7_now 63 (.invokestatic 123) 3 66 := ⟨eg_X7_now_8.2.2.2.1, rfl⟩
theorem d_X7_now_66 : zD m_X7_now 66 (.i2l) 1 67 := ⟨eg_X7_now_8.2.2.2.2.1, rfl⟩
theorem d_X7_now_67 : decode (zcc m_X7_now) 67 = .ok (.lreturn, 1) := eg_X7_now_8.2.2.2.2.2.1
theorem d_X7_now_68 : zD m_X7_now 68 (.aload_n 0) 1 69 := ⟨eg_X7_now_8.2.2.2.2.2.2.1, rfl⟩
theorem d_X7_now_69 : zD m_X7_now 69 (.getfield 35) 3 72 := ⟨eg_X7_now_8.2.2.2.2.2.2.2, rfl⟩
theorem d_X7_now_72 : zD m_X7_now 72 (.getfield 109) 3 75 := ⟨eg_X7_now_16.1, rfl⟩
theorem d_X7_now_75 : zD m_X7_now 75 (.invokestatic 123) 3 78 := ⟨eg_X7_now_16.2.1, rfl⟩
theorem d_X7_now_78 : zD m_X7_now 78 (.i2l) 1 79 := ⟨eg_X7_now_16.2.2.1, rfl⟩
theorem d_X7_now_79 : decode (zcc m_X7_now) 79 = .ok (.lreturn, 1) := eg_X7_now_16.2.2.2.1
theorem d_X7_now_80 : zD m_X7_now 80 (.aload_n 0) 1 81 := ⟨eg_X7_now_16.2.2.2.2.1, rfl⟩
theorem d_X7_now_81 : zD m_X7_now 81 (.getfield 35) 3 84 := ⟨eg_X7_now_16.2.2.2.2.2.1, rfl⟩
theorem d_X7_now_84 : zD m_X7_now 84 (.getfield 144) 3 87 := ⟨eg_X7_now_16.2.2.2.2.2.2.1, rfl⟩
theorem d_X7_now_87 : decode (zcc m_X7_now) 87 = .ok (.lreturn, 1) := eg_X7_now_16.2.2.2.2.2.2.2
theorem d_X7_now_88 : zD m_X7_now 88 (.aload_n 0) 1 89 := ⟨eg_X7_now_24.1, rfl⟩
theorem d_X7_now_89 : zD m_X7_now 89 (.getfield 35) 3 92 := ⟨eg_X7_now_24.2.1, rfl⟩
theorem d_X7_now_92 : zD m_X7_now 92 (.getfield 148) 3 95 := ⟨eg_X7_now_24.2.2.1, rfl⟩
theorem d_X7_now_95 : decode (zcc m_X7_now) 95 = .ok (.lreturn, 1) := eg_X7_now_24.2.2.2.1
theorem d_X7_now_96 : zD m_X7_now 96 (.aload_n 0) 1 97 := ⟨eg_X7_now_24.2.2.2.2.1, rfl⟩
theorem d_X7_now_97 : zD m_X7_now 97 (.invokevirtual 151) 3 100 := ⟨eg_X7_now_24.2.2.2.2.2.1, rfl⟩
theorem d_X7_now_100 : zD m_X7_now 100 (.i2l) 1 101 := ⟨eg_X7_now_24.2.2.2.2.2.2.1, rfl⟩
theorem d_X7_now_101 : decode (zcc m_X7_now) 101 = .ok (.lreturn, 1) := eg_X7_now_24.2.2.2.2.2.2.2
theorem d_X7_now_102 : zD m_X7_now 102 (.aload_n 0) 1 103 := ⟨eg_X7_now_32.1, rfl⟩
theorem d_X7_now_103 : zD m_X7_now 103 (.getfield 35) 3 106 := ⟨eg_X7_now_32.2.1, rfl⟩
theorem d_X7_now_106 : zD m_X7_now 106 (.getfield 154) 3 109 := ⟨eg_X7_now_32.2.2.1, rfl⟩
theorem d_X7_now_109 : decode (zcc m_X7_now) 109 = .ok (.lreturn, 1) := eg_X7_now_32.2.2.2.1
theorem d_X7_now_110 : zD m_X7_now 110 (.ldc2_w 157) 3 113 := ⟨eg_X7_now_32.2.2.2.2.1, rfl⟩
theorem d_X7_now_113 : decode (zcc m_X7_now) 113 = .ok (.lreturn, 1) := eg_X7_now_32.2.2.2.2.2
set_option maxRecDepth 20000 in
theorem eg_X7_clear_0 : decode (zcc m_X7_clear) 0 = .ok (.aload_n 0, 1) ∧ decode (zcc m_X7_clear) 1 = .ok (.getfield 35, 3) ∧ decode (zcc m_X7_clear) 4 = .ok (.getfield 97, 3) ∧ decode (zcc m_X7_clear) 7 = .ok (.invokestatic 123, 3) ∧ decode (zcc m_X7_clear) 10 = .ok (.aload_n 0, 1) ∧ decode (zcc m_X7_clear) 11 = .ok (.getfield 35, 3) ∧ decode (zcc m_X7_clear) 14 = .ok (.getfield 131, 3) ∧ decode (zcc m_X7_clear) 17 = .ok (.invokestatic 123, 3) := by decide +kernel
set_option maxRecDepth 20000 in
theorem eg_X7_clear_8 : decode (zcc m_X7_clear) 20 = .ok (.iadd, 1) ∧ decode (zcc m_X7_clear) 21 = .ok (.aload_n 0, 1) ∧ decode (zcc m_X7_clear) 22 = .ok (.getfield 35, 3) ∧ decode (zcc m_X7_clear) 25 = .ok (.getfield 109, 3) ∧ decode (zcc m_X7_clear) 28 = .ok (.invokestatic 123, 3) ∧ decode (zcc m_X7_clear) 31 = .ok (.iadd, 1) ∧ decode (zcc m_X7_clear) 32 = .ok (.istore_n 1, 1) ∧ decode (zcc m_X7_clear) 33 = .ok (.aload_n 0, 1) := by decide +kernel
set_option maxRecDepth 20000 in
theorem eg_X7_clear_16 : decode (zcc m_X7_clear) 34 = .ok (.getfield 35, 3) ∧ decode (zcc m_X7_clear) 37 = .ok (.invokevirtual 159, 3) ∧ decode (zcc m_X7_clear) 40 = .ok (.iload_n 1, 1) ∧ decode (zcc m_X7_clear) 41 = .ok (.ireturn, 1) := by decide +kernel
theorem d_X7_clear_0 : zD m_X7_clear 0 (.aload_n 0) 1 1 := ⟨eg_X7_clear_0.1, rfl⟩
theorem d_X7_clear_1 : zD m_X7_clear 1 (.getfield 35) 3 4 := ⟨eg_X7_clear_0.2.1, rfl⟩
theorem d_X7_clear_4 : zD m_X7_clear 4 (.getfield 97) 3 7 := ⟨eg_X7_clear_0.2.2.1, rfl⟩
theorem d_X7_clear_7 : zD m_X7_clear 7 (.invokestatic 123) 3 10 := ⟨eg_X7_clear_0.2.2.2.1, rfl⟩
theorem d_X7_clear_10 : zD m_X7_clear 10 (.aload_n 0) 1 11 := ⟨eg_X7_clear_0.2.2.2.2.1, rfl⟩
theorem d_X7_clear_11 : zD m_X7_clear 11 (.getfield 35) 3 14 := ⟨eg_X7_clear_0.2.2.2.2.2.1, rfl⟩
theorem d_X7_clear_14 : zD m_X7_clear 14 (.getfield 131) 3 17 := ⟨eg_X7_clear_0.2.2.2.2.2.2.1, rfl⟩
theorem d_X7_clear_17 : zD m_X7_clear 17 (.invokestatic 123) 3 20 := ⟨eg_X7_clear_0.2.2.2.2.2.2.2, rfl⟩
theorem d_X7_clear_20 : zD m_X7_clear 20 (.iadd) 1 21 := ⟨eg_X7_clear_8.1, rfl⟩
theorem d_X7_clear_21 : zD m_X7_clear 21 (.aload_n 0) 1 22 := ⟨eg_X7_clear_8.2.1, rfl⟩
theorem d_X7_clear_22 : zD m_X7_clear 22 (.getfield 35) 3 25 := ⟨eg_X7_clear_8.2.2.1, rfl⟩
theorem d_X7_clear_25 : zD m_X7_clear 25 (.getfield 109) 3 28 := ⟨eg_X7_clear_8.2.2.2.1, rfl⟩
theorem d_X7_clear_28 : zD m_X7_clear 28 (.invokestatic 123) 3 31 := ⟨eg_X7_clear_8.2.2.2.2.1, rfl⟩
theorem d_X7_clear_31 : zD m_X7_clear 31 (.iadd) 1 32 := ⟨eg_X7_clear_8.2.2.2.2.2.1, rfl⟩
theorem d_X7_clear_32 : zD m_X7_clear 32 (.istore_n 1) 1 33 := ⟨eg_X7_clear_8.2.2.2.2.2.2.1, rfl⟩
theorem d_X7_clear_33 : zD m_X7_clear 33 (.aload_n 0) 1 34 := ⟨eg_X7_clear_8.2.2.2.2.2.2.2, rfl⟩
theorem d_X7_clear_34 : zD m_X7_clear 34 (.getfield 35) 3 37 := ⟨eg_X7_clear_16.1, rfl⟩
theorem d_X7_clear_37 : zD m_X7_clear 37 (.invokevirtual 159) 3 40 := ⟨eg_X7_clear_16.2.1, rfl⟩
theorem d_X7_clear_40 : zD m_X7_clear 40 (.iload_n 1) 1 41 := ⟨eg_X7_clear_16.2.2.1, rfl⟩
theorem d_X7_clear_41 : decode (zcc m_X7_clear) 41 = .ok (.ireturn, 1) := eg_X7_clear_16.2.2.2
set_option maxRecDepth 20000 in
theorem eg_X7_picture_0 : decode (zcc m_X7_picture) 0 = .ok (.iload_n 1, 1) ∧ decode (zcc m_X7_picture) 1 = .ok (.invokestatic 162, 3) ∧ decode (zcc m_X7_picture) 4 = .ok (.ifCond .eq (10), 3) ∧ decode (zcc m_X7_picture) 7 = .ok (.iload_n 2, 1) ∧ decode (zcc m_X7_picture) 8 = .ok (.invokestatic 162, 3) ∧ decode (zcc m_X7_picture) 11 = .ok (.ifCond .ne (5), 3) ∧ decode (zcc m_X7_picture) 14 = .ok (.iconst (-1), 1) ∧ decode (zcc m_X7_picture) 15 = .ok (.ireturn, 1) := by decide +kernel
set_option maxRecDepth 20000 in
theorem eg_X7_picture_8 : decode (zcc m_X7_picture) 16 = .ok (.iload_n 3, 1) ∧ decode (zcc m_X7_picture) 17 = .ok (.ifCond .lt (29), 3) ∧ decode (zcc m_X7_picture) 20 = .ok (.iload_n 3, 1) ∧ decode (zcc m_X7_picture) 21 = .ok (.bipush 6, 2) ∧ decode (zcc m_X7_picture) 23 = .ok (.iload_n 1, 1) ∧ decode (zcc m_X7_picture) 24 = .ok (.invokestatic 165, 3) ∧ decode (zcc m_X7_picture) 27 = .ok (.if_icmp .ge (19), 3) ∧ decode (zcc m_X7_picture) 30 = .ok (.iload 4, 2) := by decide +kernel
set_option maxRecDepth 20000 in
theorem eg_X7_picture_16 : decode (zcc m_X7_picture) 32 = .ok (.ifCond .lt (14), 3) ∧ decode (zcc m_X7_picture) 35 = .ok (.iload 4, 2) ∧ decode (zcc m_X7_picture) 37 = .ok (.bipush 8, 2) ∧ decode (zcc m_X7_picture) 39 = .ok (.iload_n 2, 1) ∧ decode (zcc m_X7_picture) 40 = .ok (.invokestatic 165, 3) ∧ decode (zcc m_X7_picture) 43 = .ok (.if_icmp .lt (5), 3) ∧ decode (zcc m_X7_picture) 46 = .ok (.iconst (-1), 1) ∧ decode (zcc m_X7_picture) 47 = .ok (.ireturn, 1) := by decide +kernel
set_option maxRecDepth 20000 in
theorem eg_X7_picture_24 : decode (zcc m_X7_picture) 48 = .ok (.aload_n 0, 1) ∧ decode (zcc m_X7_picture) 49 = .ok (.getfield 50, 3) ∧ decode (zcc m_X7_picture) 52 = .ok (.aload_n 0, 1) ∧ decode (zcc m_X7_picture) 53 = .ok (.getfield 35, 3) ∧ decode (zcc m_X7_picture) 56 = .ok (.aload_n 0, 1) ∧ decode (zcc m_X7_picture) 57 = .ok (.getfield 19, 3) ∧ decode (zcc m_X7_picture) 60 = .ok (.iload_n 1, 1) ∧ decode (zcc m_X7_picture) 61 = .ok (.iload_n 2, 1) := by decide +kernel
set_option maxRecDepth 20000 in
theorem eg_X7_picture_32 : decode (zcc m_X7_picture) 62 = .ok (.iconst 1, 1) ∧ decode (zcc m_X7_picture) 63 = .ok (.invokevirtual 169, 3) ∧ decode (zcc m_X7_picture) 66 = .ok (.aload_n 0, 1) ∧ decode (zcc m_X7_picture) 67 = .ok (.getfield 50, 3) ∧ decode (zcc m_X7_picture) 70 = .ok (.getfield 173, 3) ∧ decode (zcc m_X7_picture) 73 = .ok (.iload_n 3, 1) ∧ decode (zcc m_X7_picture) 74 = .ok (.bipush 8, 2) ∧ decode (zcc m_X7_picture) 76 = .ok (.imul, 1) := by decide +kernel
set_option maxRecDepth 20000 in
theorem eg_X7_picture_40 : decode (zcc m_X7_picture) 77 = .ok (.iload 4, 2) ∧ decode (zcc m_X7_picture) 79 = .ok (.iadd, 1) ∧ decode (zcc m_X7_picture) 80 = .ok (.iaload, 1) ∧ decode (zcc m_X7_picture) 81 = .ok (.ireturn, 1) := by decide +kernel
theorem d_X7_picture_0 : zD m_X7_picture 0 (.iload_n 1) 1 1 := ⟨eg_X7_picture_0.1, rfl⟩
theorem d_X7_picture_1 : zD m_X7_picture 1 (.invokestatic 162) 3 4 := ⟨eg_X7_picture_0.2.1, rfl⟩
theorem d_X7_picture_4 : zDj m_X7_picture 4 (.ifCond .eq) 7 14 := ⟨10, eg_X7_picture_0.2.2.1, rfl, by decide⟩
theorem d_X7_picture_7 : zD m_X7_picture 7 (.iload_n 2) 1 8 := ⟨eg_X7_picture_0.2.2.2.1, rfl⟩
theorem d_X7_picture_8 : zD m_X7_picture 8 (.invokestatic 162) 3 11 := ⟨eg_X7_picture_0.2.2.2.2.1, rfl⟩
theorem d_X7_picture_11 : zDj m_X7_picture 11 (.ifCond .ne) 14 16 := ⟨5, eg_X7_picture_0.2.2.2.2.2.1, rfl, by decide⟩
theorem d_X7_picture_14 : zD m_X7_picture 14 (.iconst (-1)) 1 15 := ⟨eg_X7_picture_0.2.2.2.2.2.2.1, rfl⟩
theorem d_X7_picture_15 : decode (zcc m_X7_picture) 15 = .ok (.ireturn, 1) := eg_X7_picture_0.2.2.2.2.2.2.2
theorem d_X7_picture_16 : zD m_X7_picture 16 (.iload_n 3) 1 17 := ⟨eg_X7_picture_8.1, rfl⟩
theorem d_X7_picture_17 : zDj m_X7_picture 17 (.ifCond .lt) 20 46 := ⟨29, eg_X7_picture_8.2.1, rfl, by decide⟩
theorem d_X7_picture_20 : zD m_X7_picture 20 (.iload_n 3) 1 21 := ⟨eg_X7_picture_8.2.2.1, rfl⟩
theorem d_X7_picture_21 : zD m_X7_picture 21 (.bipush 6) 2 23 := ⟨eg_X7_picture_8.2.2.2.1, rfl⟩
theorem d_X7_picture_23 : zD m_X7_picture 23 (.iload_n 1) 1 24 := ⟨eg_X7_picture_8.2.2.2.2.1, rfl⟩
theorem d_X7_picture_24 : zD m_X7_picture 24 (.invokestatic 165) 3 27 := ⟨eg_X7_picture_8.2.2.2.2.2.1, rfl⟩
theorem d_X7_picture_27 : zDj m_X7_picture 27 (.if_icmp .ge) 30 46 := ⟨19, eg_X7_picture_8.2.2.2.2.2.2.1, rfl, by decide⟩
theorem d_X7_picture_30 : zD m_X7_picture 30 (.iload 4) 2 32 := ⟨eg_X7_picture_8.2.2.2.2.2.2.2, rfl⟩
theorem d_X7_picture_32 : zDj m_X7_picture 32 (.ifCond .lt) 35 46 := ⟨14, eg_X7_picture_16.1, rfl, by decide⟩
theorem d_X7_picture_35 : zD m_X7_picture 35 (.iload 4) 2 37 := ⟨eg_X7_picture_16.2.1, rfl⟩
theorem d_X7_picture_37 : zD m_X7_picture 37 (.bipush 8) 2 39 := ⟨eg_X7_picture_16.2.2.1, rfl⟩
theorem d_X7_picture_39 : zD m_X7_picture 39 (.iload_n 2) 1 40 := ⟨eg_X7_picture_16.2.2.2.1, rfl⟩
theorem d_X7_picture_40 : zD m_X7_picture 40 (.invokestatic 165) 3 43 := ⟨eg_X7_picture_16.2.2.2.2.1, rfl⟩
theorem d_X7_picture_43 : zDj m_X7_picture 43 (.if_icmp .lt) 46 48 := ⟨5, eg_X7_picture_16.2.2.2.2.2.1, rfl, by decide⟩
theorem d_X7_picture_46 : zD m_X7_picture 46 (.iconst (-1)) 1 47 := ⟨eg_X7_picture_16.2.2.2.2.2.2.1, rfl⟩
theorem d_X7_picture_47 : decode (zcc m_X7_picture) 47 = .ok (.ireturn, 1) := eg_X7_picture_16.2.2.2.2.2.2.2
theorem d_X7_picture_48 : zD m_X7_picture 48 (.aload_n 0) 1 49 := ⟨eg_X7_picture_24.1, rfl⟩
theorem d_X7_picture_49 : zD m_X7_picture 49 (.getfield 50) 3 52 := ⟨eg_X7_picture_24.2.1, rfl⟩
theorem d_X7_picture_52 : zD m_X7_picture 52 (.aload_n 0) 1 53 := ⟨eg_X7_picture_24.2.2.1, rfl⟩
theorem d_X7_picture_53 : zD m_X7_picture 53 (.getfield 35) 3 56 := ⟨eg_X7_picture_24.2.2.2.1, rfl⟩
theorem d_X7_picture_56 : zD m_X7_picture 56 (.aload_n 0) 1 57 := ⟨eg_X7_picture_24.2.2.2.2.1, rfl⟩
theorem d_X7_picture_57 : zD m_X7_picture 57 (.getfield 19) 3 60 := ⟨eg_X7_picture_24.2.2.2.2.2.1, rfl⟩
theorem d_X7_picture_60 : zD m_X7_picture 60 (.iload_n 1) 1 61 := ⟨eg_X7_picture_24.2.2.2.2.2.2.1, rfl⟩
theorem d_X7_picture_61 : zD m_X7_picture 61 (.iload_n 2) 1 62 := ⟨eg_X7_picture_24.2.2.2.2.2.2.2, rfl⟩
theorem d_X7_picture_62 : zD m_X7_picture 62 (.iconst 1) 1 63 := ⟨eg_X7_picture_32.1, rfl⟩
theorem d_X7_picture_63 : zD m_X7_picture 63 (.invokevirtual 169) 3 66 := ⟨eg_X7_picture_32.2.1, rfl⟩
theorem d_X7_picture_66 : zD m_X7_picture 66 (.aload_n 0) 1 67 := ⟨eg_X7_picture_32.2.2.1, rfl⟩
theorem d_X7_picture_67 : zD m_X7_picture 67 (.getfield 50) 3 70 := ⟨eg_X7_picture_32.2.2.2.1, rfl⟩
theorem d_X7_picture_70 : zD m_X7_picture 70 (.getfield 173) 3 73 := ⟨eg_X7_picture_32.2.2.2.2.1, rfl⟩
theorem d_X7_picture_73 : zD m_X7_picture 73 (.iload_n 3) 1 74 := ⟨eg_X7_picture_32.2.2.2.2.2.1, rfl⟩
theorem d_X7_picture_74 : zD m_X7_picture 74 (.bipush 8) 2 76 := ⟨eg_X7_picture_32.2.2.2.2.2.2.1, rfl⟩
theorem d_X7_picture_76 : zD m_X7_picture 76 (.imul) 1 77 := ⟨eg_X7_picture_32.2.2.2.2.2.2.2, rfl⟩
theorem d_X7_picture_77 : zD m_X7_picture 77 (.iload 4) 2 79 := ⟨eg_X7_picture_40.1, rfl⟩
theorem d_X7_picture_79 : zD m_X7_picture 79 (.iadd) 1 80 := ⟨eg_X7_picture_40.2.1, rfl⟩
theorem d_X7_picture_80 : zD m_X7_picture 80 (.iaload) 1 81 := ⟨eg_X7_picture_40.2.2.1, rfl⟩
theorem d_X7_picture_81 : decode (zcc m_X7_picture) 81 = .ok (.ireturn, 1) := eg_X7_picture_40.2.2.2
set_option maxRecDepth 20000 in
theorem eg_X7_shades_0 : decode (zcc m_X7_shades) 0 = .ok (.iload_n 1, 1) ∧ decode (zcc m_X7_shades) 1 = .ok (.invokestatic 162, 3) ∧ decode (zcc m_X7_shades) 4 = .ok (.ifCond .eq (19), 3) ∧ decode (zcc m_X7_shades) 7 = .ok (.iload_n 2, 1) ∧ decode (zcc m_X7_shades) 8 = .ok (.invokestatic 162, 3) ∧ decode (zcc m_X7_shades) 11 = .ok (.ifCond .eq (12), 3) ∧ decode (zcc m_X7_shades) 14 = .ok (.iload_n 3, 1) ∧ decode (zcc m_X7_shades) 15 = .ok (.ifCond .lt (8), 3) := by decide +kernel
set_option maxRecDepth 20000 in
theorem eg_X7_shades_8 : decode (zcc m_X7_shades) 18 = .ok (.iload_n 3, 1) ∧ decode (zcc m_X7_shades) 19 = .ok (.iconst 3, 1) ∧ decode (zcc m_X7_shades) 20 = .ok (.if_icmp .le (5), 3) ∧ decode (zcc m_X7_shades) 23 = .ok (.iconst (-1), 1) ∧ decode (zcc m_X7_shades) 24 = .ok (.ireturn, 1) ∧ decode (zcc m_X7_shades) 25 = .ok (.aload_n 0, 1) ∧ decode (zcc m_X7_shades) 26 = .ok (.getfield 50, 3) ∧ decode (zcc m_X7_shades) 29 = .ok (.aload_n 0, 1) := by decide +kernel
set_option maxRecDepth 20000 in
theorem eg_X7_shades_16 : decode (zcc m_X7_shades) 30 = .ok (.getfield 35, 3) ∧ decode (zcc m_X7_shades) 33 = .ok (.aload_n 0, 1) ∧ decode (zcc m_X7_shades) 34 = .ok (.getfield 19, 3) ∧ decode (zcc m_X7_shades) 37 = .ok (.iload_n 1, 1) ∧ decode (zcc m_X7_shades) 38 = .ok (.iload_n 2, 1) ∧ decode (zcc m_X7_shades) 39 = .ok (.iconst 1, 1) ∧ decode (zcc m_X7_shades) 40 = .ok (.invokevirtual 169, 3) ∧ decode (zcc m_X7_shades) 43 = .ok (.iload_n 3, 1) := by decide +kernel
set_option maxRecDepth 20000 in
theorem eg_X7_shades_24 : decode (zcc m_X7_shades) 44 = .ok (.tableswitch 52 0 2 #[28, 36, 44], 28) ∧ decode (zcc m_X7_shades) 72 = .ok (.aload_n 0, 1) ∧ decode (zcc m_X7_shades) 73 = .ok (.getfield 50, 3) ∧ decode (zcc m_X7_shades) 76 = .ok (.invokevirtual 176, 3) ∧ decode (zcc m_X7_shades) 79 = .ok (.ireturn, 1) ∧ decode (zcc m_X7_shades) 80 = .ok (.aload_n 0, 1) ∧ decode (zcc m_X7_shades) 81 = .ok (.getfield 50, 3) ∧ decode (zcc m_X7_shades) 84 = .ok (.invokevirtual 179, 3) := by decide +kernel
set_option maxRecDepth 20000 in
theorem eg_X7_shades_32 : decode (zcc m_X7_shades) 87 = .ok (.ireturn, 1) ∧ decode (zcc m_X7_shades) 88 = .ok (.aload_n 0, 1) ∧ decode (zcc m_X7_shades) 89 = .ok (.getfield 50, 3) ∧ decode (zcc m_X7_shades) 92 = .ok (.invokevirtual 182, 3) ∧ decode (zcc m_X7_shades) 95 = .ok (.ireturn, 1) ∧ decode (zcc m_X7_shades) 96 = .ok (.aload_n 0, 1) ∧ decode (zcc m_X7_shades) 97 = .ok (.getfield 50, 3) ∧ decode (zcc m_X7_shades) 100 = .ok (.invokevirtual 185, 3) := by decide +kernel
set_option maxRecDepth 20000 in
theorem eg_X7_shades_40 : decode (zcc m_X7_shades) 103 = .ok (.ireturn, 1) := by decide +kernel
theorem d_X7_shades_0 : zD m_X7_shades 0 (.iload_n 1) 1 1 := ⟨eg_X7_shades_0.1, rfl⟩
theorem d_X7_shades_1 : zD m_X7_shades 1 (.invokestatic 162) 3 4 := ⟨eg_X7_shades_0.2.1, rfl⟩
theorem d_X7_shades_4 : zDj m_X7_shades 4 (.ifCond .eq) 7 23 := ⟨19, eg_X7_shades_0.2.2.1, rfl, by decide⟩
theorem d_X7_shades_7 : zD m_X7_shades 7 (.iload_n 2) 1 8 := ⟨eg_X7_shades_0.2.2.2.1, rfl⟩
theorem d_X7_shades_8 : zD m_X7_shades 8 (.invokestatic 162) 3 11 := ⟨eg_X7_shades_0.2.2.2.2.1, rfl⟩
theorem d_X7_shades_11 : zDj m_X7_shades 11 (.ifCond .eq) 14 23 := ⟨12, eg_X7_shades_0.2.2.2.2.2.1, rfl, by decide⟩
theorem d_X7_shades_14 : zD m_X7_shades 14 (.iload_n 3) 1 15 := ⟨eg_X7_shades_0.2.2.2.2.2.2.1, rfl⟩
theorem d_X7_shades_15 : zDj m_X7_shades 15 (.ifCond .lt) 18 23 := ⟨8, eg_X7_shades_0.2.2.2.2.2.2.2, rfl, by decide⟩
theorem d_X7_shades_18 : zD m_X7_shades 18 (.iload_n 3) 1 19 := ⟨eg_X7_shades_8.1, rfl⟩
theorem d_X7_shades_19 : zD m_X7_shades 19 (.iconst 3) 1 20 := ⟨eg_X7_shades_8.2.1, rfl⟩
theorem d_X7_shades_20 : zDj m_X7_shades 20 (.if_icmp .le) 23 25 := ⟨5, eg_X7_shades_8.2.2.1, rfl, by decide⟩
theorem d_X7_shades_23 : zD m_X7_shades 23 (.iconst (-1)) 1 24 := ⟨eg_X7_shades_8.2.2.2.1, rfl⟩
theorem d_X7_shades_24 : decode (zcc m_X7_shades) 24 = .ok (.ireturn, 1) := eg_X7_shades_8.2.2.2.2.1
theorem d_X7_shades_25 : zD m_X7_shades 25 (.aload_n 0) 1 26 := ⟨eg_X7_shades_8.2.2.2.2.2.1, rfl⟩
theorem d_X7_shades_26 : zD m_X7_shades 26 (.getfield 50) 3 29 := ⟨eg_X7_shades_8.2.2.2.2.2.2.1, rfl⟩
theorem d_X7_shades_29 : zD m_X7_shades 29 (.aload_n 0) 1 30 := ⟨eg_X7_shades_8.2.2.2.2.2.2.2, rfl⟩
theorem d_X7_shades_30 : zD m_X7_shades 30 (.getfield 35) 3 33 := ⟨eg_X7_shades_16.1, rfl⟩
theorem d_X7_shades_33 : zD m_X7_shades 33 (.aload_n 0) 1 34 := ⟨eg_X7_shades_16.2.1, rfl⟩
theorem d_X7_shades_34 : zD m_X7_shades 34 (.getfield 19) 3 37 := ⟨eg_X7_shades_16.2.2.1, rfl⟩
theorem d_X7_shades_37 : zD m_X7_shades 37 (.iload_n 1) 1 38 := ⟨eg_X7_shades_16.2.2.2.1, rfl⟩
theorem d_X7_shades_38 : zD m_X7_shades 38 (.iload_n 2) 1 39 := ⟨eg_X7_shades_16.2.2.2.2.1, rfl⟩
theorem d_X7_shades_39 : zD m_X7_shades 39 (.iconst 1) 1 40 := ⟨eg_X7_shades_16.2.2.2.2.2.1, rfl⟩
theorem d_X7_shades_40 : zD m_X7_shades 40 (.invokevirtual 169) 3 43 := ⟨eg_X7_shades_16.2.2.2.2.2.2.1, rfl⟩
theorem d_X7_shades_43 : zD m_X7_shades 43 (.iload_n 3) 1 44 := ⟨eg_X7_shades_16.2.2.2.2.2.2.2, rfl⟩
theorem d_X7_shades_44 : decode (zcc m_X7_shades) 44 = .ok (.tableswitch 52 0 2 #[28, 36, 44], 28) := eg_X7_shades_24.1
theorem d_X7_shades_72 : zD m_X7_shades 72 (.aload_n 0) 1 73 := ⟨eg_X7_shades_24.2.1, rfl⟩
theorem d_X7_shades_73 : zD m_X7_shades 73 (.getfield 50) 3 76 := ⟨eg_X7_shades_24.2.2.1, rfl⟩
theorem d_X7_shades_76 : zD m_X7_shades 76 (.invokevirtual 176) 3 79 := ⟨eg_X7_shades_24.2.2.2.1, rfl⟩
theorem d_X7_shades_79 : decode (zcc m_X7_shades) 79 = .ok (.ireturn, 1) := eg_X7_shades_24.2.2.2.2.1
theorem d_X7_shades_80 : zD m_X7_shades 80 (.aload_n 0) 1 81 := ⟨eg_X7_shades_24.2.2.2.2.2.1, rfl⟩
theorem d_X7_shades_81 : zD m_X7_shades 81 (.getfield 50) 3 84 := ⟨eg_X7_shades_24.2.2.2.2.2.2.1, rfl⟩
theorem d_X7_shades_84 : zD m_X7_shades 84 (.invokevirtual 179) 3 87 := ⟨eg_X7_shades_24.2.2.2.2.2.2.2, rfl⟩
theorem d_X7_shades_87 : decode (zcc m_X7_shades) 87 = .ok (.ireturn, 1) := eg_X7_shades_32.1
theorem d_X7_shades_88 : zD m_X7_shades 88 (.aload_n 0) 1 89 := ⟨eg_X7_shades_32.2.1, rfl⟩
theorem d_X7_shades_89 : zD m_X7_shades 89 (.getfield 50) 3 92 := ⟨eg_X7_shades_32.2.2.1, rfl⟩
theorem d_X7_shades_92 : zD m_X7_shades 92 (.invokevirtual 182) 3 95 := ⟨eg_X7_shades_32.2.2.2.1, rfl⟩
theorem d_X7_shades_95 : decode (zcc m_X7_shades) 95 = .ok (.ireturn, 1) := eg_X7_shades_32.2.2.2.2.1
theorem d_X7_shades_96 : zD m_X7_shades 96 (.aload_n 0) 1 97 := ⟨eg_X7_shades_32.2.2.2.2.2.1, rfl⟩
theorem d_X7_shades_97 : zD m_X7_shades 97 (.getfield 50) 3 100 := ⟨eg_X7_shades_32.2.2.2.2.2.2.1, rfl⟩
theorem d_X7_shades_100 : zD m_X7_shades 100 (.invokevirtual 185) 3 103 := ⟨eg_X7_shades_32.2.2.2.2.2.2.2, rfl⟩
theorem d_X7_shades_103 : decode (zcc m_X7_shades) 103 = .ok (.ireturn, 1) := eg_X7_shades_40
set_option maxRecDepth 20000 in
theorem eg_X7_late_0 : decode (zcc m_X7_late) 0 = .ok (.iload_n 1, 1) ∧ decode (zcc m_X7_late) 1 = .ok (.invokestatic 141, 3) ∧ decode (zcc m_X7_late) 4 = .ok (.ifCond .ne (5), 3) ∧ decode (zcc m_X7_late) 7 = .ok (.iconst (-1), 1) ∧ decode (zcc m_X7_late) 8 = .ok (.ireturn, 1) ∧ decode (zcc m_X7_late) 9 = .ok (.aload_n 0, 1) ∧ decode (zcc m_X7_late) 10 = .ok (.getfield 50, 3) ∧ decode (zcc m_X7_late) 13 = .ok (.aload_n 0, 1) := by decide +kernel
set_option maxRecDepth 20000 in
theorem eg_X7_late_8 : decode (zcc m_X7_late) 14 = .ok (.getfield 35, 3) ∧ decode (zcc m_X7_late) 17 = .ok (.aload_n 0, 1) ∧ decode (zcc m_X7_late) 18 = .ok (.getfield 19, 3) ∧ decode (zcc m_X7_late) 21 = .ok (.iconst 1, 1) ∧ decode (zcc m_X7_late) 22 = .ok (.iconst 1, 1) ∧ decode (zcc m_X7_late) 23 = .ok (.iconst 1, 1) ∧ decode (zcc m_X7_late) 24 = .ok (.invokevirtual 169, 3) ∧ decode (zcc m_X7_late) 27 = .ok (.aload_n 0, 1) := by decide +kernel
set_option maxRecDepth 20000 in
theorem eg_X7_late_16 : decode (zcc m_X7_late) 28 = .ok (.getfield 50, 3) ∧ decode (zcc m_X7_late) 31 = .ok (.getfield 188, 3) ∧ decode (zcc m_X7_late) 34 = .ok (.aload_n 0, 1) ∧ decode (zcc m_X7_late) 35 = .ok (.getfield 19, 3) ∧ decode (zcc m_X7_late) 38 = .ok (.iconst 1, 1) ∧ decode (zcc m_X7_late) 39 = .ok (.invokevirtual 127, 3) ∧ decode (zcc m_X7_late) 42 = .ok (.aload_n 0, 1) ∧ decode (zcc m_X7_late) 43 = .ok (.getfield 50, 3) := by decide +kernel
set_option maxRecDepth 20000 in
theorem eg_X7_late_24 : decode (zcc m_X7_late) 46 = .ok (.getfield 188, 3) ∧ decode (zcc m_X7_late) 49 = .ok (.getfield 131, 3) ∧ decode (zcc m_X7_late) 52 = .ok (.iload_n 1, 1) ∧ decode (zcc m_X7_late) 53 = .ok (.iaload, 1) ∧ decode (zcc m_X7_late) 54 = .ok (.ireturn, 1) := by decide +kernel
theorem d_X7_late_0 : zD m_X7_late 0 (.iload_n 1) 1 1 := ⟨eg_X7_late_0.1, rfl⟩
theorem d_X7_late_1 : zD m_X7_late 1 (.invokestatic 141) 3 4 := ⟨eg_X7_late_0.2.1, rfl⟩
theorem d_X7_late_4 : zDj m_X7_late 4 (.ifCond .ne) 7 9 := ⟨5, eg_X7_late_0.2.2.1, rfl, by decide⟩
theorem d_X7_late_7 : zD m_X7_late 7 (.iconst (-1)) 1 8 := ⟨eg_X7_late_0.2.2.2.1, rfl⟩
theorem d_X7_late_8 : decode (zcc m_X7_late) 8 = .ok (.ireturn, 1) := eg_X7_late_0.2.2.2.2.1
theorem d_X7_late_9 : zD m_X7_late 9 (.aload_n 0) 1 10 := ⟨eg_X7_late_0.2.2.2.2.2.1, rfl⟩
theorem d_X7_late_10 : zD m_X7_late 10 (.getfield 50) 3 13 := ⟨eg_X7_late_0.2.2.2.2.2.2.1, rfl⟩
theorem d_X7_late_13 : zD m_X7_late 13 (.aload_n 0) 1 14 := ⟨eg_X7_late_0.2.2.2.2.2.2.2, rfl⟩
theorem d_X7_late_14 : zD m_X7_late 14 (.getfield 35) 3 17 := ⟨eg_X7_late_8.1, rfl⟩
theorem d_X7_late_17 : zD m_X7_late 17 (.aload_n 0) 1 18 := ⟨eg_X7_late_8.2.1, rfl⟩
theorem d_X7_late_18 : zD m_X7_late 18 (.getfield 19) 3 21 := ⟨eg_X7_late_8.2.2.1, rfl⟩
theorem d_X7_late_21 : zD m_X7_late 21 (.iconst 1) 1 22 := ⟨eg_X7_late_8.2.2.2.1, rfl⟩
theorem d_X7_late_22 : zD m_X7_late 22 (.iconst 1) 1 23 := ⟨eg_X7_late_8.2.2.2.2.1, rfl⟩
theorem d_X7_late_23 : zD m_X7_late 23 (.iconst 1) 1 24 := ⟨eg_X7_late_8.2.2.2.2.2.1, rfl⟩
theorem d_X7_late_24 : zD m_X7_late 24 (.invokevirtual 169) 3 27 := ⟨eg_X7_late_8.2.2.2.2.2.2.1, rfl⟩
theorem d_X7_late_27 : zD m_X7_late 27 (.aload_n 0) 1 28 := ⟨eg_X7_late_8.2.2.2.2.2.2.2, rfl⟩
theorem d_X7_late_28 : zD m_X7_late 28 (.getfield 50) 3 31 := ⟨eg_X7_late_16.1, rfl⟩
theorem d_X7_late_31 : zD m_X7_late 31 (.getfield 188) 3 34 := ⟨eg_X7_late_16.2.1, rfl⟩
theorem d_X7_late_34 : zD m_X7_late 34 (.aload_n 0) 1 35 := ⟨eg_X7_late_16.2.2.1, rfl⟩
theorem d_X7_late_35 : zD m_X7_late 35 (.getfield 19) 3 38 := ⟨eg_X7_late_16.2.2.2.1, rfl⟩
theorem d_X7_late_38 : zD m_X7_late 38 (.iconst 1) 1 39 := ⟨eg_X7_late_16.2.2.2.2.1, rfl⟩
theorem d_X7_late_39 : zD m_X7_late 39 (.invokevirtual 127) 3 42 := ⟨eg_X7_late_16.2.2.2.2.2.1, rfl⟩
theorem d_X7_late_42 : zD m_X7_late 42 (.aload_n 0) 1 43 := ⟨eg_X7_late_16.2.2.2.2.2.2.1, rfl⟩
theorem d_X7_late_43 : zD m_X7_late 43 (.getfield 50) 3 46 := ⟨eg_X7_late_16.2.2.2.2.2.2.2, rfl⟩
theorem d_X7_late_46 : zD m_X7_late 46 (.getfield 188) 3 49 := ⟨eg_X7_late_24.1, rfl⟩
theorem d_X7_late_49 : zD m_X7_late 49 (.getfield 131) 3 52 := ⟨eg_X7_late_24.2.1, rfl⟩
theorem d_X7_late_52 : zD m_X7_late 52 (.iload_n 1) 1 53 := ⟨eg_X7_late_24.2.2.1, rfl⟩
theorem d_X7_late_53 : zD m_X7_late 53 (.iaload) 1 54 := ⟨eg_X7_late_24.2.2.2.1, rfl⟩
theorem d_X7_late_54 : decode (zcc m_X7_late) 54 = .ok (.ireturn, 1) := eg_X7_late_24.2.2.2.2
set_option maxRecDepth 20000 in
theorem eg_X7_smear_0 : decode (zcc m_X7_smear) 0 = .ok (.iload_n 1, 1) ∧ decode (zcc m_X7_smear) 1 = .ok (.invokestatic 93, 3) ∧ decode (zcc m_X7_smear) 4 = .ok (.ifCond .ne (5), 3) ∧ decode (zcc m_X7_smear) 7 = .ok (.iconst (-1), 1) ∧ decode (zcc m_X7_smear) 8 = .ok (.ireturn, 1) ∧ decode (zcc m_X7_smear) 9 = .ok (.iconst 0, 1) ∧ decode (zcc m_X7_smear) 10 = .ok (.istore_n 2, 1) ∧ decode (zcc m_X7_smear) 11 = .ok (.iload_n 1, 1) := by decide +kernel
set_option maxRecDepth 20000 in
theorem eg_X7_smear_8 : decode (zcc m_X7_smear) 12 = .ok (.bipush 8, 2) ∧ decode (zcc m_X7_smear) 14 = .ok (.iadd, 1) ∧ decode (zcc m_X7_smear) 15 = .ok (.istore_n 3, 1) ∧ decode (zcc m_X7_smear) 16 = .ok (.iload_n 3, 1) ∧ decode (zcc m_X7_smear) 17 = .ok (.bipush 48, 2) ∧ decode (zcc m_X7_smear) 19 = .ok (.if_icmp .ge (21), 3) ∧ decode (zcc m_X7_smear) 22 = .ok (.iload_n 2, 1) ∧ decode (zcc m_X7_smear) 23 = .ok (.aload_n 0, 1) := by decide +kernel
set_option maxRecDepth 20000 in
theorem eg_X7_smear_16 : decode (zcc m_X7_smear) 24 = .ok (.getfield 35, 3) ∧ decode (zcc m_X7_smear) 27 = .ok (.getfield 100, 3) ∧ decode (zcc m_X7_smear) 30 = .ok (.iload_n 3, 1) ∧ decode (zcc m_X7_smear) 31 = .ok (.iaload, 1) ∧ decode (zcc m_X7_smear) 32 = .ok (.iadd, 1) ∧ decode (zcc m_X7_smear) 33 = .ok (.istore_n 2, 1) ∧ decode (zcc m_X7_smear) 34 = .ok (.iinc 3 8, 3) ∧ decode (zcc m_X7_smear) 37 = .ok (.goto (-21), 3) := by decide +kernel
set_option maxRecDepth 20000 in
theorem eg_X7_smear_24 : decode (zcc m_X7_smear) 40 = .ok (.iload_n 2, 1) ∧ decode (zcc m_X7_smear) 41 = .ok (.aload_n 0, 1) ∧ decode (zcc m_X7_smear) 42 = .ok (.getfield 19, 3) ∧ decode (zcc m_X7_smear) 45 = .ok (.getfield 89, 3) ∧ decode (zcc m_X7_smear) 48 = .ok (.iconst 3, 1) ∧ decode (zcc m_X7_smear) 49 = .ok (.iaload, 1) ∧ decode (zcc m_X7_smear) 50 = .ok (.imul, 1) ∧ decode (zcc m_X7_smear) 51 = .ok (.ireturn, 1) := by decide +kernel
theorem d_X7_smear_0 : zD m_X7_smear 0 (.iload_n 1) 1 1 := ⟨eg_X7_smear_0.1, rfl⟩
theorem d_X7_smear_1 : zD m_X7_smear 1 (.invokestatic 93) 3 4 := ⟨eg_X7_smear_0.2.1, rfl⟩
theorem d_X7_smear_4 : zDj m_X7_smear 4 (.ifCond .ne) 7 9 := ⟨5, eg_X7_smear_0.2.2.1, rfl, by decide⟩
theorem d_X7_smear_7 : zD m_X7_smear 7 (.iconst (-1)) 1 8 := ⟨eg_X7_smear_0.2.2.2.1, rfl⟩
theorem d_X7_smear_8 : decode (zcc m_X7_smear) 8 = .ok (.ireturn, 1) := eg_X7_smear_0.2.2.2.2.1
theorem d_X7_smear_9 : zD m_X7_smear 9 (.iconst 0) 1 10 := ⟨eg_X7_smear_0.2.2.2.2.2.1, rfl⟩
theorem d_X7_smear_10 : zD m_X7_smear 10 (.istore_n 2) 1 11 := ⟨eg_X7_smear_0.2.2.2.2.2.2.1, rfl⟩
theorem d_X7_smear_11 : zD m_X7_smear 11 (.iload_n 1) 1 12 := ⟨eg_X7_smear_0.2.2.2.2.2.2.2, rfl⟩
theorem d_X7_smear_12 : zD m_X7_smear 12 (.bipush 8) 2 14 := ⟨eg_X7_smear_8.1, rfl⟩
theorem d_X7_smear_14 : zD m_X7_smear 14 (.iadd) 1 15 := ⟨eg_X7_smear_8.2.1, rfl⟩
theorem d_X7_smear_15 : zD m_X7_smear 15 (.istore_n 3) 1 16 := ⟨eg_X7_smear_8.2.2.1, rfl⟩
theorem d_X7_smear_16 : zD m_X7_smear 16 (.iload_n 3) 1 17 := ⟨eg_X7_smear_8.2.2.2.1, rfl⟩
theorem d_X7_smear_17 : zD m_X7_smear 17 (.bipush 48) 2 19 := ⟨eg_X7_smear_8.2.2.2.2.1, rfl⟩
theorem d_X7_smear_19 : zDj m_X7_smear 19 (.if_icmp .ge) 22 40 := ⟨21, eg_X7_smear_8.2.2.2.2.2.1, rfl, by decide⟩
theorem d_X7_smear_22 : zD m_X7_smear 22 (.iload_n 2) 1 23 := ⟨eg_X7_smear_8.2.2.2.2.2.2.1, rfl⟩
theorem d_X7_smear_23 : zD m_X7_smear 23 (.aload_n 0) 1 24 := ⟨eg_X7_smear_8.2.2.2.2.2.2.2, rfl⟩
theorem d_X7_smear_24 : zD m_X7_smear 24 (.getfield 35) 3 27 := ⟨eg_X7_smear_16.1, rfl⟩
theorem d_X7_smear_27 : zD m_X7_smear 27 (.getfield 100) 3 30 := ⟨eg_X7_smear_16.2.1, rfl⟩
theorem d_X7_smear_30 : zD m_X7_smear 30 (.iload_n 3) 1 31 := ⟨eg_X7_smear_16.2.2.1, rfl⟩
theorem d_X7_smear_31 : zD m_X7_smear 31 (.iaload) 1 32 := ⟨eg_X7_smear_16.2.2.2.1, rfl⟩
theorem d_X7_smear_32 : zD m_X7_smear 32 (.iadd) 1 33 := ⟨eg_X7_smear_16.2.2.2.2.1, rfl⟩
theorem d_X7_smear_33 : zD m_X7_smear 33 (.istore_n 2) 1 34 := ⟨eg_X7_smear_16.2.2.2.2.2.1, rfl⟩
theorem d_X7_smear_34 : zD m_X7_smear 34 (.iinc 3 8) 3 37 := ⟨eg_X7_smear_16.2.2.2.2.2.2.1, rfl⟩
theorem d_X7_smear_37 : zDj m_X7_smear 37 (.goto) 40 16 := ⟨-21, eg_X7_smear_16.2.2.2.2.2.2.2, rfl, by decide⟩
theorem d_X7_smear_40 : zD m_X7_smear 40 (.iload_n 2) 1 41 := ⟨eg_X7_smear_24.1, rfl⟩
theorem d_X7_smear_41 : zD m_X7_smear 41 (.aload_n 0) 1 42 := ⟨eg_X7_smear_24.2.1, rfl⟩
theorem d_X7_smear_42 : zD m_X7_smear 42 (.getfield 19) 3 45 := ⟨eg_X7_smear_24.2.2.1, rfl⟩
theorem d_X7_smear_45 : zD m_X7_smear 45 (.getfield 89) 3 48 := ⟨eg_X7_smear_24.2.2.2.1, rfl⟩
theorem d_X7_smear_48 : zD m_X7_smear 48 (.iconst 3) 1 49 := ⟨eg_X7_smear_24.2.2.2.2.1, rfl⟩
theorem d_X7_smear_49 : zD m_X7_smear 49 (.iaload) 1 50 := ⟨eg_X7_smear_24.2.2.2.2.2.1, rfl⟩
theorem d_X7_smear_50 : zD m_X7_smear 50 (.imul) 1 51 := ⟨eg_X7_smear_24.2.2.2.2.2.2.1, rfl⟩
theorem d_X7_smear_51 : decode (zcc m_X7_smear) 51 = .ok (.ireturn, 1) := eg_X7_smear_24.2.2.2.2.2.2.2
set_option maxRecDepth 20000 in
theorem eg_X7_spoiled_0 : decode (zcc m_X7_spoiled) 0 = .ok (.iload_n 1, 1) ∧ decode (zcc m_X7_spoiled) 1 = .ok (.ifCond .eq (10), 3) ∧ decode (zcc m_X7_spoiled) 4 = .ok (.iload_n 1, 1) ∧ decode (zcc m_X7_spoiled) 5 = .ok (.iconst 1, 1) ∧ decode (zcc m_X7_spoiled) 6 = .ok (.if_icmp .eq (5), 3) ∧ decode (zcc m_X7_spoiled) 9 = .ok (.iconst (-1), 1) ∧ decode (zcc m_X7_spoiled) 10 = .ok (.ireturn, 1) ∧ decode (zcc m_X7_spoiled) 11 = .ok (.aload_n 0, 1) := by decide +kernel
set_option maxRecDepth 20000 in
theorem eg_X7_spoiled_8 : decode (zcc m_X7_spoiled) 12 = .ok (.getfield 50, 3) ∧ decode (zcc m_X7_spoiled) 15 = .ok (.aload_n 0, 1) ∧ decode (zcc m_X7_spoiled) 16 = .ok (.getfield 35, 3) ∧ decode (zcc m_X7_spoiled) 19 = .ok (.aload_n 0, 1) ∧ decode (zcc m_X7_spoiled) 20 = .ok (.getfield 19, 3) ∧ decode (zcc m_X7_spoiled) 23 = .ok (.iconst 1, 1) ∧ decode (zcc m_X7_spoiled) 24 = .ok (.iconst 1, 1) ∧ decode (zcc m_X7_spoiled) 25 = .ok (.iconst 1, 1) := by decide +kernel
set_option maxRecDepth 20000 in
theorem eg_X7_spoiled_16 : decode (zcc m_X7_spoiled) 26 = .ok (.invokevirtual 169, 3) ∧ decode (zcc m_X7_spoiled) 29 = .ok (.aload_n 0, 1) ∧ decode (zcc m_X7_spoiled) 30 = .ok (.getfield 54, 3) ∧ decode (zcc m_X7_spoiled) 33 = .ok (.aload_n 0, 1) ∧ decode (zcc m_X7_spoiled) 34 = .ok (.getfield 35, 3) ∧ decode (zcc m_X7_spoiled) 37 = .ok (.aload_n 0, 1) ∧ decode (zcc m_X7_spoiled) 38 = .ok (.getfield 19, 3) ∧ decode (zcc m_X7_spoiled) 41 = .ok (.iconst 1, 1) := by decide +kernel
set_option maxRecDepth 20000 in
theorem eg_X7_spoiled_24 : decode (zcc m_X7_spoiled) 42 = .ok (.iconst 1, 1) ∧ decode (zcc m_X7_spoiled) 43 = .ok (.iconst 0, 1) ∧ decode (zcc m_X7_spoiled) 44 = .ok (.invokevirtual 169, 3) ∧ decode (zcc m_X7_spoiled) 47 = .ok (.iconst 0, 1) ∧ decode (zcc m_X7_spoiled) 48 = .ok (.istore_n 2, 1) ∧ decode (zcc m_X7_spoiled) 49 = .ok (.iconst 0, 1) ∧ decode (zcc m_X7_spoiled) 50 = .ok (.istore_n 3, 1) ∧ decode (zcc m_X7_spoiled) 51 = .ok (.iconst 0, 1) := by decide +kernel
set_option maxRecDepth 20000 in
theorem eg_X7_spoiled_32 : decode (zcc m_X7_spoiled) 52 = .ok (.istore 4, 2) ∧ decode (zcc m_X7_spoiled) 54 = .ok (.iload 4, 2) ∧ decode (zcc m_X7_spoiled) 56 = .ok (.bipush 48, 2) ∧ decode (zcc m_X7_spoiled) 58 = .ok (.if_icmp .ge (55), 3) ∧ decode (zcc m_X7_spoiled) 61 = .ok (.aload_n 0, 1) ∧ decode (zcc m_X7_spoiled) 62 = .ok (.getfield 50, 3) ∧ decode (zcc m_X7_spoiled) 65 = .ok (.getfield 173, 3) ∧ decode (zcc m_X7_spoiled) 68 = .ok (.iload 4, 2) := by decide +kernel
set_option maxRecDepth 20000 in
theorem eg_X7_spoiled_40 : decode (zcc m_X7_spoiled) 70 = .ok (.iaload, 1) ∧ decode (zcc m_X7_spoiled) 71 = .ok (.aload_n 0, 1) ∧ decode (zcc m_X7_spoiled) 72 = .ok (.getfield 54, 3) ∧ decode (zcc m_X7_spoiled) 75 = .ok (.getfield 173, 3) ∧ decode (zcc m_X7_spoiled) 78 = .ok (.iload 4, 2) ∧ decode (zcc m_X7_spoiled) 80 = .ok (.iaload, 1) ∧ decode (zcc m_X7_spoiled) 81 = .ok (.isub, 1) ∧ decode (zcc m_X7_spoiled) 82 = .ok (.invokestatic 191, 3) := by decide +kernel
set_option maxRecDepth 20000 in
theorem eg_X7_spoiled_48 : decode (zcc m_X7_spoiled) 85 = .ok (.istore 5, 2) ∧ decode (zcc m_X7_spoiled) 87 = .ok (.iload_n 2, 1) ∧ decode (zcc m_X7_spoiled) 88 = .ok (.iload 5, 2) ∧ decode (zcc m_X7_spoiled) 90 = .ok (.ifCond .le (7), 3) ∧ decode (zcc m_X7_spoiled) 93 = .ok (.iconst 1, 1) ∧ decode (zcc m_X7_spoiled) 94 = .ok (.goto (4), 3) ∧ decode (zcc m_X7_spoiled) 97 = .ok (.iconst 0, 1) ∧ decode (zcc m_X7_spoiled) 98 = .ok (.iadd, 1) := by decide +kernel
set_option maxRecDepth 20000 in
theorem eg_X7_spoiled_56 : decode (zcc m_X7_spoiled) 99 = .ok (.istore_n 2, 1) ∧ decode (zcc m_X7_spoiled) 100 = .ok (.iload_n 3, 1) ∧ decode (zcc m_X7_spoiled) 101 = .ok (.iload 5, 2) ∧ decode (zcc m_X7_spoiled) 103 = .ok (.invokestatic 197, 3) ∧ decode (zcc m_X7_spoiled) 106 = .ok (.istore_n 3, 1) ∧ decode (zcc m_X7_spoiled) 107 = .ok (.iinc 4 1, 3) ∧ decode (zcc m_X7_spoiled) 110 = .ok (.goto (-56), 3) ∧ decode (zcc m_X7_spoiled) 113 = .ok (.iload_n 1, 1) := by decide +kernel
set_option maxRecDepth 20000 in
theorem eg_X7_spoiled_64 : decode (zcc m_X7_spoiled) 114 = .ok (.ifCond .ne (7), 3) ∧ decode (zcc m_X7_spoiled) 117 = .ok (.iload_n 2, 1) ∧ decode (zcc m_X7_spoiled) 118 = .ok (.goto (4), 3) ∧ decode (zcc m_X7_spoiled) 121 = .ok (.iload_n 3, 1) ∧ decode (zcc m_X7_spoiled) 122 = .ok (.ireturn, 1) := by decide +kernel
theorem d_X7_spoiled_0 : zD m_X7_spoiled 0 (.iload_n 1) 1 1 := ⟨eg_X7_spoiled_0.1, rfl⟩
theorem d_X7_spoiled_1 : zDj m_X7_spoiled 1 (.ifCond .eq) 4 11 := ⟨10, eg_X7_spoiled_0.2.1, rfl, by decide⟩
theorem d_X7_spoiled_4 : zD m_X7_spoiled 4 (.iload_n 1) 1 5 := ⟨eg_X7_spoiled_0.2.2.1, rfl⟩
theorem d_X7_spoiled_5 : zD m_X7_spoiled 5 (.iconst 1) 1 6 := ⟨eg_X7_spoiled_0.2.2.2.1, rfl⟩
theorem d_X7_spoiled_6 : zDj m_X7_spoiled 6 (.if_icmp .eq) 9 11 := ⟨5, eg_X7_spoiled_0.2.2.2.2.1, rfl, by decide⟩
theorem d_X7_spoiled_9 : zD m_X7_spoiled 9 (.iconst (-1)) 1 10 := ⟨eg_X7_spoiled_0.2.2.2.2.2.1, rfl⟩
theorem d_X7_spoiled_10 : decode (zcc m_X7_spoiled) 10 = .ok (.ireturn, 1) := eg_X7_spoiled_0.2.2.2.2.2.2.1
theorem d_X7_spoiled_11 : zD m_X7_spoiled 11 (.aload_n 0) 1 12 := ⟨eg_X7_spoiled_0.2.2.2.2.2.2.2, rfl⟩
theorem d_X7_spoiled_12 : zD m_X7_spoiled 12 (.getfield 50) 3 15 := ⟨eg_X7_spoiled_8.1, rfl⟩
theorem d_X7_spoiled_15 : zD m_X7_spoiled 15 (.aload_n 0) 1 16 := ⟨eg_X7_spoiled_8.2.1, rfl⟩
theorem d_X7_spoiled_16 : zD m_X7_spoiled 16 (.getfield 35) 3 19 := ⟨eg_X7_spoiled_8.2.2.1, rfl⟩
theorem d_X7_spoiled_19 : zD m_X7_spoiled 19 (.aload_n 0) 1 20 := ⟨eg_X7_spoiled_8.2.2.2.1, rfl⟩
theorem d_X7_spoiled_20 : zD m_X7_spoiled 20 (.getfield 19) 3 23 := ⟨eg_X7_spoiled_8.2.2.2.2.1, rfl⟩
theorem d_X7_spoiled_23 : zD m_X7_spoiled 23 (.iconst 1) 1 24 := ⟨eg_X7_spoiled_8.2.2.2.2.2.1, rfl⟩
theorem d_X7_spoiled_24 : zD m_X7_spoiled 24 (.iconst 1) 1 25 := ⟨eg_X7_spoiled_8.2.2.2.2.2.2.1, rfl⟩
theorem d_X7_spoiled_25 : zD m_X7_spoiled 25 (.iconst 1) 1 26 := ⟨eg_X7_spoiled_8.2.2.2.2.2.2.2, rfl⟩
theorem d_X7_spoiled_26 : zD m_X7_spoiled 26 (.invokevirtual 169) 3 29 := ⟨eg_X7_spoiled_16.1, rfl⟩
theorem d_X7_spoiled_29 : zD m_X7_spoiled 29 (.aload_n 0) 1 30 := ⟨eg_X7_spoiled_16.2.1, rfl⟩
theorem d_X7_spoiled_30 : zD m_X7_spoiled 30 (.getfield 54) 3 33 := ⟨eg_X7_spoiled_16.2.2.1, rfl⟩
theorem d_X7_spoiled_33 : zD m_X7_spoiled 33 (.aload_n 0) 1 34 := ⟨eg_X7_spoiled_16.2.2.2.1, rfl⟩
theorem d_X7_spoiled_34 : zD m_X7_spoiled 34 (.getfield 35) 3 37 := ⟨eg_X7_spoiled_16.2.2.2.2.1, rfl⟩
theorem d_X7_spoiled_37 : zD m_X7_spoiled 37 (.aload_n 0) 1 38 := ⟨eg_X7_spoiled_16.2.2.2.2.2.1, rfl⟩
theorem d_X7_spoiled_38 : zD m_X7_spoiled 38 (.getfield 19) 3 41 := ⟨eg_X7_spoiled_16.2.2.2.2.2.2.1, rfl⟩
theorem d_X7_spoiled_41 : zD m_X7_spoiled 41 (.iconst 1) 1 42 := ⟨eg_X7_spoiled_16.2.2.2.2.2.2.2, rfl⟩
theorem d_X7_spoiled_42 : zD m_X7_spoiled 42 (.iconst 1) 1 43 := ⟨eg_X7_spoiled_24.1, rfl⟩
theorem d_X7_spoiled_43 : zD m_X7_spoiled 43 (.iconst 0) 1 44 := ⟨eg_X7_spoiled_24.2.1, rfl⟩
theorem d_X7_spoiled_44 : zD m_X7_spoiled 44 (.invokevirtual 169) 3 47 := ⟨eg_X7_spoiled_24.2.2.1, rfl⟩
theorem d_X7_spoiled_47 : zD m_X7_spoiled 47 (.iconst 0) 1 48 := ⟨eg_X7_spoiled_24.2.2.2.1, rfl⟩
theorem d_X7_spoiled_48 : zD m_X7_spoiled 48 (.istore_n 2) 1 49 := ⟨eg_X7_spoiled_24.2.2.2.2.1, rfl⟩
theorem d_X7_spoiled_49 : zD m_X7_spoiled 49 (.iconst 0) 1 50 := ⟨eg_X7_spoiled_24.2.2.2.2.2.1, rfl⟩
theorem d_X7_spoiled_50 : zD m_X7_spoiled 50 (.istore_n 3) 1 51 := ⟨eg_X7_spoiled_24.2.2.2.2.2.2.1, rfl⟩
theorem d_X7_spoiled_51 : zD m_X7_spoiled 51 (.iconst 0) 1 52 := ⟨eg_X7_spoiled_24.2.2.2.2.2.2.2, rfl⟩
theorem d_X7_spoiled_52 : zD m_X7_spoiled 52 (.istore 4) 2 54 := ⟨eg_X7_spoiled_32.1, rfl⟩
theorem d_X7_spoiled_54 : zD m_X7_spoiled 54 (.iload 4) 2 56 := ⟨eg_X7_spoiled_32.2.1, rfl⟩
theorem d_X7_spoiled_56 : zD m_X7_spoiled 56 (.bipush 48) 2 58 := ⟨eg_X7_spoiled_32.2.2.1, rfl⟩
theorem d_X7_spoiled_58 : zDj m_X7_spoiled 58 (.if_icmp .ge) 61 113 := ⟨55, eg_X7_spoiled_32.2.2.2.1, rfl, by decide⟩
theorem d_X7_spoiled_61 : zD m_X7_spoiled 61 (.aload_n 0) 1 62 := ⟨eg_X7_spoiled_32.2.2.2.2.1, rfl⟩
theorem d_X7_spoiled_62 : zD m_X7_spoiled 62 (.getfield 50) 3 65 := ⟨eg_X7_spoiled_32.2.2.2.2.2.1, rfl⟩
theorem d_X7_spoiled_65 : zD m_X7_spoiled 65 (.getfield 173) 3 68 := ⟨eg_X7_spoiled_32.2.2.2.2.2.2.1, rfl⟩
theorem d_X7_spoiled_68 : zD m_X7_spoiled 68 (.iload 4) 2 70 := ⟨eg_X7_spoiled_32.2.2.2.2.2.2.2, rfl⟩
theorem d_X7_spoiled_70 : zD m_X7_spoiled 70 (.iaload) 1 71 := ⟨eg_X7_spoiled_40.1, rfl⟩
theorem d_X7_spoiled_71 : zD m_X7_spoiled 71 (.aload_n 0) 1 72 := ⟨eg_X7_spoiled_40.2.1, rfl⟩
theorem d_X7_spoiled_72 : zD m_X7_spoiled 72 (.getfield 54) 3 75 := ⟨eg_X7_spoiled_40.2.2.1, rfl⟩
theorem d_X7_spoiled_75 : zD m_X7_spoiled 75 (.getfield 173) 3 78 := ⟨eg_X7_spoiled_40.2.2.2.1, rfl⟩
theorem d_X7_spoiled_78 : zD m_X7_spoiled 78 (.iload 4) 2 80 := ⟨eg_X7_spoiled_40.2.2.2.2.1, rfl⟩
theorem d_X7_spoiled_80 : zD m_X7_spoiled 80 (.iaload) 1 81 := ⟨eg_X7_spoiled_40.2.2.2.2.2.1, rfl⟩
theorem d_X7_spoiled_81 : zD m_X7_spoiled 81 (.isub) 1 82 := ⟨eg_X7_spoiled_40.2.2.2.2.2.2.1, rfl⟩
theorem d_X7_spoiled_82 : zD m_X7_spoiled 82 (.invokestatic 191) 3 85 := ⟨eg_X7_spoiled_40.2.2.2.2.2.2.2, rfl⟩
theorem d_X7_spoiled_85 : zD m_X7_spoiled 85 (.istore 5) 2 87 := ⟨eg_X7_spoiled_48.1, rfl⟩
theorem d_X7_spoiled_87 : zD m_X7_spoiled 87 (.iload_n 2) 1 88 := ⟨eg_X7_spoiled_48.2.1, rfl⟩
theorem d_X7_spoiled_88 : zD m_X7_spoiled 88 (.iload 5) 2 90 := ⟨eg_X7_spoiled_48.2.2.1, rfl⟩
theorem d_X7_spoiled_90 : zDj m_X7_spoiled 90 (.ifCond .le) 93 97 := ⟨7, eg_X7_spoiled_48.2.2.2.1, rfl, by decide⟩
theorem d_X7_spoiled_93 : zD m_X7_spoiled 93 (.iconst 1) 1 94 := ⟨eg_X7_spoiled_48.2.2.2.2.1, rfl⟩
theorem d_X7_spoiled_94 : zDj m_X7_spoiled 94 (.goto) 97 98 := ⟨4, eg_X7_spoiled_48.2.2.2.2.2.1, rfl, by decide⟩
theorem d_X7_spoiled_97 : zD m_X7_spoiled 97 (.iconst 0) 1 98 := ⟨eg_X7_spoiled_48.2.2.2.2.2.2.1, rfl⟩
theorem d_X7_spoiled_98 : zD m_X7_spoiled 98 (.iadd) 1 99 := ⟨eg_X7_spoiled_48.2.2.2.2.2.2.2, rfl⟩
theorem d_X7_spoiled_99 : zD m_X7_spoiled 99 (.istore_n 2) 1 100 := ⟨eg_X7_spoiled_56.1, rfl⟩
theorem d_X7_spoiled_100 : zD m_X7_spoiled 100 (.iload_n 3) 1 101 := ⟨eg_X7_spoiled_56.2.1, rfl⟩
theorem d_X7_spoiled_101 : zD m_X7_spoiled 101 (.iload 5) 2 103 := ⟨eg_X7_spoiled_56.2.2.1, rfl⟩
theorem d_X7_spoiled_103 : zD m_X7_spoiled 103 (.invokestatic 197) 3 106 := ⟨eg_X7_spoiled_56.2.2.2.1, rfl⟩
theorem d_X7_spoiled_106 : zD m_X7_spoiled 106 (.istore_n 3) 1 107 := ⟨eg_X7_spoiled_56.2.2.2.2.1, rfl⟩
theorem d_X7_spoiled_107 : zD m_X7_spoiled 107 (.iinc 4 1) 3 110 := ⟨eg_X7_spoiled_56.2.2.2.2.2.1, rfl⟩
theorem d_X7_spoiled_110 : zDj m_X7_spoiled 110 (.goto) 113 54 := ⟨-56, eg_X7_spoiled_56.2.2.2.2.2.2.1, rfl, by decide⟩
theorem d_X7_spoiled_113 : zD m_X7_spoiled 113 (.iload_n 1) 1 114 := ⟨eg_X7_spoiled_56.2.2.2.2.2.2.2, rfl⟩
theorem d_X7_spoiled_114 : zDj m_X7_spoiled 114 (.ifCond .ne) 117 121 := ⟨7, eg_X7_spoiled_64.1, rfl, by decide⟩
theorem d_X7_spoiled_117 : zD m_X7_spoiled 117 (.iload_n 2) 1 118 := ⟨eg_X7_spoiled_64.2.1, rfl⟩
theorem d_X7_spoiled_118 : zDj m_X7_spoiled 118 (.goto) 121 122 := ⟨4, eg_X7_spoiled_64.2.2.1, rfl, by decide⟩
theorem d_X7_spoiled_121 : zD m_X7_spoiled 121 (.iload_n 3) 1 122 := ⟨eg_X7_spoiled_64.2.2.2.1, rfl⟩
theorem d_X7_spoiled_122 : decode (zcc m_X7_spoiled) 122 = .ok (.ireturn, 1) := eg_X7_spoiled_64.2.2.2.2
set_option maxRecDepth 20000 in
theorem eg_X7_full_0 : decode (zcc m_X7_full) 0 = .ok (.iload_n 1, 1) ∧ decode (zcc m_X7_full) 1 = .ok (.invokestatic 93, 3) ∧ decode (zcc m_X7_full) 4 = .ok (.ifCond .ne (5), 3) ∧ decode (zcc m_X7_full) 7 = .ok (.iconst (-1), 1) ∧ decode (zcc m_X7_full) 8 = .ok (.ireturn, 1) ∧ decode (zcc m_X7_full) 9 = .ok (.aload_n 0, 1) ∧ decode (zcc m_X7_full) 10 = .ok (.iload_n 1, 1) ∧ decode (zcc m_X7_full) 11 = .ok (.invokevirtual 200, 3) := by decide +kernel
set_option maxRecDepth 20000 in
theorem eg_X7_full_8 : decode (zcc m_X7_full) 14 = .ok (.istore_n 2, 1) ∧ decode (zcc m_X7_full) 15 = .ok (.iload_n 2, 1) ∧ decode (zcc m_X7_full) 16 = .ok (.iconst 1, 1) ∧ decode (zcc m_X7_full) 17 = .ok (.if_icmp .ge (8), 3) ∧ decode (zcc m_X7_full) 20 = .ok (.bipush (-4), 2) ∧ decode (zcc m_X7_full) 22 = .ok (.goto (16), 3) ∧ decode (zcc m_X7_full) 25 = .ok (.aload_n 0, 1) ∧ decode (zcc m_X7_full) 26 = .ok (.getfield 19, 3) := by decide +kernel
set_option maxRecDepth 20000 in
theorem eg_X7_full_16 : decode (zcc m_X7_full) 29 = .ok (.getfield 89, 3) ∧ decode (zcc m_X7_full) 32 = .ok (.iconst 0, 1) ∧ decode (zcc m_X7_full) 33 = .ok (.iaload, 1) ∧ decode (zcc m_X7_full) 34 = .ok (.iload_n 2, 1) ∧ decode (zcc m_X7_full) 35 = .ok (.invokestatic 165, 3) ∧ decode (zcc m_X7_full) 38 = .ok (.ireturn, 1) := by decide +kernel
theorem d_X7_full_0 : zD m_X7_full 0 (.iload_n 1) 1 1 := ⟨eg_X7_full_0.1, rfl⟩
theorem d_X7_full_1 : zD m_X7_full 1 (.invokestatic 93) 3 4 := ⟨eg_X7_full_0.2.1, rfl⟩
theorem d_X7_full_4 : zDj m_X7_full 4 (.ifCond .ne) 7 9 := ⟨5, eg_X7_full_0.2.2.1, rfl, by decide⟩
theorem d_X7_full_7 : zD m_X7_full 7 (.iconst (-1)) 1 8 := ⟨eg_X7_full_0.2.2.2.1, rfl⟩
theorem d_X7_full_8 : decode (zcc m_X7_full) 8 = .ok (.ireturn, 1) := eg_X7_full_0.2.2.2.2.1
theorem d_X7_full_9 : zD m_X7_full 9 (.aload_n 0) 1 10 := ⟨eg_X7_full_0.2.2.2.2.2.1, rfl⟩
theorem d_X7_full_10 : zD m_X7_full 10 (.iload_n 1) 1 11 := ⟨eg_X7_full_0.2.2.2.2.2.2.1, rfl⟩
theorem d_X7_full_11 : zD m_X7_full 11 (.invokevirtual 200) 3 14 := ⟨eg_X7_full_0.2.2.2.2.2.2.2, rfl⟩
theorem d_X7_full_14 : zD m_X7_full 14 (.istore_n 2) 1 15 := ⟨eg_X7_full_8.1, rfl⟩
theorem d_X7_full_15 : zD m_X7_full 15 (.iload_n 2) 1 16 := ⟨eg_X7_full_8.2.1, rfl⟩
theorem d_X7_full_16 : zD m_X7_full 16 (.iconst 1) 1 17 := ⟨eg_X7_full_8.2.2.1, rfl⟩
theorem d_X7_full_17 : zDj m_X7_full 17 (.if_icmp .ge) 20 25 := ⟨8, eg_X7_full_8.2.2.2.1, rfl, by decide⟩
theorem d_X7_full_20 : zD m_X7_full 20 (.bipush (-4)) 2 22 := ⟨eg_X7_full_8.2.2.2.2.1, rfl⟩
theorem d_X7_full_22 : zDj m_X7_full 22 (.goto) 25 38 := ⟨16, eg_X7_full_8.2.2.2.2.2.1, rfl, by decide⟩
theorem d_X7_full_25 : zD m_X7_full 25 (.aload_n 0) 1 26 := ⟨eg_X7_full_8.2.2.2.2.2.2.1, rfl⟩
theorem d_X7_full_26 : zD m_X7_full 26 (.getfield 19) 3 29 := ⟨eg_X7_full_8.2.2.2.2.2.2.2, rfl⟩
theorem d_X7_full_29 : zD m_X7_full 29 (.getfield 89) 3 32 := ⟨eg_X7_full_16.1, rfl⟩
theorem d_X7_full_32 : zD m_X7_full 32 (.iconst 0) 1 33 := ⟨eg_X7_full_16.2.1, rfl⟩
theorem d_X7_full_33 : zD m_X7_full 33 (.iaload) 1 34 := ⟨eg_X7_full_16.2.2.1, rfl⟩
theorem d_X7_full_34 : zD m_X7_full 34 (.iload_n 2) 1 35 := ⟨eg_X7_full_16.2.2.2.1, rfl⟩
theorem d_X7_full_35 : zD m_X7_full 35 (.invokestatic 165) 3 38 := ⟨eg_X7_full_16.2.2.2.2.1, rfl⟩
theorem d_X7_full_38 : decode (zcc m_X7_full) 38 = .ok (.ireturn, 1) := eg_X7_full_16.2.2.2.2.2
set_option maxRecDepth 20000 in
theorem eg_X7_longest_0 : decode (zcc m_X7_longest) 0 = .ok (.iconst 0, 1) ∧ decode (zcc m_X7_longest) 1 = .ok (.istore_n 1, 1) ∧ decode (zcc m_X7_longest) 2 = .ok (.iconst 0, 1) ∧ decode (zcc m_X7_longest) 3 = .ok (.istore_n 2, 1) ∧ decode (zcc m_X7_longest) 4 = .ok (.iload_n 2, 1) ∧ decode (zcc m_X7_longest) 5 = .ok (.bipush 48, 2) ∧ decode (zcc m_X7_longest) 7 = .ok (.if_icmp .ge (19), 3) ∧ decode (zcc m_X7_longest) 10 = .ok (.iload_n 1, 1) := by decide +kernel
set_option maxRecDepth 20000 in
theorem eg_X7_longest_8 : decode (zcc m_X7_longest) 11 = .ok (.aload_n 0, 1) ∧ decode (zcc m_X7_longest) 12 = .ok (.iload_n 2, 1) ∧ decode (zcc m_X7_longest) 13 = .ok (.invokevirtual 200, 3) ∧ decode (zcc m_X7_longest) 16 = .ok (.invokestatic 197, 3) ∧ decode (zcc m_X7_longest) 19 = .ok (.istore_n 1, 1) ∧ decode (zcc m_X7_longest) 20 = .ok (.iinc 2 1, 3) ∧ decode (zcc m_X7_longest) 23 = .ok (.goto (-19), 3) ∧ decode (zcc m_X7_longest) 26 = .ok (.iload_n 1, 1) := by decide +kernel
set_option maxRecDepth 20000 in
theorem eg_X7_longest_16 : decode (zcc m_X7_longest) 27 = .ok (.iconst 1, 1) ∧ decode (zcc m_X7_longest) 28 = .ok (.if_icmp .ge (9), 3) ∧ decode (zcc m_X7_longest) 31 = .ok (.sipush 999, 3) ∧ decode (zcc m_X7_longest) 34 = .ok (.goto (20), 3) ∧ decode (zcc m_X7_longest) 37 = .ok (.sipush 999, 3) ∧ decode (zcc m_X7_longest) 40 = .ok (.aload_n 0, 1) ∧ decode (zcc m_X7_longest) 41 = .ok (.getfield 19, 3) ∧ decode (zcc m_X7_longest) 44 = .ok (.getfield 89, 3) := by decide +kernel
set_option maxRecDepth 20000 in
theorem eg_X7_longest_24 : decode (zcc m_X7_longest) 47 = .ok (.iconst 0, 1) ∧ decode (zcc m_X7_longest) 48 = .ok (.iaload, 1) ∧ decode (zcc m_X7_longest) 49 = .ok (.iload_n 1, 1) ∧ decode (zcc m_X7_longest) 50 = .ok (.idiv, 1) ∧ decode (zcc m_X7_longest) 51 = .ok (.invokestatic 203, 3) ∧ decode (zcc m_X7_longest) 54 = .ok (.ireturn, 1) := by decide +kernel
theorem d_X7_longest_0 : zD m_X7_longest 0 (.iconst 0) 1 1 := ⟨eg_X7_longest_0.1, rfl⟩
theorem d_X7_longest_1 : zD m_X7_longest 1 (.istore_n 1) 1 2 := ⟨eg_X7_longest_0.2.1, rfl⟩
theorem d_X7_longest_2 : zD m_X7_longest 2 (.iconst 0) 1 3 := ⟨eg_X7_longest_0.2.2.1, rfl⟩
theorem d_X7_longest_3 : zD m_X7_longest 3 (.istore_n 2) 1 4 := ⟨eg_X7_longest_0.2.2.2.1, rfl⟩
theorem d_X7_longest_4 : zD m_X7_longest 4 (.iload_n 2) 1 5 := ⟨eg_X7_longest_0.2.2.2.2.1, rfl⟩
theorem d_X7_longest_5 : zD m_X7_longest 5 (.bipush 48) 2 7 := ⟨eg_X7_longest_0.2.2.2.2.2.1, rfl⟩
theorem d_X7_longest_7 : zDj m_X7_longest 7 (.if_icmp .ge) 10 26 := ⟨19, eg_X7_longest_0.2.2.2.2.2.2.1, rfl, by decide⟩
theorem d_X7_longest_10 : zD m_X7_longest 10 (.iload_n 1) 1 11 := ⟨eg_X7_longest_0.2.2.2.2.2.2.2, rfl⟩
theorem d_X7_longest_11 : zD m_X7_longest 11 (.aload_n 0) 1 12 := ⟨eg_X7_longest_8.1, rfl⟩
theorem d_X7_longest_12 : zD m_X7_longest 12 (.iload_n 2) 1 13 := ⟨eg_X7_longest_8.2.1, rfl⟩
theorem d_X7_longest_13 : zD m_X7_longest 13 (.invokevirtual 200) 3 16 := ⟨eg_X7_longest_8.2.2.1, rfl⟩
theorem d_X7_longest_16 : zD m_X7_longest 16 (.invokestatic 197) 3 19 := ⟨eg_X7_longest_8.2.2.2.1, rfl⟩
theorem d_X7_longest_19 : zD m_X7_longest 19 (.istore_n 1) 1 20 := ⟨eg_X7_longest_8.2.2.2.2.1, rfl⟩
theorem d_X7_longest_20 : zD m_X7_longest 20 (.iinc 2 1) 3 23 := ⟨eg_X7_longest_8.2.2.2.2.2.1, rfl⟩
theorem d_X7_longest_23 : zDj m_X7_longest 23 (.goto) 26 4 := ⟨-19, eg_X7_longest_8.2.2.2.2.2.2.1, rfl, by decide⟩
theorem d_X7_longest_26 : zD m_X7_longest 26 (.iload_n 1) 1 27 := ⟨eg_X7_longest_8.2.2.2.2.2.2.2, rfl⟩
theorem d_X7_longest_27 : zD m_X7_longest 27 (.iconst 1) 1 28 := ⟨eg_X7_longest_16.1, rfl⟩
theorem d_X7_longest_28 : zDj m_X7_longest 28 (.if_icmp .ge) 31 37 := ⟨9, eg_X7_longest_16.2.1, rfl, by decide⟩
theorem d_X7_longest_31 : zD m_X7_longest 31 (.sipush 999) 3 34 := ⟨eg_X7_longest_16.2.2.1, rfl⟩
theorem d_X7_longest_34 : zDj m_X7_longest 34 (.goto) 37 54 := ⟨20, eg_X7_longest_16.2.2.2.1, rfl, by decide⟩
theorem d_X7_longest_37 : zD m_X7_longest 37 (.sipush 999) 3 40 := ⟨eg_X7_longest_16.2.2.2.2.1, rfl⟩
theorem d_X7_longest_40 : zD m_X7_longest 40 (.aload_n 0) 1 41 := ⟨eg_X7_longest_16.2.2.2.2.2.1, rfl⟩
theorem d_X7_longest_41 : zD m_X7_longest 41 (.getfield 19) 3 44 := ⟨eg_X7_longest_16.2.2.2.2.2.2.1, rfl⟩
theorem d_X7_longest_44 : zD m_X7_longest 44 (.getfield 89) 3 47 := ⟨eg_X7_longest_16.2.2.2.2.2.2.2, rfl⟩
theorem d_X7_longest_47 : zD m_X7_longest 47 (.iconst 0) 1 48 := ⟨eg_X7_longest_24.1, rfl⟩
theorem d_X7_longest_48 : zD m_X7_longest 48 (.iaload) 1 49 := ⟨eg_X7_longest_24.2.1, rfl⟩
theorem d_X7_longest_49 : zD m_X7_longest 49 (.iload_n 1) 1 50 := ⟨eg_X7_longest_24.2.2.1, rfl⟩
theorem d_X7_longest_50 : zD m_X7_longest 50 (.idiv) 1 51 := ⟨eg_X7_longest_24.2.2.2.1, rfl⟩
theorem d_X7_longest_51 : zD m_X7_longest 51 (.invokestatic 203) 3 54 := ⟨eg_X7_longest_24.2.2.2.2.1, rfl⟩
theorem d_X7_longest_54 : decode (zcc m_X7_longest) 54 = .ok (.ireturn, 1) := eg_X7_longest_24.2.2.2.2.2
set_option maxRecDepth 20000 in
theorem eg_X7_enough_0 : decode (zcc m_X7_enough) 0 = .ok (.iload_n 1, 1) ∧ decode (zcc m_X7_enough) 1 = .ok (.iconst 1, 1) ∧ decode (zcc m_X7_enough) 2 = .ok (.if_icmp .lt (10), 3) ∧ decode (zcc m_X7_enough) 5 = .ok (.iload_n 1, 1) ∧ decode (zcc m_X7_enough) 6 = .ok (.sipush 999, 3) ∧ decode (zcc m_X7_enough) 9 = .ok (.if_icmp .le (5), 3) ∧ decode (zcc m_X7_enough) 12 = .ok (.iconst (-1), 1) ∧ decode (zcc m_X7_enough) 13 = .ok (.ireturn, 1) := by decide +kernel
set_option maxRecDepth 20000 in
theorem eg_X7_enough_8 : decode (zcc m_X7_enough) 14 = .ok (.iconst 1, 1) ∧ decode (zcc m_X7_enough) 15 = .ok (.istore_n 2, 1) ∧ decode (zcc m_X7_enough) 16 = .ok (.iconst 0, 1) ∧ decode (zcc m_X7_enough) 17 = .ok (.istore_n 3, 1) ∧ decode (zcc m_X7_enough) 18 = .ok (.iload_n 3, 1) ∧ decode (zcc m_X7_enough) 19 = .ok (.bipush 48, 2) ∧ decode (zcc m_X7_enough) 21 = .ok (.if_icmp .ge (35), 3) ∧ decode (zcc m_X7_enough) 24 = .ok (.aload_n 0, 1) := by decide +kernel
set_option maxRecDepth 20000 in
theorem eg_X7_enough_16 : decode (zcc m_X7_enough) 25 = .ok (.getfield 35, 3) ∧ decode (zcc m_X7_enough) 28 = .ok (.getfield 100, 3) ∧ decode (zcc m_X7_enough) 31 = .ok (.iload_n 3, 1) ∧ decode (zcc m_X7_enough) 32 = .ok (.iaload, 1) ∧ decode (zcc m_X7_enough) 33 = .ok (.ifCond .le (17), 3) ∧ decode (zcc m_X7_enough) 36 = .ok (.iload_n 2, 1) ∧ decode (zcc m_X7_enough) 37 = .ok (.iload_n 1, 1) ∧ decode (zcc m_X7_enough) 38 = .ok (.aload_n 0, 1) := by decide +kernel
set_option maxRecDepth 20000 in
theorem eg_X7_enough_24 : decode (zcc m_X7_enough) 39 = .ok (.iload_n 3, 1) ∧ decode (zcc m_X7_enough) 40 = .ok (.invokevirtual 200, 3) ∧ decode (zcc m_X7_enough) 43 = .ok (.invokestatic 165, 3) ∧ decode (zcc m_X7_enough) 46 = .ok (.invokestatic 197, 3) ∧ decode (zcc m_X7_enough) 49 = .ok (.istore_n 2, 1) ∧ decode (zcc m_X7_enough) 50 = .ok (.iinc 3 1, 3) ∧ decode (zcc m_X7_enough) 53 = .ok (.goto (-35), 3) ∧ decode (zcc m_X7_enough) 56 = .ok (.iload_n 2, 1) := by decide +kernel
set_option maxRecDepth 20000 in
theorem eg_X7_enough_32 : decode (zcc m_X7_enough) 57 = .ok (.aload_n 0, 1) ∧ decode (zcc m_X7_enough) 58 = .ok (.invokevirtual 206, 3) ∧ decode (zcc m_X7_enough) 61 = .ok (.if_icmp .gt (7), 3) ∧ decode (zcc m_X7_enough) 64 = .ok (.iload_n 2, 1) ∧ decode (zcc m_X7_enough) 65 = .ok (.goto (5), 3) ∧ decode (zcc m_X7_enough) 68 = .ok (.bipush (-4), 2) ∧ decode (zcc m_X7_enough) 70 = .ok (.ireturn, 1) := by decide +kernel
theorem d_X7_enough_0 : zD m_X7_enough 0 (.iload_n 1) 1 1 := ⟨eg_X7_enough_0.1, rfl⟩
theorem d_X7_enough_1 : zD m_X7_enough 1 (.iconst 1) 1 2 := ⟨eg_X7_enough_0.2.1, rfl⟩
theorem d_X7_enough_2 : zDj m_X7_enough 2 (.if_icmp .lt) 5 12 := ⟨10, eg_X7_enough_0.2.2.1, rfl, by decide⟩
theorem d_X7_enough_5 : zD m_X7_enough 5 (.iload_n 1) 1 6 := ⟨eg_X7_enough_0.2.2.2.1, rfl⟩
theorem d_X7_enough_6 : zD m_X7_enough 6 (.sipush 999) 3 9 := ⟨eg_X7_enough_0.2.2.2.2.1, rfl⟩
theorem d_X7_enough_9 : zDj m_X7_enough 9 (.if_icmp .le) 12 14 := ⟨5, eg_X7_enough_0.2.2.2.2.2.1, rfl, by decide⟩
theorem d_X7_enough_12 : zD m_X7_enough 12 (.iconst (-1)) 1 13 := ⟨eg_X7_enough_0.2.2.2.2.2.2.1, rfl⟩
theorem d_X7_enough_13 : decode (zcc m_X7_enough) 13 = .ok (.ireturn, 1) := eg_X7_enough_0.2.2.2.2.2.2.2
theorem d_X7_enough_14 : zD m_X7_enough 14 (.iconst 1) 1 15 := ⟨eg_X7_enough_8.1, rfl⟩
theorem d_X7_enough_15 : zD m_X7_enough 15 (.istore_n 2) 1 16 := ⟨eg_X7_enough_8.2.1, rfl⟩
theorem d_X7_enough_16 : zD m_X7_enough 16 (.iconst 0) 1 17 := ⟨eg_X7_enough_8.2.2.1, rfl⟩
theorem d_X7_enough_17 : zD m_X7_enough 17 (.istore_n 3) 1 18 := ⟨eg_X7_enough_8.2.2.2.1, rfl⟩
theorem d_X7_enough_18 : zD m_X7_enough 18 (.iload_n 3) 1 19 := ⟨eg_X7_enough_8.2.2.2.2.1, rfl⟩
theorem d_X7_enough_19 : zD m_X7_enough 19 (.bipush 48) 2 21 := ⟨eg_X7_enough_8.2.2.2.2.2.1, rfl⟩
theorem d_X7_enough_21 : zDj m_X7_enough 21 (.if_icmp .ge) 24 56 := ⟨35, eg_X7_enough_8.2.2.2.2.2.2.1, rfl, by decide⟩
theorem d_X7_enough_24 : zD m_X7_enough 24 (.aload_n 0) 1 25 := ⟨eg_X7_enough_8.2.2.2.2.2.2.2, rfl⟩
theorem d_X7_enough_25 : zD m_X7_enough 25 (.getfield 35) 3 28 := ⟨eg_X7_enough_16.1, rfl⟩
theorem d_X7_enough_28 : zD m_X7_enough 28 (.getfield 100) 3 31 := ⟨eg_X7_enough_16.2.1, rfl⟩
theorem d_X7_enough_31 : zD m_X7_enough 31 (.iload_n 3) 1 32 := ⟨eg_X7_enough_16.2.2.1, rfl⟩
theorem d_X7_enough_32 : zD m_X7_enough 32 (.iaload) 1 33 := ⟨eg_X7_enough_16.2.2.2.1, rfl⟩
theorem d_X7_enough_33 : zDj m_X7_enough 33 (.ifCond .le) 36 50 := ⟨17, eg_X7_enough_16.2.2.2.2.1, rfl, by decide⟩
theorem d_X7_enough_36 : zD m_X7_enough 36 (.iload_n 2) 1 37 := ⟨eg_X7_enough_16.2.2.2.2.2.1, rfl⟩
theorem d_X7_enough_37 : zD m_X7_enough 37 (.iload_n 1) 1 38 := ⟨eg_X7_enough_16.2.2.2.2.2.2.1, rfl⟩
theorem d_X7_enough_38 : zD m_X7_enough 38 (.aload_n 0) 1 39 := ⟨eg_X7_enough_16.2.2.2.2.2.2.2, rfl⟩
theorem d_X7_enough_39 : zD m_X7_enough 39 (.iload_n 3) 1 40 := ⟨eg_X7_enough_24.1, rfl⟩
theorem d_X7_enough_40 : zD m_X7_enough 40 (.invokevirtual 200) 3 43 := ⟨eg_X7_enough_24.2.1, rfl⟩
theorem d_X7_enough_43 : zD m_X7_enough 43 (.invokestatic 165) 3 46 := ⟨eg_X7_enough_24.2.2.1, rfl⟩
theorem d_X7_enough_46 : zD m_X7_enough 46 (.invokestatic 197) 3 49 := ⟨eg_X7_enough_24.2.2.2.1, rfl⟩
theorem d_X7_enough_49 : zD m_X7_enough 49 (.istore_n 2) 1 50 := ⟨eg_X7_enough_24.2.2.2.2.1, rfl⟩
theorem d_X7_enough_50 : zD m_X7_enough 50 (.iinc 3 1) 3 53 := ⟨eg_X7_enough_24.2.2.2.2.2.1, rfl⟩
theorem d_X7_enough_53 : zDj m_X7_enough 53 (.goto) 56 18 := ⟨-35, eg_X7_enough_24.2.2.2.2.2.2.1, rfl, by decide⟩
theorem d_X7_enough_56 : zD m_X7_enough 56 (.iload_n 2) 1 57 := ⟨eg_X7_enough_24.2.2.2.2.2.2.2, rfl⟩
theorem d_X7_enough_57 : zD m_X7_enough 57 (.aload_n 0) 1 58 := ⟨eg_X7_enough_32.1, rfl⟩
theorem d_X7_enough_58 : zD m_X7_enough 58 (.invokevirtual 206) 3 61 := ⟨eg_X7_enough_32.2.1, rfl⟩
theorem d_X7_enough_61 : zDj m_X7_enough 61 (.if_icmp .gt) 64 68 := ⟨7, eg_X7_enough_32.2.2.1, rfl, by decide⟩
theorem d_X7_enough_64 : zD m_X7_enough 64 (.iload_n 2) 1 65 := ⟨eg_X7_enough_32.2.2.2.1, rfl⟩
theorem d_X7_enough_65 : zDj m_X7_enough 65 (.goto) 68 70 := ⟨5, eg_X7_enough_32.2.2.2.2.1, rfl, by decide⟩
theorem d_X7_enough_68 : zD m_X7_enough 68 (.bipush (-4)) 2 70 := ⟨eg_X7_enough_32.2.2.2.2.2.1, rfl⟩
theorem d_X7_enough_70 : decode (zcc m_X7_enough) 70 = .ok (.ireturn, 1) := eg_X7_enough_32.2.2.2.2.2.2
set_option maxRecDepth 20000 in
theorem eg_X7_hots_0 : decode (zcc m_X7_hots) 0 = .ok (.iload_n 1, 1) ∧ decode (zcc m_X7_hots) 1 = .ok (.invokestatic 116, 3) ∧ decode (zcc m_X7_hots) 4 = .ok (.ifCond .eq (15), 3) ∧ decode (zcc m_X7_hots) 7 = .ok (.iload_n 2, 1) ∧ decode (zcc m_X7_hots) 8 = .ok (.iconst 1, 1) ∧ decode (zcc m_X7_hots) 9 = .ok (.if_icmp .lt (10), 3) ∧ decode (zcc m_X7_hots) 12 = .ok (.iload_n 2, 1) ∧ decode (zcc m_X7_hots) 13 = .ok (.sipush 9999, 3) := by decide +kernel
set_option maxRecDepth 20000 in
theorem eg_X7_hots_8 : decode (zcc m_X7_hots) 16 = .ok (.if_icmp .le (7), 3) ∧ decode (zcc m_X7_hots) 19 = .ok (.ldc2_w 157, 3) ∧ decode (zcc m_X7_hots) 22 = .ok (.lreturn, 1) ∧ decode (zcc m_X7_hots) 23 = .ok (.lconst 0, 1) ∧ decode (zcc m_X7_hots) 24 = .ok (.lstore_n 3, 1) ∧ decode (zcc m_X7_hots) 25 = .ok (.iconst 0, 1) ∧ decode (zcc m_X7_hots) 26 = .ok (.istore 5, 2) ∧ decode (zcc m_X7_hots) 28 = .ok (.iload 5, 2) := by decide +kernel
set_option maxRecDepth 20000 in
theorem eg_X7_hots_16 : decode (zcc m_X7_hots) 30 = .ok (.bipush 48, 2) ∧ decode (zcc m_X7_hots) 32 = .ok (.if_icmp .ge (42), 3) ∧ decode (zcc m_X7_hots) 35 = .ok (.aload_n 0, 1) ∧ decode (zcc m_X7_hots) 36 = .ok (.getfield 19, 3) ∧ decode (zcc m_X7_hots) 39 = .ok (.getfield 103, 3) ∧ decode (zcc m_X7_hots) 42 = .ok (.iload 5, 2) ∧ decode (zcc m_X7_hots) 44 = .ok (.iaload, 1) ∧ decode (zcc m_X7_hots) 45 = .ok (.aload_n 0, 1) := by decide +kernel
set_option maxRecDepth 20000 in
theorem eg_X7_hots_24 : decode (zcc m_X7_hots) 46 = .ok (.getfield 19, 3) ∧ decode (zcc m_X7_hots) 49 = .ok (.getfield 89, 3) ∧ decode (zcc m_X7_hots) 52 = .ok (.iconst 1, 1) ∧ decode (zcc m_X7_hots) 53 = .ok (.iaload, 1) ∧ decode (zcc m_X7_hots) 54 = .ok (.iadd, 1) ∧ decode (zcc m_X7_hots) 55 = .ok (.iload_n 1, 1) ∧ decode (zcc m_X7_hots) 56 = .ok (.imul, 1) ∧ decode (zcc m_X7_hots) 57 = .ok (.iload_n 2, 1) := by decide +kernel
set_option maxRecDepth 20000 in
theorem eg_X7_hots_32 : decode (zcc m_X7_hots) 58 = .ok (.if_icmp .lt (10), 3) ∧ decode (zcc m_X7_hots) 61 = .ok (.lload_n 3, 1) ∧ decode (zcc m_X7_hots) 62 = .ok (.lconst 1, 1) ∧ decode (zcc m_X7_hots) 63 = .ok (.iload 5, 2) ∧ decode (zcc m_X7_hots) 65 = .ok (.lshl, 1) ∧ decode (zcc m_X7_hots) 66 = .ok (.lor, 1) ∧ decode (zcc m_X7_hots) 67 = .ok (.lstore_n 3, 1) ∧ decode (zcc m_X7_hots) 68 = .ok (.iinc 5 1, 3) := by decide +kernel
set_option maxRecDepth 20000 in
theorem eg_X7_hots_40 : decode (zcc m_X7_hots) 71 = .ok (.goto (-43), 3) ∧ decode (zcc m_X7_hots) 74 = .ok (.lload_n 3, 1) ∧ decode (zcc m_X7_hots) 75 = .ok (.lreturn, 1) := by decide +kernel
theorem d_X7_hots_0 : zD m_X7_hots 0 (.iload_n 1) 1 1 := ⟨eg_X7_hots_0.1, rfl⟩
theorem d_X7_hots_1 : zD m_X7_hots 1 (.invokestatic 116) 3 4 := ⟨eg_X7_hots_0.2.1, rfl⟩
theorem d_X7_hots_4 : zDj m_X7_hots 4 (.ifCond .eq) 7 19 := ⟨15, eg_X7_hots_0.2.2.1, rfl, by decide⟩
theorem d_X7_hots_7 : zD m_X7_hots 7 (.iload_n 2) 1 8 := ⟨eg_X7_hots_0.2.2.2.1, rfl⟩
theorem d_X7_hots_8 : zD m_X7_hots 8 (.iconst 1) 1 9 := ⟨eg_X7_hots_0.2.2.2.2.1, rfl⟩
theorem d_X7_hots_9 : zDj m_X7_hots 9 (.if_icmp .lt) 12 19 := ⟨10, eg_X7_hots_0.2.2.2.2.2.1, rfl, by decide⟩
theorem d_X7_hots_12 : zD m_X7_hots 12 (.iload_n 2) 1 13 := ⟨eg_X7_hots_0.2.2.2.2.2.2.1, rfl⟩
theorem d_X7_hots_13 : zD m_X7_hots 13 (.sipush 9999) 3 16 := ⟨eg_X7_hots_0.2.2.2.2.2.2.2, rfl⟩
theorem d_X7_hots_16 : zDj m_X7_hots 16 (.if_icmp .le) 19 23 := ⟨7, eg_X7_hots_8.1, rfl, by decide⟩
theorem d_X7_hots_19 : zD m_X7_hots 19 (.ldc2_w 157) 3 22 := ⟨eg_X7_hots_8.2.1, rfl⟩
theorem d_X7_hots_22 : decode (zcc m_X7_hots) 22 = .ok (.lreturn, 1) := eg_X7_hots_8.2.2.1
theorem d_X7_hots_23 : zD m_X7_hots 23 (.lconst 0) 1 24 := ⟨eg_X7_hots_8.2.2.2.1, rfl⟩
theorem d_X7_hots_24 : zD m_X7_hots 24 (.lstore_n 3) 1 25 := ⟨eg_X7_hots_8.2.2.2.2.1, rfl⟩
theorem d_X7_hots_25 : zD m_X7_hots 25 (.iconst 0) 1 26 := ⟨eg_X7_hots_8.2.2.2.2.2.1, rfl⟩
theorem d_X7_hots_26 : zD m_X7_hots 26 (.istore 5) 2 28 := ⟨eg_X7_hots_8.2.2.2.2.2.2.1, rfl⟩
theorem d_X7_hots_28 : zD m_X7_hots 28 (.iload 5) 2 30 := ⟨eg_X7_hots_8.2.2.2.2.2.2.2, rfl⟩
theorem d_X7_hots_30 : zD m_X7_hots 30 (.bipush 48) 2 32 := ⟨eg_X7_hots_16.1, rfl⟩
theorem d_X7_hots_32 : zDj m_X7_hots 32 (.if_icmp .ge) 35 74 := ⟨42, eg_X7_hots_16.2.1, rfl, by decide⟩
theorem d_X7_hots_35 : zD m_X7_hots 35 (.aload_n 0) 1 36 := ⟨eg_X7_hots_16.2.2.1, rfl⟩
theorem d_X7_hots_36 : zD m_X7_hots 36 (.getfield 19) 3 39 := ⟨eg_X7_hots_16.2.2.2.1, rfl⟩
theorem d_X7_hots_39 : zD m_X7_hots 39 (.getfield 103) 3 42 := ⟨eg_X7_hots_16.2.2.2.2.1, rfl⟩
theorem d_X7_hots_42 : zD m_X7_hots 42 (.iload 5) 2 44 := ⟨eg_X7_hots_16.2.2.2.2.2.1, rfl⟩
theorem d_X7_hots_44 : zD m_X7_hots 44 (.iaload) 1 45 := ⟨eg_X7_hots_16.2.2.2.2.2.2.1, rfl⟩
theorem d_X7_hots_45 : zD m_X7_hots 45 (.aload_n 0) 1 46 := ⟨eg_X7_hots_16.2.2.2.2.2.2.2, rfl⟩
theorem d_X7_hots_46 : zD m_X7_hots 46 (.getfield 19) 3 49 := ⟨eg_X7_hots_24.1, rfl⟩
theorem d_X7_hots_49 : zD m_X7_hots 49 (.getfield 89) 3 52 := ⟨eg_X7_hots_24.2.1, rfl⟩
theorem d_X7_hots_52 : zD m_X7_hots 52 (.iconst 1) 1 53 := ⟨eg_X7_hots_24.2.2.1, rfl⟩
theorem d_X7_hots_53 : zD m_X7_hots 53 (.iaload) 1 54 := ⟨eg_X7_hots_24.2.2.2.1, rfl⟩
theorem d_X7_hots_54 : zD m_X7_hots 54 (.iadd) 1 55 := ⟨eg_X7_hots_24.2.2.2.2.1, rfl⟩
theorem d_X7_hots_55 : zD m_X7_hots 55 (.iload_n 1) 1 56 := ⟨eg_X7_hots_24.2.2.2.2.2.1, rfl⟩
theorem d_X7_hots_56 : zD m_X7_hots 56 (.imul) 1 57 := ⟨eg_X7_hots_24.2.2.2.2.2.2.1, rfl⟩
theorem d_X7_hots_57 : zD m_X7_hots 57 (.iload_n 2) 1 58 := ⟨eg_X7_hots_24.2.2.2.2.2.2.2, rfl⟩
theorem d_X7_hots_58 : zDj m_X7_hots 58 (.if_icmp .lt) 61 68 := ⟨10, eg_X7_hots_32.1, rfl, by decide⟩
theorem d_X7_hots_61 : zD m_X7_hots 61 (.lload_n 3) 1 62 := ⟨eg_X7_hots_32.2.1, rfl⟩
theorem d_X7_hots_62 : zD m_X7_hots 62 (.lconst 1) 1 63 := ⟨eg_X7_hots_32.2.2.1, rfl⟩
theorem d_X7_hots_63 : zD m_X7_hots 63 (.iload 5) 2 65 := ⟨eg_X7_hots_32.2.2.2.1, rfl⟩
theorem d_X7_hots_65 : zD m_X7_hots 65 (.lshl) 1 66 := ⟨eg_X7_hots_32.2.2.2.2.1, rfl⟩
theorem d_X7_hots_66 : zD m_X7_hots 66 (.lor) 1 67 := ⟨eg_X7_hots_32.2.2.2.2.2.1, rfl⟩
theorem d_X7_hots_67 : zD m_X7_hots 67 (.lstore_n 3) 1 68 := ⟨eg_X7_hots_32.2.2.2.2.2.2.1, rfl⟩
theorem d_X7_hots_68 : zD m_X7_hots 68 (.iinc 5 1) 3 71 := ⟨eg_X7_hots_32.2.2.2.2.2.2.2, rfl⟩
theorem d_X7_hots_71 : zDj m_X7_hots 71 (.goto) 74 28 := ⟨-43, eg_X7_hots_40.1, rfl, by decide⟩
theorem d_X7_hots_74 : zD m_X7_hots 74 (.lload_n 3) 1 75 := ⟨eg_X7_hots_40.2.1, rfl⟩
theorem d_X7_hots_75 : decode (zcc m_X7_hots) 75 = .ok (.lreturn, 1) := eg_X7_hots_40.2.2
set_option maxRecDepth 20000 in
theorem eg_X7_mended_0 : decode (zcc m_X7_mended) 0 = .ok (.iload_n 1, 1) ∧ decode (zcc m_X7_mended) 1 = .ok (.invokestatic 93, 3) ∧ decode (zcc m_X7_mended) 4 = .ok (.ifCond .ne (5), 3) ∧ decode (zcc m_X7_mended) 7 = .ok (.iconst (-1), 1) ∧ decode (zcc m_X7_mended) 8 = .ok (.ireturn, 1) ∧ decode (zcc m_X7_mended) 9 = .ok (.iload_n 1, 1) ∧ decode (zcc m_X7_mended) 10 = .ok (.bipush 8, 2) ∧ decode (zcc m_X7_mended) 12 = .ok (.irem, 1) := by decide +kernel
set_option maxRecDepth 20000 in
theorem eg_X7_mended_8 : decode (zcc m_X7_mended) 13 = .ok (.istore_n 2, 1) ∧ decode (zcc m_X7_mended) 14 = .ok (.iconst 0, 1) ∧ decode (zcc m_X7_mended) 15 = .ok (.istore_n 3, 1) ∧ decode (zcc m_X7_mended) 16 = .ok (.iconst 0, 1) ∧ decode (zcc m_X7_mended) 17 = .ok (.istore 4, 2) ∧ decode (zcc m_X7_mended) 19 = .ok (.iconst 0, 1) ∧ decode (zcc m_X7_mended) 20 = .ok (.istore 5, 2) ∧ decode (zcc m_X7_mended) 22 = .ok (.iload 5, 2) := by decide +kernel
set_option maxRecDepth 20000 in
theorem eg_X7_mended_16 : decode (zcc m_X7_mended) 24 = .ok (.iconst 4, 1) ∧ decode (zcc m_X7_mended) 25 = .ok (.if_icmp .ge (55), 3) ∧ decode (zcc m_X7_mended) 28 = .ok (.iload_n 1, 1) ∧ decode (zcc m_X7_mended) 29 = .ok (.iload_n 2, 1) ∧ decode (zcc m_X7_mended) 30 = .ok (.iload 5, 2) ∧ decode (zcc m_X7_mended) 32 = .ok (.invokestatic 209, 3) ∧ decode (zcc m_X7_mended) 35 = .ok (.istore 6, 2) ∧ decode (zcc m_X7_mended) 37 = .ok (.iload 6, 2) := by decide +kernel
set_option maxRecDepth 20000 in
theorem eg_X7_mended_24 : decode (zcc m_X7_mended) 39 = .ok (.invokestatic 93, 3) ∧ decode (zcc m_X7_mended) 42 = .ok (.ifCond .eq (32), 3) ∧ decode (zcc m_X7_mended) 45 = .ok (.aload_n 0, 1) ∧ decode (zcc m_X7_mended) 46 = .ok (.getfield 19, 3) ∧ decode (zcc m_X7_mended) 49 = .ok (.getfield 103, 3) ∧ decode (zcc m_X7_mended) 52 = .ok (.iload 6, 2) ∧ decode (zcc m_X7_mended) 54 = .ok (.iaload, 1) ∧ decode (zcc m_X7_mended) 55 = .ok (.ifCond .ne (19), 3) := by decide +kernel
set_option maxRecDepth 20000 in
theorem eg_X7_mended_32 : decode (zcc m_X7_mended) 58 = .ok (.iload_n 3, 1) ∧ decode (zcc m_X7_mended) 59 = .ok (.aload_n 0, 1) ∧ decode (zcc m_X7_mended) 60 = .ok (.getfield 35, 3) ∧ decode (zcc m_X7_mended) 63 = .ok (.getfield 97, 3) ∧ decode (zcc m_X7_mended) 66 = .ok (.iload 6, 2) ∧ decode (zcc m_X7_mended) 68 = .ok (.iaload, 1) ∧ decode (zcc m_X7_mended) 69 = .ok (.iadd, 1) ∧ decode (zcc m_X7_mended) 70 = .ok (.istore_n 3, 1) := by decide +kernel
set_option maxRecDepth 20000 in
theorem eg_X7_mended_40 : decode (zcc m_X7_mended) 71 = .ok (.iinc 4 1, 3) ∧ decode (zcc m_X7_mended) 74 = .ok (.iinc 5 1, 3) ∧ decode (zcc m_X7_mended) 77 = .ok (.goto (-55), 3) ∧ decode (zcc m_X7_mended) 80 = .ok (.iload 4, 2) ∧ decode (zcc m_X7_mended) 82 = .ok (.ifCond .ne (8), 3) ∧ decode (zcc m_X7_mended) 85 = .ok (.bipush (-4), 2) ∧ decode (zcc m_X7_mended) 87 = .ok (.goto (7), 3) ∧ decode (zcc m_X7_mended) 90 = .ok (.iload_n 3, 1) := by decide +kernel
set_option maxRecDepth 20000 in
theorem eg_X7_mended_48 : decode (zcc m_X7_mended) 91 = .ok (.iload 4, 2) ∧ decode (zcc m_X7_mended) 93 = .ok (.idiv, 1) ∧ decode (zcc m_X7_mended) 94 = .ok (.ireturn, 1) := by decide +kernel
theorem d_X7_mended_0 : zD m_X7_mended 0 (.iload_n 1) 1 1 := ⟨eg_X7_mended_0.1, rfl⟩
theorem d_X7_mended_1 : zD m_X7_mended 1 (.invokestatic 93) 3 4 := ⟨eg_X7_mended_0.2.1, rfl⟩
theorem d_X7_mended_4 : zDj m_X7_mended 4 (.ifCond .ne) 7 9 := ⟨5, eg_X7_mended_0.2.2.1, rfl, by decide⟩
theorem d_X7_mended_7 : zD m_X7_mended 7 (.iconst (-1)) 1 8 := ⟨eg_X7_mended_0.2.2.2.1, rfl⟩
theorem d_X7_mended_8 : decode (zcc m_X7_mended) 8 = .ok (.ireturn, 1) := eg_X7_mended_0.2.2.2.2.1
theorem d_X7_mended_9 : zD m_X7_mended 9 (.iload_n 1) 1 10 := ⟨eg_X7_mended_0.2.2.2.2.2.1, rfl⟩
theorem d_X7_mended_10 : zD m_X7_mended 10 (.bipush 8) 2 12 := ⟨eg_X7_mended_0.2.2.2.2.2.2.1, rfl⟩
theorem d_X7_mended_12 : zD m_X7_mended 12 (.irem) 1 13 := ⟨eg_X7_mended_0.2.2.2.2.2.2.2, rfl⟩
theorem d_X7_mended_13 : zD m_X7_mended 13 (.istore_n 2) 1 14 := ⟨eg_X7_mended_8.1, rfl⟩
theorem d_X7_mended_14 : zD m_X7_mended 14 (.iconst 0) 1 15 := ⟨eg_X7_mended_8.2.1, rfl⟩
theorem d_X7_mended_15 : zD m_X7_mended 15 (.istore_n 3) 1 16 := ⟨eg_X7_mended_8.2.2.1, rfl⟩
theorem d_X7_mended_16 : zD m_X7_mended 16 (.iconst 0) 1 17 := ⟨eg_X7_mended_8.2.2.2.1, rfl⟩
theorem d_X7_mended_17 : zD m_X7_mended 17 (.istore 4) 2 19 := ⟨eg_X7_mended_8.2.2.2.2.1, rfl⟩
theorem d_X7_mended_19 : zD m_X7_mended 19 (.iconst 0) 1 20 := ⟨eg_X7_mended_8.2.2.2.2.2.1, rfl⟩
theorem d_X7_mended_20 : zD m_X7_mended 20 (.istore 5) 2 22 := ⟨eg_X7_mended_8.2.2.2.2.2.2.1, rfl⟩
theorem d_X7_mended_22 : zD m_X7_mended 22 (.iload 5) 2 24 := ⟨eg_X7_mended_8.2.2.2.2.2.2.2, rfl⟩
theorem d_X7_mended_24 : zD m_X7_mended 24 (.iconst 4) 1 25 := ⟨eg_X7_mended_16.1, rfl⟩
theorem d_X7_mended_25 : zDj m_X7_mended 25 (.if_icmp .ge) 28 80 := ⟨55, eg_X7_mended_16.2.1, rfl, by decide⟩
theorem d_X7_mended_28 : zD m_X7_mended 28 (.iload_n 1) 1 29 := ⟨eg_X7_mended_16.2.2.1, rfl⟩
theorem d_X7_mended_29 : zD m_X7_mended 29 (.iload_n 2) 1 30 := ⟨eg_X7_mended_16.2.2.2.1, rfl⟩
theorem d_X7_mended_30 : zD m_X7_mended 30 (.iload 5) 2 32 := ⟨eg_X7_mended_16.2.2.2.2.1, rfl⟩
theorem d_X7_mended_32 : zD m_X7_mended 32 (.invokestatic 209) 3 35 := ⟨eg_X7_mended_16.2.2.2.2.2.1, rfl⟩
theorem d_X7_mended_35 : zD m_X7_mended 35 (.istore 6) 2 37 := ⟨eg_X7_mended_16.2.2.2.2.2.2.1, rfl⟩
theorem d_X7_mended_37 : zD m_X7_mended 37 (.iload 6) 2 39 := ⟨eg_X7_mended_16.2.2.2.2.2.2.2, rfl⟩
theorem d_X7_mended_39 : zD m_X7_mended 39 (.invokestatic 93) 3 42 := ⟨eg_X7_mended_24.1, rfl⟩
theorem d_X7_mended_42 : zDj m_X7_mended 42 (.ifCond .eq) 45 74 := ⟨32, eg_X7_mended_24.2.1, rfl, by decide⟩
theorem d_X7_mended_45 : zD m_X7_mended 45 (.aload_n 0) 1 46 := ⟨eg_X7_mended_24.2.2.1, rfl⟩
theorem d_X7_mended_46 : zD m_X7_mended 46 (.getfield 19) 3 49 := ⟨eg_X7_mended_24.2.2.2.1, rfl⟩
theorem d_X7_mended_49 : zD m_X7_mended 49 (.getfield 103) 3 52 := ⟨eg_X7_mended_24.2.2.2.2.1, rfl⟩
theorem d_X7_mended_52 : zD m_X7_mended 52 (.iload 6) 2 54 := ⟨eg_X7_mended_24.2.2.2.2.2.1, rfl⟩
theorem d_X7_mended_54 : zD m_X7_mended 54 (.iaload) 1 55 := ⟨eg_X7_mended_24.2.2.2.2.2.2.1, rfl⟩
theorem d_X7_mended_55 : zDj m_X7_mended 55 (.ifCond .ne) 58 74 := ⟨19, eg_X7_mended_24.2.2.2.2.2.2.2, rfl, by decide⟩
theorem d_X7_mended_58 : zD m_X7_mended 58 (.iload_n 3) 1 59 := ⟨eg_X7_mended_32.1, rfl⟩
theorem d_X7_mended_59 : zD m_X7_mended 59 (.aload_n 0) 1 60 := ⟨eg_X7_mended_32.2.1, rfl⟩
theorem d_X7_mended_60 : zD m_X7_mended 60 (.getfield 35) 3 63 := ⟨eg_X7_mended_32.2.2.1, rfl⟩
theorem d_X7_mended_63 : zD m_X7_mended 63 (.getfield 97) 3 66 := ⟨eg_X7_mended_32.2.2.2.1, rfl⟩
theorem d_X7_mended_66 : zD m_X7_mended 66 (.iload 6) 2 68 := ⟨eg_X7_mended_32.2.2.2.2.1, rfl⟩
theorem d_X7_mended_68 : zD m_X7_mended 68 (.iaload) 1 69 := ⟨eg_X7_mended_32.2.2.2.2.2.1, rfl⟩
theorem d_X7_mended_69 : zD m_X7_mended 69 (.iadd) 1 70 := ⟨eg_X7_mended_32.2.2.2.2.2.2.1, rfl⟩
theorem d_X7_mended_70 : zD m_X7_mended 70 (.istore_n 3) 1 71 := ⟨eg_X7_mended_32.2.2.2.2.2.2.2, rfl⟩
theorem d_X7_mended_71 : zD m_X7_mended 71 (.iinc 4 1) 3 74 := ⟨eg_X7_mended_40.1, rfl⟩
theorem d_X7_mended_74 : zD m_X7_mended 74 (.iinc 5 1) 3 77 := ⟨eg_X7_mended_40.2.1, rfl⟩
theorem d_X7_mended_77 : zDj m_X7_mended 77 (.goto) 80 22 := ⟨-55, eg_X7_mended_40.2.2.1, rfl, by decide⟩
theorem d_X7_mended_80 : zD m_X7_mended 80 (.iload 4) 2 82 := ⟨eg_X7_mended_40.2.2.2.1, rfl⟩
theorem d_X7_mended_82 : zDj m_X7_mended 82 (.ifCond .ne) 85 90 := ⟨8, eg_X7_mended_40.2.2.2.2.1, rfl, by decide⟩
theorem d_X7_mended_85 : zD m_X7_mended 85 (.bipush (-4)) 2 87 := ⟨eg_X7_mended_40.2.2.2.2.2.1, rfl⟩
theorem d_X7_mended_87 : zDj m_X7_mended 87 (.goto) 90 94 := ⟨7, eg_X7_mended_40.2.2.2.2.2.2.1, rfl, by decide⟩
theorem d_X7_mended_90 : zD m_X7_mended 90 (.iload_n 3) 1 91 := ⟨eg_X7_mended_40.2.2.2.2.2.2.2, rfl⟩
theorem d_X7_mended_91 : zD m_X7_mended 91 (.iload 4) 2 93 := ⟨eg_X7_mended_48.1, rfl⟩
theorem d_X7_mended_93 : zD m_X7_mended 93 (.idiv) 1 94 := ⟨eg_X7_mended_48.2.1, rfl⟩
theorem d_X7_mended_94 : decode (zcc m_X7_mended) 94 = .ok (.ireturn, 1) := eg_X7_mended_48.2.2
set_option maxRecDepth 20000 in
theorem eg_X7_word_0 : decode (zcc m_X7_word) 0 = .ok (.aload_n 0, 1) ∧ decode (zcc m_X7_word) 1 = .ok (.iload_n 1, 1) ∧ decode (zcc m_X7_word) 2 = .ok (.invokevirtual 213, 3) ∧ decode (zcc m_X7_word) 5 = .ok (.ifCond .ne (5), 3) ∧ decode (zcc m_X7_word) 8 = .ok (.iconst (-1), 1) ∧ decode (zcc m_X7_word) 9 = .ok (.ireturn, 1) ∧ decode (zcc m_X7_word) 10 = .ok (.aload_n 0, 1) ∧ decode (zcc m_X7_word) 11 = .ok (.getfield 19, 3) := by decide +kernel
set_option maxRecDepth 20000 in
theorem eg_X7_word_8 : decode (zcc m_X7_word) 14 = .ok (.getfield 216, 3) ∧ decode (zcc m_X7_word) 17 = .ok (.bipush 12, 2) ∧ decode (zcc m_X7_word) 19 = .ok (.if_icmp .lt (6), 3) ∧ decode (zcc m_X7_word) 22 = .ok (.bipush (-3), 2) ∧ decode (zcc m_X7_word) 24 = .ok (.ireturn, 1) ∧ decode (zcc m_X7_word) 25 = .ok (.aload_n 0, 1) ∧ decode (zcc m_X7_word) 26 = .ok (.getfield 19, 3) ∧ decode (zcc m_X7_word) 29 = .ok (.getfield 219, 3) := by decide +kernel
set_option maxRecDepth 20000 in
theorem eg_X7_word_16 : decode (zcc m_X7_word) 32 = .ok (.aload_n 0, 1) ∧ decode (zcc m_X7_word) 33 = .ok (.getfield 19, 3) ∧ decode (zcc m_X7_word) 36 = .ok (.getfield 216, 3) ∧ decode (zcc m_X7_word) 39 = .ok (.iload_n 1, 1) ∧ decode (zcc m_X7_word) 40 = .ok (.iastore, 1) ∧ decode (zcc m_X7_word) 41 = .ok (.aload_n 0, 1) ∧ decode (zcc m_X7_word) 42 = .ok (.getfield 19, 3) ∧ decode (zcc m_X7_word) 45 = .ok (.dup, 1) := by decide +kernel
set_option maxRecDepth 20000 in
theorem eg_X7_word_24 : decode (zcc m_X7_word) 46 = .ok (.getfield 216, 3) ∧ decode (zcc m_X7_word) 49 = .ok (.iconst 1, 1) ∧ decode (zcc m_X7_word) 50 = .ok (.iadd, 1) ∧ decode (zcc m_X7_word) 51 = .ok (.putfield 216, 3) ∧ decode (zcc m_X7_word) 54 = .ok (.aload_n 0, 1) ∧ decode (zcc m_X7_word) 55 = .ok (.getfield 19, 3) ∧ decode (zcc m_X7_word) 58 = .ok (.getfield 216, 3) ∧ decode (zcc m_X7_word) 61 = .ok (.ireturn, 1) := by decide +kernel
theorem d_X7_word_0 : zD m_X7_word 0 (.aload_n 0) 1 1 := ⟨eg_X7_word_0.1, rfl⟩
theorem d_X7_word_1 : zD m_X7_word 1 (.iload_n 1) 1 2 := ⟨eg_X7_word_0.2.1, rfl⟩
theorem d_X7_word_2 : zD m_X7_word 2 (.invokevirtual 213) 3 5 := ⟨eg_X7_word_0.2.2.1, rfl⟩
theorem d_X7_word_5 : zDj m_X7_word 5 (.ifCond .ne) 8 10 := ⟨5, eg_X7_word_0.2.2.2.1, rfl, by decide⟩
theorem d_X7_word_8 : zD m_X7_word 8 (.iconst (-1)) 1 9 := ⟨eg_X7_word_0.2.2.2.2.1, rfl⟩
theorem d_X7_word_9 : decode (zcc m_X7_word) 9 = .ok (.ireturn, 1) := eg_X7_word_0.2.2.2.2.2.1
theorem d_X7_word_10 : zD m_X7_word 10 (.aload_n 0) 1 11 := ⟨eg_X7_word_0.2.2.2.2.2.2.1, rfl⟩
theorem d_X7_word_11 : zD m_X7_word 11 (.getfield 19) 3 14 := ⟨eg_X7_word_0.2.2.2.2.2.2.2, rfl⟩
theorem d_X7_word_14 : zD m_X7_word 14 (.getfield 216) 3 17 := ⟨eg_X7_word_8.1, rfl⟩
theorem d_X7_word_17 : zD m_X7_word 17 (.bipush 12) 2 19 := ⟨eg_X7_word_8.2.1, rfl⟩
theorem d_X7_word_19 : zDj m_X7_word 19 (.if_icmp .lt) 22 25 := ⟨6, eg_X7_word_8.2.2.1, rfl, by decide⟩
theorem d_X7_word_22 : zD m_X7_word 22 (.bipush (-3)) 2 24 := ⟨eg_X7_word_8.2.2.2.1, rfl⟩
theorem d_X7_word_24 : decode (zcc m_X7_word) 24 = .ok (.ireturn, 1) := eg_X7_word_8.2.2.2.2.1
theorem d_X7_word_25 : zD m_X7_word 25 (.aload_n 0) 1 26 := ⟨eg_X7_word_8.2.2.2.2.2.1, rfl⟩
theorem d_X7_word_26 : zD m_X7_word 26 (.getfield 19) 3 29 := ⟨eg_X7_word_8.2.2.2.2.2.2.1, rfl⟩
theorem d_X7_word_29 : zD m_X7_word 29 (.getfield 219) 3 32 := ⟨eg_X7_word_8.2.2.2.2.2.2.2, rfl⟩
theorem d_X7_word_32 : zD m_X7_word 32 (.aload_n 0) 1 33 := ⟨eg_X7_word_16.1, rfl⟩
theorem d_X7_word_33 : zD m_X7_word 33 (.getfield 19) 3 36 := ⟨eg_X7_word_16.2.1, rfl⟩
theorem d_X7_word_36 : zD m_X7_word 36 (.getfield 216) 3 39 := ⟨eg_X7_word_16.2.2.1, rfl⟩
theorem d_X7_word_39 : zD m_X7_word 39 (.iload_n 1) 1 40 := ⟨eg_X7_word_16.2.2.2.1, rfl⟩
theorem d_X7_word_40 : zD m_X7_word 40 (.iastore) 1 41 := ⟨eg_X7_word_16.2.2.2.2.1, rfl⟩
theorem d_X7_word_41 : zD m_X7_word 41 (.aload_n 0) 1 42 := ⟨eg_X7_word_16.2.2.2.2.2.1, rfl⟩
theorem d_X7_word_42 : zD m_X7_word 42 (.getfield 19) 3 45 := ⟨eg_X7_word_16.2.2.2.2.2.2.1, rfl⟩
theorem d_X7_word_45 : zD m_X7_word 45 (.dup) 1 46 := ⟨eg_X7_word_16.2.2.2.2.2.2.2, rfl⟩
theorem d_X7_word_46 : zD m_X7_word 46 (.getfield 216) 3 49 := ⟨eg_X7_word_24.1, rfl⟩
theorem d_X7_word_49 : zD m_X7_word 49 (.iconst 1) 1 50 := ⟨eg_X7_word_24.2.1, rfl⟩
theorem d_X7_word_50 : zD m_X7_word 50 (.iadd) 1 51 := ⟨eg_X7_word_24.2.2.1, rfl⟩
theorem d_X7_word_51 : zD m_X7_word 51 (.putfield 216) 3 54 := ⟨eg_X7_word_24.2.2.2.1, rfl⟩
theorem d_X7_word_54 : zD m_X7_word 54 (.aload_n 0) 1 55 := ⟨eg_X7_word_24.2.2.2.2.1, rfl⟩
theorem d_X7_word_55 : zD m_X7_word 55 (.getfield 19) 3 58 := ⟨eg_X7_word_24.2.2.2.2.2.1, rfl⟩
theorem d_X7_word_58 : zD m_X7_word 58 (.getfield 216) 3 61 := ⟨eg_X7_word_24.2.2.2.2.2.2.1, rfl⟩
theorem d_X7_word_61 : decode (zcc m_X7_word) 61 = .ok (.ireturn, 1) := eg_X7_word_24.2.2.2.2.2.2.2
set_option maxRecDepth 20000 in
theorem eg_X7_still_0 : decode (zcc m_X7_still) 0 = .ok (.aload_n 0, 1) ∧ decode (zcc m_X7_still) 1 = .ok (.getfield 19, 3) ∧ decode (zcc m_X7_still) 4 = .ok (.getfield 216, 3) ∧ decode (zcc m_X7_still) 7 = .ok (.istore_n 1, 1) ∧ decode (zcc m_X7_still) 8 = .ok (.aload_n 0, 1) ∧ decode (zcc m_X7_still) 9 = .ok (.getfield 19, 3) ∧ decode (zcc m_X7_still) 12 = .ok (.iconst 0, 1) ∧ decode (zcc m_X7_still) 13 = .ok (.putfield 216, 3) := by decide +kernel
set_option maxRecDepth 20000 in
theorem eg_X7_still_8 : decode (zcc m_X7_still) 16 = .ok (.iload_n 1, 1) ∧ decode (zcc m_X7_still) 17 = .ok (.ireturn, 1) := by decide +kernel
theorem d_X7_still_0 : zD m_X7_still 0 (.aload_n 0) 1 1 := ⟨eg_X7_still_0.1, rfl⟩
theorem d_X7_still_1 : zD m_X7_still 1 (.getfield 19) 3 4 := ⟨eg_X7_still_0.2.1, rfl⟩
theorem d_X7_still_4 : zD m_X7_still 4 (.getfield 216) 3 7 := ⟨eg_X7_still_0.2.2.1, rfl⟩
theorem d_X7_still_7 : zD m_X7_still 7 (.istore_n 1) 1 8 := ⟨eg_X7_still_0.2.2.2.1, rfl⟩
theorem d_X7_still_8 : zD m_X7_still 8 (.aload_n 0) 1 9 := ⟨eg_X7_still_0.2.2.2.2.1, rfl⟩
theorem d_X7_still_9 : zD m_X7_still 9 (.getfield 19) 3 12 := ⟨eg_X7_still_0.2.2.2.2.2.1, rfl⟩
theorem d_X7_still_12 : zD m_X7_still 12 (.iconst 0) 1 13 := ⟨eg_X7_still_0.2.2.2.2.2.2.1, rfl⟩
theorem d_X7_still_13 : zD m_X7_still 13 (.putfield 216) 3 16 := ⟨eg_X7_still_0.2.2.2.2.2.2.2, rfl⟩
theorem d_X7_still_16 : zD m_X7_still 16 (.iload_n 1) 1 17 := ⟨eg_X7_still_8.1, rfl⟩
theorem d_X7_still_17 : decode (zcc m_X7_still) 17 = .ok (.ireturn, 1) := eg_X7_still_8.2
set_option maxRecDepth 20000 in
theorem eg_X7_words_0 : decode (zcc m_X7_words) 0 = .ok (.iload_n 1, 1) ∧ decode (zcc m_X7_words) 1 = .ok (.ifCond .lt (14), 3) ∧ decode (zcc m_X7_words) 4 = .ok (.iload_n 1, 1) ∧ decode (zcc m_X7_words) 5 = .ok (.aload_n 0, 1) ∧ decode (zcc m_X7_words) 6 = .ok (.getfield 19, 3) ∧ decode (zcc m_X7_words) 9 = .ok (.getfield 216, 3) ∧ decode (zcc m_X7_words) 12 = .ok (.if_icmp .lt (7), 3) ∧ decode (zcc m_X7_words) 15 = .ok (.iconst (-1), 1) := by decide +kernel
set_option maxRecDepth 20000 in
theorem eg_X7_words_8 : decode (zcc m_X7_words) 16 = .ok (.goto (12), 3) ∧ decode (zcc m_X7_words) 19 = .ok (.aload_n 0, 1) ∧ decode (zcc m_X7_words) 20 = .ok (.getfield 19, 3) ∧ decode (zcc m_X7_words) 23 = .ok (.getfield 219, 3) ∧ decode (zcc m_X7_words) 26 = .ok (.iload_n 1, 1) ∧ decode (zcc m_X7_words) 27 = .ok (.iaload, 1) ∧ decode (zcc m_X7_words) 28 = .ok (.ireturn, 1) := by decide +kernel
theorem d_X7_words_0 : zD m_X7_words 0 (.iload_n 1) 1 1 := ⟨eg_X7_words_0.1, rfl⟩
theorem d_X7_words_1 : zDj m_X7_words 1 (.ifCond .lt) 4 15 := ⟨14, eg_X7_words_0.2.1, rfl, by decide⟩
theorem d_X7_words_4 : zD m_X7_words 4 (.iload_n 1) 1 5 := ⟨eg_X7_words_0.2.2.1, rfl⟩
theorem d_X7_words_5 : zD m_X7_words 5 (.aload_n 0) 1 6 := ⟨eg_X7_words_0.2.2.2.1, rfl⟩
theorem d_X7_words_6 : zD m_X7_words 6 (.getfield 19) 3 9 := ⟨eg_X7_words_0.2.2.2.2.1, rfl⟩
theorem d_X7_words_9 : zD m_X7_words 9 (.getfield 216) 3 12 := ⟨eg_X7_words_0.2.2.2.2.2.1, rfl⟩
theorem d_X7_words_12 : zDj m_X7_words 12 (.if_icmp .lt) 15 19 := ⟨7, eg_X7_words_0.2.2.2.2.2.2.1, rfl, by decide⟩
theorem d_X7_words_15 : zD m_X7_words 15 (.iconst (-1)) 1 16 := ⟨eg_X7_words_0.2.2.2.2.2.2.2, rfl⟩
theorem d_X7_words_16 : zDj m_X7_words 16 (.goto) 19 28 := ⟨12, eg_X7_words_8.1, rfl, by decide⟩
theorem d_X7_words_19 : zD m_X7_words 19 (.aload_n 0) 1 20 := ⟨eg_X7_words_8.2.1, rfl⟩
theorem d_X7_words_20 : zD m_X7_words 20 (.getfield 19) 3 23 := ⟨eg_X7_words_8.2.2.1, rfl⟩
theorem d_X7_words_23 : zD m_X7_words 23 (.getfield 219) 3 26 := ⟨eg_X7_words_8.2.2.2.1, rfl⟩
theorem d_X7_words_26 : zD m_X7_words 26 (.iload_n 1) 1 27 := ⟨eg_X7_words_8.2.2.2.2.1, rfl⟩
theorem d_X7_words_27 : zD m_X7_words 27 (.iaload) 1 28 := ⟨eg_X7_words_8.2.2.2.2.2.1, rfl⟩
theorem d_X7_words_28 : decode (zcc m_X7_words) 28 = .ok (.ireturn, 1) := eg_X7_words_8.2.2.2.2.2.2
set_option maxRecDepth 20000 in
theorem eg_X7_clock_0 : decode (zcc m_X7_clock) 0 = .ok (.iload_n 1, 1) ∧ decode (zcc m_X7_clock) 1 = .ok (.ifCond .lt (8), 3) ∧ decode (zcc m_X7_clock) 4 = .ok (.iload_n 1, 1) ∧ decode (zcc m_X7_clock) 5 = .ok (.iconst 2, 1) ∧ decode (zcc m_X7_clock) 6 = .ok (.if_icmp .le (5), 3) ∧ decode (zcc m_X7_clock) 9 = .ok (.iconst (-1), 1) ∧ decode (zcc m_X7_clock) 10 = .ok (.ireturn, 1) ∧ decode (zcc m_X7_clock) 11 = .ok (.aload_n 0, 1) := by decide +kernel
set_option maxRecDepth 20000 in
theorem eg_X7_clock_8 : decode (zcc m_X7_clock) 12 = .ok (.getfield 60, 3) ∧ decode (zcc m_X7_clock) 15 = .ok (.aload_n 0, 1) ∧ decode (zcc m_X7_clock) 16 = .ok (.getfield 19, 3) ∧ decode (zcc m_X7_clock) 19 = .ok (.getfield 89, 3) ∧ decode (zcc m_X7_clock) 22 = .ok (.bipush 6, 2) ∧ decode (zcc m_X7_clock) 24 = .ok (.iaload, 1) ∧ decode (zcc m_X7_clock) 25 = .ok (.invokevirtual 222, 3) ∧ decode (zcc m_X7_clock) 28 = .ok (.aload_n 0, 1) := by decide +kernel
set_option maxRecDepth 20000 in
theorem eg_X7_clock_16 : decode (zcc m_X7_clock) 29 = .ok (.getfield 19, 3) ∧ decode (zcc m_X7_clock) 32 = .ok (.getfield 216, 3) ∧ decode (zcc m_X7_clock) 35 = .ok (.ifCond .eq (22), 3) ∧ decode (zcc m_X7_clock) 38 = .ok (.aload_n 0, 1) ∧ decode (zcc m_X7_clock) 39 = .ok (.getfield 60, 3) ∧ decode (zcc m_X7_clock) 42 = .ok (.aload_n 0, 1) ∧ decode (zcc m_X7_clock) 43 = .ok (.getfield 19, 3) ∧ decode (zcc m_X7_clock) 46 = .ok (.getfield 219, 3) := by decide +kernel
set_option maxRecDepth 20000 in
theorem eg_X7_clock_24 : decode (zcc m_X7_clock) 49 = .ok (.iconst 0, 1) ∧ decode (zcc m_X7_clock) 50 = .ok (.iaload, 1) ∧ decode (zcc m_X7_clock) 51 = .ok (.invokevirtual 226, 3) ∧ decode (zcc m_X7_clock) 54 = .ok (.ifCond .ne (6), 3) ∧ decode (zcc m_X7_clock) 57 = .ok (.bipush (-2), 2) ∧ decode (zcc m_X7_clock) 59 = .ok (.ireturn, 1) ∧ decode (zcc m_X7_clock) 60 = .ok (.aload_n 0, 1) ∧ decode (zcc m_X7_clock) 61 = .ok (.getfield 60, 3) := by decide +kernel
set_option maxRecDepth 20000 in
theorem eg_X7_clock_32 : decode (zcc m_X7_clock) 64 = .ok (.aload_n 0, 1) ∧ decode (zcc m_X7_clock) 65 = .ok (.getfield 19, 3) ∧ decode (zcc m_X7_clock) 68 = .ok (.invokevirtual 229, 3) ∧ decode (zcc m_X7_clock) 71 = .ok (.iload_n 1, 1) ∧ decode (zcc m_X7_clock) 72 = .ok (.lookupswitch 59 #[(0, 28), (1, 51)], 28) ∧ decode (zcc m_X7_clock) 100 = .ok (.aload_n 0, 1) ∧ decode (zcc m_X7_clock) 101 = .ok (.getfield 60, 3) ∧ decode (zcc m_X7_clock) 104 = .ok (.getfield 233, 3) := by decide +kernel
set_option maxRecDepth 20000 in
theorem eg_X7_clock_40 : decode (zcc m_X7_clock) 107 = .ok (.ifCond .ne (8), 3) ∧ decode (zcc m_X7_clock) 110 = .ok (.bipush (-4), 2) ∧ decode (zcc m_X7_clock) 112 = .ok (.goto (10), 3) ∧ decode (zcc m_X7_clock) 115 = .ok (.aload_n 0, 1) ∧ decode (zcc m_X7_clock) 116 = .ok (.getfield 60, 3) ∧ decode (zcc m_X7_clock) 119 = .ok (.getfield 236, 3) ∧ decode (zcc m_X7_clock) 122 = .ok (.ireturn, 1) ∧ decode (zcc m_X7_clock) 123 = .ok (.aload_n 0, 1) := by decide +kernel
set_option maxRecDepth 20000 in
theorem eg_X7_clock_48 : decode (zcc m_X7_clock) 124 = .ok (.getfield 60, 3) ∧ decode (zcc m_X7_clock) 127 = .ok (.getfield 233, 3) ∧ decode (zcc m_X7_clock) 130 = .ok (.ireturn, 1) ∧ decode (zcc m_X7_clock) 131 = .ok (.aload_n 0, 1) ∧ decode (zcc m_X7_clock) 132 = .ok (.getfield 60, 3) ∧ decode (zcc m_X7_clock) 135 = .ok (.getfield 233, 3) ∧ decode (zcc m_X7_clock) 138 = .ok (.ifCond .ne (16), 3) ∧ decode (zcc m_X7_clock) 141 = .ok (.aload_n 0, 1) := by decide +kernel
set_option maxRecDepth 20000 in
theorem eg_X7_clock_56 : decode (zcc m_X7_clock) 142 = .ok (.getfield 60, 3) ∧ decode (zcc m_X7_clock) 145 = .ok (.getfield 239, 3) ∧ decode (zcc m_X7_clock) 148 = .ok (.bipush 100, 2) ∧ decode (zcc m_X7_clock) 150 = .ok (.iadd, 1) ∧ decode (zcc m_X7_clock) 151 = .ok (.goto (5), 3) ∧ decode (zcc m_X7_clock) 154 = .ok (.bipush (-4), 2) ∧ decode (zcc m_X7_clock) 156 = .ok (.ireturn, 1) := by decide +kernel
theorem d_X7_clock_0 : zD m_X7_clock 0 (.iload_n 1) 1 1 := ⟨eg_X7_clock_0.1, rfl⟩
theorem d_X7_clock_1 : zDj m_X7_clock 1 (.ifCond .lt) 4 9 := ⟨8, eg_X7_clock_0.2.1, rfl, by decide⟩
theorem d_X7_clock_4 : zD m_X7_clock 4 (.iload_n 1) 1 5 := ⟨eg_X7_clock_0.2.2.1, rfl⟩
theorem d_X7_clock_5 : zD m_X7_clock 5 (.iconst 2) 1 6 := ⟨eg_X7_clock_0.2.2.2.1, rfl⟩
theorem d_X7_clock_6 : zDj m_X7_clock 6 (.if_icmp .le) 9 11 := ⟨5, eg_X7_clock_0.2.2.2.2.1, rfl, by decide⟩
theorem d_X7_clock_9 : zD m_X7_clock 9 (.iconst (-1)) 1 10 := ⟨eg_X7_clock_0.2.2.2.2.2.1, rfl⟩
theorem d_X7_clock_10 : decode (zcc m_X7_clock) 10 = .ok (.ireturn, 1) := eg_X7_clock_0.2.2.2.2.2.2.1
theorem d_X7_clock_11 : zD m_X7_clock 11 (.aload_n 0) 1 12 := ⟨eg_X7_clock_0.2.2.2.2.2.2.2, rfl⟩
theorem d_X7_clock_12 : zD m_X7_clock 12 (.getfield 60) 3 15 := ⟨eg_X7_clock_8.1, rfl⟩
theorem d_X7_clock_15 : zD m_X7_clock 15 (.aload_n 0) 1 16 := ⟨eg_X7_clock_8.2.1, rfl⟩
theorem d_X7_clock_16 : zD m_X7_clock 16 (.getfield 19) 3 19 := ⟨eg_X7_clock_8.2.2.1, rfl⟩
theorem d_X7_clock_19 : zD m_X7_clock 19 (.getfield 89) 3 22 := ⟨eg_X7_clock_8.2.2.2.1, rfl⟩
theorem d_X7_clock_22 : zD m_X7_clock 22 (.bipush 6) 2 24 := ⟨eg_X7_clock_8.2.2.2.2.1, rfl⟩
theorem d_X7_clock_24 : zD m_X7_clock 24 (.iaload) 1 25 := ⟨eg_X7_clock_8.2.2.2.2.2.1, rfl⟩
theorem d_X7_clock_25 : zD m_X7_clock 25 (.invokevirtual 222) 3 28 := ⟨eg_X7_clock_8.2.2.2.2.2.2.1, rfl⟩
theorem d_X7_clock_28 : zD m_X7_clock 28 (.aload_n 0) 1 29 := ⟨eg_X7_clock_8.2.2.2.2.2.2.2, rfl⟩
theorem d_X7_clock_29 : zD m_X7_clock 29 (.getfield 19) 3 32 := ⟨eg_X7_clock_16.1, rfl⟩
theorem d_X7_clock_32 : zD m_X7_clock 32 (.getfield 216) 3 35 := ⟨eg_X7_clock_16.2.1, rfl⟩
theorem d_X7_clock_35 : zDj m_X7_clock 35 (.ifCond .eq) 38 57 := ⟨22, eg_X7_clock_16.2.2.1, rfl, by decide⟩
theorem d_X7_clock_38 : zD m_X7_clock 38 (.aload_n 0) 1 39 := ⟨eg_X7_clock_16.2.2.2.1, rfl⟩
theorem d_X7_clock_39 : zD m_X7_clock 39 (.getfield 60) 3 42 := ⟨eg_X7_clock_16.2.2.2.2.1, rfl⟩
theorem d_X7_clock_42 : zD m_X7_clock 42 (.aload_n 0) 1 43 := ⟨eg_X7_clock_16.2.2.2.2.2.1, rfl⟩
theorem d_X7_clock_43 : zD m_X7_clock 43 (.getfield 19) 3 46 := ⟨eg_X7_clock_16.2.2.2.2.2.2.1, rfl⟩
theorem d_X7_clock_46 : zD m_X7_clock 46 (.getfield 219) 3 49 := ⟨eg_X7_clock_16.2.2.2.2.2.2.2, rfl⟩
theorem d_X7_clock_49 : zD m_X7_clock 49 (.iconst 0) 1 50 := ⟨eg_X7_clock_24.1, rfl⟩
theorem d_X7_clock_50 : zD m_X7_clock 50 (.iaload) 1 51 := ⟨eg_X7_clock_24.2.1, rfl⟩
theorem d_X7_clock_51 : zD m_X7_clock 51 (.invokevirtual 226) 3 54 := ⟨eg_X7_clock_24.2.2.1, rfl⟩
theorem d_X7_clock_54 : zDj m_X7_clock 54 (.ifCond .ne) 57 60 := ⟨6, eg_X7_clock_24.2.2.2.1, rfl, by decide⟩
theorem d_X7_clock_57 : zD m_X7_clock 57 (.bipush (-2)) 2 59 := ⟨eg_X7_clock_24.2.2.2.2.1, rfl⟩
theorem d_X7_clock_59 : decode (zcc m_X7_clock) 59 = .ok (.ireturn, 1) := eg_X7_clock_24.2.2.2.2.2.1
theorem d_X7_clock_60 : zD m_X7_clock 60 (.aload_n 0) 1 61 := ⟨eg_X7_clock_24.2.2.2.2.2.2.1, rfl⟩
theorem d_X7_clock_61 : zD m_X7_clock 61 (.getfield 60) 3 64 := ⟨eg_X7_clock_24.2.2.2.2.2.2.2, rfl⟩
theorem d_X7_clock_64 : zD m_X7_clock 64 (.aload_n 0) 1 65 := ⟨eg_X7_clock_32.1, rfl⟩
theorem d_X7_clock_65 : zD m_X7_clock 65 (.getfield 19) 3 68 := ⟨eg_X7_clock_32.2.1, rfl⟩
theorem d_X7_clock_68 : zD m_X7_clock 68 (.invokevirtual 229) 3 71 := ⟨eg_X7_clock_32.2.2.1, rfl⟩
theorem d_X7_clock_71 : zD m_X7_clock 71 (.iload_n 1) 1 72 := ⟨eg_X7_clock_32.2.2.2.1, rfl⟩
theorem d_X7_clock_72 : decode (zcc m_X7_clock) 72 = .ok (.lookupswitch 59 #[(0, 28), (1, 51)], 28) := eg_X7_clock_32.2.2.2.2.1
theorem d_X7_clock_100 : zD m_X7_clock 100 (.aload_n 0) 1 101 := ⟨eg_X7_clock_32.2.2.2.2.2.1, rfl⟩
theorem d_X7_clock_101 : zD m_X7_clock 101 (.getfield 60) 3 104 := ⟨eg_X7_clock_32.2.2.2.2.2.2.1, rfl⟩
theorem d_X7_clock_104 : zD m_X7_clock 104 (.getfield 233) 3 107 := ⟨eg_X7_clock_32.2.2.2.2.2.2.2, rfl⟩
theorem d_X7_clock_107 : zDj m_X7_clock 107 (.ifCond .ne) 110 115 := ⟨8, eg_X7_clock_40.1, rfl, by decide⟩
theorem d_X7_clock_110 : zD m_X7_clock 110 (.bipush (-4)) 2 112 := ⟨eg_X7_clock_40.2.1, rfl⟩
theorem d_X7_clock_112 : zDj m_X7_clock 112 (.goto) 115 122 := ⟨10, eg_X7_clock_40.2.2.1, rfl, by decide⟩
theorem d_X7_clock_115 : zD m_X7_clock 115 (.aload_n 0) 1 116 := ⟨eg_X7_clock_40.2.2.2.1, rfl⟩
theorem d_X7_clock_116 : zD m_X7_clock 116 (.getfield 60) 3 119 := ⟨eg_X7_clock_40.2.2.2.2.1, rfl⟩
theorem d_X7_clock_119 : zD m_X7_clock 119 (.getfield 236) 3 122 := ⟨eg_X7_clock_40.2.2.2.2.2.1, rfl⟩
theorem d_X7_clock_122 : decode (zcc m_X7_clock) 122 = .ok (.ireturn, 1) := eg_X7_clock_40.2.2.2.2.2.2.1
theorem d_X7_clock_123 : zD m_X7_clock 123 (.aload_n 0) 1 124 := ⟨eg_X7_clock_40.2.2.2.2.2.2.2, rfl⟩
theorem d_X7_clock_124 : zD m_X7_clock 124 (.getfield 60) 3 127 := ⟨eg_X7_clock_48.1, rfl⟩
theorem d_X7_clock_127 : zD m_X7_clock 127 (.getfield 233) 3 130 := ⟨eg_X7_clock_48.2.1, rfl⟩
theorem d_X7_clock_130 : decode (zcc m_X7_clock) 130 = .ok (.ireturn, 1) := eg_X7_clock_48.2.2.1
theorem d_X7_clock_131 : zD m_X7_clock 131 (.aload_n 0) 1 132 := ⟨eg_X7_clock_48.2.2.2.1, rfl⟩
theorem d_X7_clock_132 : zD m_X7_clock 132 (.getfield 60) 3 135 := ⟨eg_X7_clock_48.2.2.2.2.1, rfl⟩
theorem d_X7_clock_135 : zD m_X7_clock 135 (.getfield 233) 3 138 := ⟨eg_X7_clock_48.2.2.2.2.2.1, rfl⟩
theorem d_X7_clock_138 : zDj m_X7_clock 138 (.ifCond .ne) 141 154 := ⟨16, eg_X7_clock_48.2.2.2.2.2.2.1, rfl, by decide⟩
theorem d_X7_clock_141 : zD m_X7_clock 141 (.aload_n 0) 1 142 := ⟨eg_X7_clock_48.2.2.2.2.2.2.2, rfl⟩
theorem d_X7_clock_142 : zD m_X7_clock 142 (.getfield 60) 3 145 := ⟨eg_X7_clock_56.1, rfl⟩
theorem d_X7_clock_145 : zD m_X7_clock 145 (.getfield 239) 3 148 := ⟨eg_X7_clock_56.2.1, rfl⟩
theorem d_X7_clock_148 : zD m_X7_clock 148 (.bipush 100) 2 150 := ⟨eg_X7_clock_56.2.2.1, rfl⟩
theorem d_X7_clock_150 : zD m_X7_clock 150 (.iadd) 1 151 := ⟨eg_X7_clock_56.2.2.2.1, rfl⟩
theorem d_X7_clock_151 : zDj m_X7_clock 151 (.goto) 154 156 := ⟨5, eg_X7_clock_56.2.2.2.2.1, rfl, by decide⟩
theorem d_X7_clock_154 : zD m_X7_clock 154 (.bipush (-4)) 2 156 := ⟨eg_X7_clock_56.2.2.2.2.2.1, rfl⟩
theorem d_X7_clock_156 : decode (zcc m_X7_clock) 156 = .ok (.ireturn, 1) := eg_X7_clock_56.2.2.2.2.2.2
set_option maxRecDepth 20000 in
theorem eg_X7_goes_0 : decode (zcc m_X7_goes) 0 = .ok (.aload_n 0, 1) ∧ decode (zcc m_X7_goes) 1 = .ok (.iload_n 1, 1) ∧ decode (zcc m_X7_goes) 2 = .ok (.invokevirtual 213, 3) ∧ decode (zcc m_X7_goes) 5 = .ok (.ifCond .eq (11), 3) ∧ decode (zcc m_X7_goes) 8 = .ok (.aload_n 0, 1) ∧ decode (zcc m_X7_goes) 9 = .ok (.iload_n 2, 1) ∧ decode (zcc m_X7_goes) 10 = .ok (.invokevirtual 213, 3) ∧ decode (zcc m_X7_goes) 13 = .ok (.ifCond .ne (5), 3) := by decide +kernel
set_option maxRecDepth 20000 in
theorem eg_X7_goes_8 : decode (zcc m_X7_goes) 16 = .ok (.iconst (-1), 1) ∧ decode (zcc m_X7_goes) 17 = .ok (.ireturn, 1) ∧ decode (zcc m_X7_goes) 18 = .ok (.aload_n 0, 1) ∧ decode (zcc m_X7_goes) 19 = .ok (.getfield 60, 3) ∧ decode (zcc m_X7_goes) 22 = .ok (.aload_n 0, 1) ∧ decode (zcc m_X7_goes) 23 = .ok (.getfield 19, 3) ∧ decode (zcc m_X7_goes) 26 = .ok (.getfield 89, 3) ∧ decode (zcc m_X7_goes) 29 = .ok (.bipush 6, 2) := by decide +kernel
set_option maxRecDepth 20000 in
theorem eg_X7_goes_16 : decode (zcc m_X7_goes) 31 = .ok (.iaload, 1) ∧ decode (zcc m_X7_goes) 32 = .ok (.invokevirtual 222, 3) ∧ decode (zcc m_X7_goes) 35 = .ok (.aload_n 0, 1) ∧ decode (zcc m_X7_goes) 36 = .ok (.getfield 60, 3) ∧ decode (zcc m_X7_goes) 39 = .ok (.iload_n 1, 1) ∧ decode (zcc m_X7_goes) 40 = .ok (.invokevirtual 226, 3) ∧ decode (zcc m_X7_goes) 43 = .ok (.ifCond .ne (6), 3) ∧ decode (zcc m_X7_goes) 46 = .ok (.bipush (-2), 2) := by decide +kernel
set_option maxRecDepth 20000 in
theorem eg_X7_goes_24 : decode (zcc m_X7_goes) 48 = .ok (.ireturn, 1) ∧ decode (zcc m_X7_goes) 49 = .ok (.aload_n 0, 1) ∧ decode (zcc m_X7_goes) 50 = .ok (.getfield 60, 3) ∧ decode (zcc m_X7_goes) 53 = .ok (.iload_n 1, 1) ∧ decode (zcc m_X7_goes) 54 = .ok (.aload_n 0, 1) ∧ decode (zcc m_X7_goes) 55 = .ok (.getfield 60, 3) ∧ decode (zcc m_X7_goes) 58 = .ok (.iload_n 1, 1) ∧ decode (zcc m_X7_goes) 59 = .ok (.invokevirtual 242, 3) := by decide +kernel
set_option maxRecDepth 20000 in
theorem eg_X7_goes_32 : decode (zcc m_X7_goes) 62 = .ok (.iload_n 2, 1) ∧ decode (zcc m_X7_goes) 63 = .ok (.invokevirtual 245, 3) ∧ decode (zcc m_X7_goes) 66 = .ok (.ireturn, 1) := by decide +kernel
theorem d_X7_goes_0 : zD m_X7_goes 0 (.aload_n 0) 1 1 := ⟨eg_X7_goes_0.1, rfl⟩
theorem d_X7_goes_1 : zD m_X7_goes 1 (.iload_n 1) 1 2 := ⟨eg_X7_goes_0.2.1, rfl⟩
theorem d_X7_goes_2 : zD m_X7_goes 2 (.invokevirtual 213) 3 5 := ⟨eg_X7_goes_0.2.2.1, rfl⟩
theorem d_X7_goes_5 : zDj m_X7_goes 5 (.ifCond .eq) 8 16 := ⟨11, eg_X7_goes_0.2.2.2.1, rfl, by decide⟩
theorem d_X7_goes_8 : zD m_X7_goes 8 (.aload_n 0) 1 9 := ⟨eg_X7_goes_0.2.2.2.2.1, rfl⟩
theorem d_X7_goes_9 : zD m_X7_goes 9 (.iload_n 2) 1 10 := ⟨eg_X7_goes_0.2.2.2.2.2.1, rfl⟩
theorem d_X7_goes_10 : zD m_X7_goes 10 (.invokevirtual 213) 3 13 := ⟨eg_X7_goes_0.2.2.2.2.2.2.1, rfl⟩
theorem d_X7_goes_13 : zDj m_X7_goes 13 (.ifCond .ne) 16 18 := ⟨5, eg_X7_goes_0.2.2.2.2.2.2.2, rfl, by decide⟩
theorem d_X7_goes_16 : zD m_X7_goes 16 (.iconst (-1)) 1 17 := ⟨eg_X7_goes_8.1, rfl⟩
theorem d_X7_goes_17 : decode (zcc m_X7_goes) 17 = .ok (.ireturn, 1) := eg_X7_goes_8.2.1
theorem d_X7_goes_18 : zD m_X7_goes 18 (.aload_n 0) 1 19 := ⟨eg_X7_goes_8.2.2.1, rfl⟩
theorem d_X7_goes_19 : zD m_X7_goes 19 (.getfield 60) 3 22 := ⟨eg_X7_goes_8.2.2.2.1, rfl⟩
theorem d_X7_goes_22 : zD m_X7_goes 22 (.aload_n 0) 1 23 := ⟨eg_X7_goes_8.2.2.2.2.1, rfl⟩
theorem d_X7_goes_23 : zD m_X7_goes 23 (.getfield 19) 3 26 := ⟨eg_X7_goes_8.2.2.2.2.2.1, rfl⟩
theorem d_X7_goes_26 : zD m_X7_goes 26 (.getfield 89) 3 29 := ⟨eg_X7_goes_8.2.2.2.2.2.2.1, rfl⟩
theorem d_X7_goes_29 : zD m_X7_goes 29 (.bipush 6) 2 31 := ⟨eg_X7_goes_8.2.2.2.2.2.2.2, rfl⟩
theorem d_X7_goes_31 : zD m_X7_goes 31 (.iaload) 1 32 := ⟨eg_X7_goes_16.1, rfl⟩
theorem d_X7_goes_32 : zD m_X7_goes 32 (.invokevirtual 222) 3 35 := ⟨eg_X7_goes_16.2.1, rfl⟩
theorem d_X7_goes_35 : zD m_X7_goes 35 (.aload_n 0) 1 36 := ⟨eg_X7_goes_16.2.2.1, rfl⟩
theorem d_X7_goes_36 : zD m_X7_goes 36 (.getfield 60) 3 39 := ⟨eg_X7_goes_16.2.2.2.1, rfl⟩
theorem d_X7_goes_39 : zD m_X7_goes 39 (.iload_n 1) 1 40 := ⟨eg_X7_goes_16.2.2.2.2.1, rfl⟩
theorem d_X7_goes_40 : zD m_X7_goes 40 (.invokevirtual 226) 3 43 := ⟨eg_X7_goes_16.2.2.2.2.2.1, rfl⟩
theorem d_X7_goes_43 : zDj m_X7_goes 43 (.ifCond .ne) 46 49 := ⟨6, eg_X7_goes_16.2.2.2.2.2.2.1, rfl, by decide⟩
theorem d_X7_goes_46 : zD m_X7_goes 46 (.bipush (-2)) 2 48 := ⟨eg_X7_goes_16.2.2.2.2.2.2.2, rfl⟩
theorem d_X7_goes_48 : decode (zcc m_X7_goes) 48 = .ok (.ireturn, 1) := eg_X7_goes_24.1
theorem d_X7_goes_49 : zD m_X7_goes 49 (.aload_n 0) 1 50 := ⟨eg_X7_goes_24.2.1, rfl⟩
theorem d_X7_goes_50 : zD m_X7_goes 50 (.getfield 60) 3 53 := ⟨eg_X7_goes_24.2.2.1, rfl⟩
theorem d_X7_goes_53 : zD m_X7_goes 53 (.iload_n 1) 1 54 := ⟨eg_X7_goes_24.2.2.2.1, rfl⟩
theorem d_X7_goes_54 : zD m_X7_goes 54 (.aload_n 0) 1 55 := ⟨eg_X7_goes_24.2.2.2.2.1, rfl⟩
theorem d_X7_goes_55 : zD m_X7_goes 55 (.getfield 60) 3 58 := ⟨eg_X7_goes_24.2.2.2.2.2.1, rfl⟩
theorem d_X7_goes_58 : zD m_X7_goes 58 (.iload_n 1) 1 59 := ⟨eg_X7_goes_24.2.2.2.2.2.2.1, rfl⟩
theorem d_X7_goes_59 : zD m_X7_goes 59 (.invokevirtual 242) 3 62 := ⟨eg_X7_goes_24.2.2.2.2.2.2.2, rfl⟩
theorem d_X7_goes_62 : zD m_X7_goes 62 (.iload_n 2) 1 63 := ⟨eg_X7_goes_32.1, rfl⟩
theorem d_X7_goes_63 : zD m_X7_goes 63 (.invokevirtual 245) 3 66 := ⟨eg_X7_goes_32.2.1, rfl⟩
theorem d_X7_goes_66 : decode (zcc m_X7_goes) 66 = .ok (.ireturn, 1) := eg_X7_goes_32.2.2
set_option maxRecDepth 20000 in
theorem eg_X7_fewest_0 : decode (zcc m_X7_fewest) 0 = .ok (.iload_n 1, 1) ∧ decode (zcc m_X7_fewest) 1 = .ok (.iconst (-1), 1) ∧ decode (zcc m_X7_fewest) 2 = .ok (.if_icmp .lt (8), 3) ∧ decode (zcc m_X7_fewest) 5 = .ok (.iload_n 1, 1) ∧ decode (zcc m_X7_fewest) 6 = .ok (.iconst 1, 1) ∧ decode (zcc m_X7_fewest) 7 = .ok (.if_icmp .le (5), 3) ∧ decode (zcc m_X7_fewest) 10 = .ok (.iconst (-1), 1) ∧ decode (zcc m_X7_fewest) 11 = .ok (.ireturn, 1) := by decide +kernel
set_option maxRecDepth 20000 in
theorem eg_X7_fewest_8 : decode (zcc m_X7_fewest) 12 = .ok (.aload_n 0, 1) ∧ decode (zcc m_X7_fewest) 13 = .ok (.getfield 60, 3) ∧ decode (zcc m_X7_fewest) 16 = .ok (.aload_n 0, 1) ∧ decode (zcc m_X7_fewest) 17 = .ok (.getfield 19, 3) ∧ decode (zcc m_X7_fewest) 20 = .ok (.getfield 89, 3) ∧ decode (zcc m_X7_fewest) 23 = .ok (.bipush 6, 2) ∧ decode (zcc m_X7_fewest) 25 = .ok (.iaload, 1) ∧ decode (zcc m_X7_fewest) 26 = .ok (.invokevirtual 222, 3) := by decide +kernel
set_option maxRecDepth 20000 in
theorem eg_X7_fewest_16 : decode (zcc m_X7_fewest) 29 = .ok (.iconst 1, 1) ∧ decode (zcc m_X7_fewest) 30 = .ok (.istore_n 2, 1) ∧ decode (zcc m_X7_fewest) 31 = .ok (.iload_n 2, 1) ∧ decode (zcc m_X7_fewest) 32 = .ok (.bipush 12, 2) ∧ decode (zcc m_X7_fewest) 34 = .ok (.if_icmp .gt (42), 3) ∧ decode (zcc m_X7_fewest) 37 = .ok (.iconst 0, 1) ∧ decode (zcc m_X7_fewest) 38 = .ok (.istore_n 3, 1) ∧ decode (zcc m_X7_fewest) 39 = .ok (.iload_n 3, 1) := by decide +kernel
set_option maxRecDepth 20000 in
theorem eg_X7_fewest_24 : decode (zcc m_X7_fewest) 40 = .ok (.aload_n 0, 1) ∧ decode (zcc m_X7_fewest) 41 = .ok (.invokevirtual 248, 3) ∧ decode (zcc m_X7_fewest) 44 = .ok (.if_icmp .gt (26), 3) ∧ decode (zcc m_X7_fewest) 47 = .ok (.aload_n 0, 1) ∧ decode (zcc m_X7_fewest) 48 = .ok (.getfield 60, 3) ∧ decode (zcc m_X7_fewest) 51 = .ok (.iload_n 3, 1) ∧ decode (zcc m_X7_fewest) 52 = .ok (.iload_n 2, 1) ∧ decode (zcc m_X7_fewest) 53 = .ok (.iload_n 1, 1) := by decide +kernel
set_option maxRecDepth 20000 in
theorem eg_X7_fewest_32 : decode (zcc m_X7_fewest) 54 = .ok (.invokevirtual 251, 3) ∧ decode (zcc m_X7_fewest) 57 = .ok (.lconst 0, 1) ∧ decode (zcc m_X7_fewest) 58 = .ok (.lcmp, 1) ∧ decode (zcc m_X7_fewest) 59 = .ok (.ifCond .le (5), 3) ∧ decode (zcc m_X7_fewest) 62 = .ok (.iload_n 2, 1) ∧ decode (zcc m_X7_fewest) 63 = .ok (.ireturn, 1) ∧ decode (zcc m_X7_fewest) 64 = .ok (.iinc 3 1, 3) ∧ decode (zcc m_X7_fewest) 67 = .ok (.goto (-28), 3) := by decide +kernel
set_option maxRecDepth 20000 in
theorem eg_X7_fewest_40 : decode (zcc m_X7_fewest) 70 = .ok (.iinc 2 1, 3) ∧ decode (zcc m_X7_fewest) 73 = .ok (.goto (-42), 3) ∧ decode (zcc m_X7_fewest) 76 = .ok (.bipush (-4), 2) ∧ decode (zcc m_X7_fewest) 78 = .ok (.ireturn, 1) := by decide +kernel
theorem d_X7_fewest_0 : zD m_X7_fewest 0 (.iload_n 1) 1 1 := ⟨eg_X7_fewest_0.1, rfl⟩
theorem d_X7_fewest_1 : zD m_X7_fewest 1 (.iconst (-1)) 1 2 := ⟨eg_X7_fewest_0.2.1, rfl⟩
theorem d_X7_fewest_2 : zDj m_X7_fewest 2 (.if_icmp .lt) 5 10 := ⟨8, eg_X7_fewest_0.2.2.1, rfl, by decide⟩
theorem d_X7_fewest_5 : zD m_X7_fewest 5 (.iload_n 1) 1 6 := ⟨eg_X7_fewest_0.2.2.2.1, rfl⟩
theorem d_X7_fewest_6 : zD m_X7_fewest 6 (.iconst 1) 1 7 := ⟨eg_X7_fewest_0.2.2.2.2.1, rfl⟩
theorem d_X7_fewest_7 : zDj m_X7_fewest 7 (.if_icmp .le) 10 12 := ⟨5, eg_X7_fewest_0.2.2.2.2.2.1, rfl, by decide⟩
theorem d_X7_fewest_10 : zD m_X7_fewest 10 (.iconst (-1)) 1 11 := ⟨eg_X7_fewest_0.2.2.2.2.2.2.1, rfl⟩
theorem d_X7_fewest_11 : decode (zcc m_X7_fewest) 11 = .ok (.ireturn, 1) := eg_X7_fewest_0.2.2.2.2.2.2.2
theorem d_X7_fewest_12 : zD m_X7_fewest 12 (.aload_n 0) 1 13 := ⟨eg_X7_fewest_8.1, rfl⟩
theorem d_X7_fewest_13 : zD m_X7_fewest 13 (.getfield 60) 3 16 := ⟨eg_X7_fewest_8.2.1, rfl⟩
theorem d_X7_fewest_16 : zD m_X7_fewest 16 (.aload_n 0) 1 17 := ⟨eg_X7_fewest_8.2.2.1, rfl⟩
theorem d_X7_fewest_17 : zD m_X7_fewest 17 (.getfield 19) 3 20 := ⟨eg_X7_fewest_8.2.2.2.1, rfl⟩
theorem d_X7_fewest_20 : zD m_X7_fewest 20 (.getfield 89) 3 23 := ⟨eg_X7_fewest_8.2.2.2.2.1, rfl⟩
theorem d_X7_fewest_23 : zD m_X7_fewest 23 (.bipush 6) 2 25 := ⟨eg_X7_fewest_8.2.2.2.2.2.1, rfl⟩
theorem d_X7_fewest_25 : zD m_X7_fewest 25 (.iaload) 1 26 := ⟨eg_X7_fewest_8.2.2.2.2.2.2.1, rfl⟩
theorem d_X7_fewest_26 : zD m_X7_fewest 26 (.invokevirtual 222) 3 29 := ⟨eg_X7_fewest_8.2.2.2.2.2.2.2, rfl⟩
theorem d_X7_fewest_29 : zD m_X7_fewest 29 (.iconst 1) 1 30 := ⟨eg_X7_fewest_16.1, rfl⟩
theorem d_X7_fewest_30 : zD m_X7_fewest 30 (.istore_n 2) 1 31 := ⟨eg_X7_fewest_16.2.1, rfl⟩
theorem d_X7_fewest_31 : zD m_X7_fewest 31 (.iload_n 2) 1 32 := ⟨eg_X7_fewest_16.2.2.1, rfl⟩
theorem d_X7_fewest_32 : zD m_X7_fewest 32 (.bipush 12) 2 34 := ⟨eg_X7_fewest_16.2.2.2.1, rfl⟩
theorem d_X7_fewest_34 : zDj m_X7_fewest 34 (.if_icmp .gt) 37 76 := ⟨42, eg_X7_fewest_16.2.2.2.2.1, rfl, by decide⟩
theorem d_X7_fewest_37 : zD m_X7_fewest 37 (.iconst 0) 1 38 := ⟨eg_X7_fewest_16.2.2.2.2.2.1, rfl⟩
theorem d_X7_fewest_38 : zD m_X7_fewest 38 (.istore_n 3) 1 39 := ⟨eg_X7_fewest_16.2.2.2.2.2.2.1, rfl⟩
theorem d_X7_fewest_39 : zD m_X7_fewest 39 (.iload_n 3) 1 40 := ⟨eg_X7_fewest_16.2.2.2.2.2.2.2, rfl⟩
theorem d_X7_fewest_40 : zD m_X7_fewest 40 (.aload_n 0) 1 41 := ⟨eg_X7_fewest_24.1, rfl⟩
theorem d_X7_fewest_41 : zD m_X7_fewest 41 (.invokevirtual 248) 3 44 := ⟨eg_X7_fewest_24.2.1, rfl⟩
theorem d_X7_fewest_44 : zDj m_X7_fewest 44 (.if_icmp .gt) 47 70 := ⟨26, eg_X7_fewest_24.2.2.1, rfl, by decide⟩
theorem d_X7_fewest_47 : zD m_X7_fewest 47 (.aload_n 0) 1 48 := ⟨eg_X7_fewest_24.2.2.2.1, rfl⟩
theorem d_X7_fewest_48 : zD m_X7_fewest 48 (.getfield 60) 3 51 := ⟨eg_X7_fewest_24.2.2.2.2.1, rfl⟩
theorem d_X7_fewest_51 : zD m_X7_fewest 51 (.iload_n 3) 1 52 := ⟨eg_X7_fewest_24.2.2.2.2.2.1, rfl⟩
theorem d_X7_fewest_52 : zD m_X7_fewest 52 (.iload_n 2) 1 53 := ⟨eg_X7_fewest_24.2.2.2.2.2.2.1, rfl⟩
theorem d_X7_fewest_53 : zD m_X7_fewest 53 (.iload_n 1) 1 54 := ⟨eg_X7_fewest_24.2.2.2.2.2.2.2, rfl⟩
theorem d_X7_fewest_54 : zD m_X7_fewest 54 (.invokevirtual 251) 3 57 := ⟨eg_X7_fewest_32.1, rfl⟩
theorem d_X7_fewest_57 : zD m_X7_fewest 57 (.lconst 0) 1 58 := ⟨eg_X7_fewest_32.2.1, rfl⟩
theorem d_X7_fewest_58 : zD m_X7_fewest 58 (.lcmp) 1 59 := ⟨eg_X7_fewest_32.2.2.1, rfl⟩
theorem d_X7_fewest_59 : zDj m_X7_fewest 59 (.ifCond .le) 62 64 := ⟨5, eg_X7_fewest_32.2.2.2.1, rfl, by decide⟩
theorem d_X7_fewest_62 : zD m_X7_fewest 62 (.iload_n 2) 1 63 := ⟨eg_X7_fewest_32.2.2.2.2.1, rfl⟩
theorem d_X7_fewest_63 : decode (zcc m_X7_fewest) 63 = .ok (.ireturn, 1) := eg_X7_fewest_32.2.2.2.2.2.1
theorem d_X7_fewest_64 : zD m_X7_fewest 64 (.iinc 3 1) 3 67 := ⟨eg_X7_fewest_32.2.2.2.2.2.2.1, rfl⟩
theorem d_X7_fewest_67 : zDj m_X7_fewest 67 (.goto) 70 39 := ⟨-28, eg_X7_fewest_32.2.2.2.2.2.2.2, rfl, by decide⟩
theorem d_X7_fewest_70 : zD m_X7_fewest 70 (.iinc 2 1) 3 73 := ⟨eg_X7_fewest_40.1, rfl⟩
theorem d_X7_fewest_73 : zDj m_X7_fewest 73 (.goto) 76 31 := ⟨-42, eg_X7_fewest_40.2.1, rfl, by decide⟩
theorem d_X7_fewest_76 : zD m_X7_fewest 76 (.bipush (-4)) 2 78 := ⟨eg_X7_fewest_40.2.2.1, rfl⟩
theorem d_X7_fewest_78 : decode (zcc m_X7_fewest) 78 = .ok (.ireturn, 1) := eg_X7_fewest_40.2.2.2
set_option maxRecDepth 20000 in
theorem eg_X7_rounds_0 : decode (zcc m_X7_rounds) 0 = .ok (.aload_n 0, 1) ∧ decode (zcc m_X7_rounds) 1 = .ok (.iload_n 1, 1) ∧ decode (zcc m_X7_rounds) 2 = .ok (.invokevirtual 213, 3) ∧ decode (zcc m_X7_rounds) 5 = .ok (.ifCond .eq (25), 3) ∧ decode (zcc m_X7_rounds) 8 = .ok (.iload_n 2, 1) ∧ decode (zcc m_X7_rounds) 9 = .ok (.iconst 1, 1) ∧ decode (zcc m_X7_rounds) 10 = .ok (.if_icmp .lt (20), 3) ∧ decode (zcc m_X7_rounds) 13 = .ok (.iload_n 2, 1) := by decide +kernel
set_option maxRecDepth 20000 in
theorem eg_X7_rounds_8 : decode (zcc m_X7_rounds) 14 = .ok (.bipush 12, 2) ∧ decode (zcc m_X7_rounds) 16 = .ok (.if_icmp .gt (14), 3) ∧ decode (zcc m_X7_rounds) 19 = .ok (.iload_n 3, 1) ∧ decode (zcc m_X7_rounds) 20 = .ok (.bipush (-3), 2) ∧ decode (zcc m_X7_rounds) 22 = .ok (.if_icmp .lt (8), 3) ∧ decode (zcc m_X7_rounds) 25 = .ok (.iload_n 3, 1) ∧ decode (zcc m_X7_rounds) 26 = .ok (.iconst 3, 1) ∧ decode (zcc m_X7_rounds) 27 = .ok (.if_icmp .le (7), 3) := by decide +kernel
set_option maxRecDepth 20000 in
theorem eg_X7_rounds_16 : decode (zcc m_X7_rounds) 30 = .ok (.ldc2_w 157, 3) ∧ decode (zcc m_X7_rounds) 33 = .ok (.lreturn, 1) ∧ decode (zcc m_X7_rounds) 34 = .ok (.aload_n 0, 1) ∧ decode (zcc m_X7_rounds) 35 = .ok (.getfield 60, 3) ∧ decode (zcc m_X7_rounds) 38 = .ok (.aload_n 0, 1) ∧ decode (zcc m_X7_rounds) 39 = .ok (.getfield 19, 3) ∧ decode (zcc m_X7_rounds) 42 = .ok (.getfield 89, 3) ∧ decode (zcc m_X7_rounds) 45 = .ok (.bipush 6, 2) := by decide +kernel
set_option maxRecDepth 20000 in
theorem eg_X7_rounds_24 : decode (zcc m_X7_rounds) 47 = .ok (.iaload, 1) ∧ decode (zcc m_X7_rounds) 48 = .ok (.invokevirtual 222, 3) ∧ decode (zcc m_X7_rounds) 51 = .ok (.aload_n 0, 1) ∧ decode (zcc m_X7_rounds) 52 = .ok (.getfield 60, 3) ∧ decode (zcc m_X7_rounds) 55 = .ok (.iload_n 1, 1) ∧ decode (zcc m_X7_rounds) 56 = .ok (.iload_n 2, 1) ∧ decode (zcc m_X7_rounds) 57 = .ok (.iload_n 3, 1) ∧ decode (zcc m_X7_rounds) 58 = .ok (.invokevirtual 251, 3) := by decide +kernel
set_option maxRecDepth 20000 in
theorem eg_X7_rounds_32 : decode (zcc m_X7_rounds) 61 = .ok (.lreturn, 1) := by decide +kernel
theorem d_X7_rounds_0 : zD m_X7_rounds 0 (.aload_n 0) 1 1 := ⟨eg_X7_rounds_0.1, rfl⟩
theorem d_X7_rounds_1 : zD m_X7_rounds 1 (.iload_n 1) 1 2 := ⟨eg_X7_rounds_0.2.1, rfl⟩
theorem d_X7_rounds_2 : zD m_X7_rounds 2 (.invokevirtual 213) 3 5 := ⟨eg_X7_rounds_0.2.2.1, rfl⟩
theorem d_X7_rounds_5 : zDj m_X7_rounds 5 (.ifCond .eq) 8 30 := ⟨25, eg_X7_rounds_0.2.2.2.1, rfl, by decide⟩
theorem d_X7_rounds_8 : zD m_X7_rounds 8 (.iload_n 2) 1 9 := ⟨eg_X7_rounds_0.2.2.2.2.1, rfl⟩
theorem d_X7_rounds_9 : zD m_X7_rounds 9 (.iconst 1) 1 10 := ⟨eg_X7_rounds_0.2.2.2.2.2.1, rfl⟩
theorem d_X7_rounds_10 : zDj m_X7_rounds 10 (.if_icmp .lt) 13 30 := ⟨20, eg_X7_rounds_0.2.2.2.2.2.2.1, rfl, by decide⟩
theorem d_X7_rounds_13 : zD m_X7_rounds 13 (.iload_n 2) 1 14 := ⟨eg_X7_rounds_0.2.2.2.2.2.2.2, rfl⟩
theorem d_X7_rounds_14 : zD m_X7_rounds 14 (.bipush 12) 2 16 := ⟨eg_X7_rounds_8.1, rfl⟩
theorem d_X7_rounds_16 : zDj m_X7_rounds 16 (.if_icmp .gt) 19 30 := ⟨14, eg_X7_rounds_8.2.1, rfl, by decide⟩
theorem d_X7_rounds_19 : zD m_X7_rounds 19 (.iload_n 3) 1 20 := ⟨eg_X7_rounds_8.2.2.1, rfl⟩
theorem d_X7_rounds_20 : zD m_X7_rounds 20 (.bipush (-3)) 2 22 := ⟨eg_X7_rounds_8.2.2.2.1, rfl⟩
theorem d_X7_rounds_22 : zDj m_X7_rounds 22 (.if_icmp .lt) 25 30 := ⟨8, eg_X7_rounds_8.2.2.2.2.1, rfl, by decide⟩
theorem d_X7_rounds_25 : zD m_X7_rounds 25 (.iload_n 3) 1 26 := ⟨eg_X7_rounds_8.2.2.2.2.2.1, rfl⟩
theorem d_X7_rounds_26 : zD m_X7_rounds 26 (.iconst 3) 1 27 := ⟨eg_X7_rounds_8.2.2.2.2.2.2.1, rfl⟩
theorem d_X7_rounds_27 : zDj m_X7_rounds 27 (.if_icmp .le) 30 34 := ⟨7, eg_X7_rounds_8.2.2.2.2.2.2.2, rfl, by decide⟩
theorem d_X7_rounds_30 : zD m_X7_rounds 30 (.ldc2_w 157) 3 33 := ⟨eg_X7_rounds_16.1, rfl⟩
theorem d_X7_rounds_33 : decode (zcc m_X7_rounds) 33 = .ok (.lreturn, 1) := eg_X7_rounds_16.2.1
theorem d_X7_rounds_34 : zD m_X7_rounds 34 (.aload_n 0) 1 35 := ⟨eg_X7_rounds_16.2.2.1, rfl⟩
theorem d_X7_rounds_35 : zD m_X7_rounds 35 (.getfield 60) 3 38 := ⟨eg_X7_rounds_16.2.2.2.1, rfl⟩
theorem d_X7_rounds_38 : zD m_X7_rounds 38 (.aload_n 0) 1 39 := ⟨eg_X7_rounds_16.2.2.2.2.1, rfl⟩
theorem d_X7_rounds_39 : zD m_X7_rounds 39 (.getfield 19) 3 42 := ⟨eg_X7_rounds_16.2.2.2.2.2.1, rfl⟩
theorem d_X7_rounds_42 : zD m_X7_rounds 42 (.getfield 89) 3 45 := ⟨eg_X7_rounds_16.2.2.2.2.2.2.1, rfl⟩
theorem d_X7_rounds_45 : zD m_X7_rounds 45 (.bipush 6) 2 47 := ⟨eg_X7_rounds_16.2.2.2.2.2.2.2, rfl⟩
theorem d_X7_rounds_47 : zD m_X7_rounds 47 (.iaload) 1 48 := ⟨eg_X7_rounds_24.1, rfl⟩
theorem d_X7_rounds_48 : zD m_X7_rounds 48 (.invokevirtual 222) 3 51 := ⟨eg_X7_rounds_24.2.1, rfl⟩
theorem d_X7_rounds_51 : zD m_X7_rounds 51 (.aload_n 0) 1 52 := ⟨eg_X7_rounds_24.2.2.1, rfl⟩
theorem d_X7_rounds_52 : zD m_X7_rounds 52 (.getfield 60) 3 55 := ⟨eg_X7_rounds_24.2.2.2.1, rfl⟩
theorem d_X7_rounds_55 : zD m_X7_rounds 55 (.iload_n 1) 1 56 := ⟨eg_X7_rounds_24.2.2.2.2.1, rfl⟩
theorem d_X7_rounds_56 : zD m_X7_rounds 56 (.iload_n 2) 1 57 := ⟨eg_X7_rounds_24.2.2.2.2.2.1, rfl⟩
theorem d_X7_rounds_57 : zD m_X7_rounds 57 (.iload_n 3) 1 58 := ⟨eg_X7_rounds_24.2.2.2.2.2.2.1, rfl⟩
theorem d_X7_rounds_58 : zD m_X7_rounds 58 (.invokevirtual 251) 3 61 := ⟨eg_X7_rounds_24.2.2.2.2.2.2.2, rfl⟩
theorem d_X7_rounds_61 : decode (zcc m_X7_rounds) 61 = .ok (.lreturn, 1) := eg_X7_rounds_32
set_option maxRecDepth 20000 in
theorem eg_X7_keep_0 : decode (zcc m_X7_keep) 0 = .ok (.iload_n 1, 1) ∧ decode (zcc m_X7_keep) 1 = .ok (.ifCond .lt (8), 3) ∧ decode (zcc m_X7_keep) 4 = .ok (.iload_n 1, 1) ∧ decode (zcc m_X7_keep) 5 = .ok (.iconst 2, 1) ∧ decode (zcc m_X7_keep) 6 = .ok (.if_icmp .lt (5), 3) ∧ decode (zcc m_X7_keep) 9 = .ok (.iconst (-1), 1) ∧ decode (zcc m_X7_keep) 10 = .ok (.ireturn, 1) ∧ decode (zcc m_X7_keep) 11 = .ok (.aload_n 0, 1) := by decide +kernel
set_option maxRecDepth 20000 in
theorem eg_X7_keep_8 : decode (zcc m_X7_keep) 12 = .ok (.getfield 43, 3) ∧ decode (zcc m_X7_keep) 15 = .ok (.iload_n 1, 1) ∧ decode (zcc m_X7_keep) 16 = .ok (.baload, 1) ∧ decode (zcc m_X7_keep) 17 = .ok (.ifCond .eq (7), 3) ∧ decode (zcc m_X7_keep) 20 = .ok (.iconst 1, 1) ∧ decode (zcc m_X7_keep) 21 = .ok (.goto (4), 3) ∧ decode (zcc m_X7_keep) 24 = .ok (.iconst 0, 1) ∧ decode (zcc m_X7_keep) 25 = .ok (.istore_n 2, 1) := by decide +kernel
set_option maxRecDepth 20000 in
theorem eg_X7_keep_16 : decode (zcc m_X7_keep) 26 = .ok (.aload_n 0, 1) ∧ decode (zcc m_X7_keep) 27 = .ok (.getfield 39, 3) ∧ decode (zcc m_X7_keep) 30 = .ok (.iload_n 1, 1) ∧ decode (zcc m_X7_keep) 31 = .ok (.aaload, 1) ∧ decode (zcc m_X7_keep) 32 = .ok (.aload_n 0, 1) ∧ decode (zcc m_X7_keep) 33 = .ok (.getfield 35, 3) ∧ decode (zcc m_X7_keep) 36 = .ok (.invokevirtual 255, 3) ∧ decode (zcc m_X7_keep) 39 = .ok (.aload_n 0, 1) := by decide +kernel
set_option maxRecDepth 20000 in
theorem eg_X7_keep_24 : decode (zcc m_X7_keep) 40 = .ok (.getfield 43, 3) ∧ decode (zcc m_X7_keep) 43 = .ok (.iload_n 1, 1) ∧ decode (zcc m_X7_keep) 44 = .ok (.iconst 1, 1) ∧ decode (zcc m_X7_keep) 45 = .ok (.bastore, 1) ∧ decode (zcc m_X7_keep) 46 = .ok (.iload_n 2, 1) ∧ decode (zcc m_X7_keep) 47 = .ok (.ireturn, 1) := by decide +kernel
theorem d_X7_keep_0 : zD m_X7_keep 0 (.iload_n 1) 1 1 := ⟨eg_X7_keep_0.1, rfl⟩
theorem d_X7_keep_1 : zDj m_X7_keep 1 (.ifCond .lt) 4 9 := ⟨8, eg_X7_keep_0.2.1, rfl, by decide⟩
theorem d_X7_keep_4 : zD m_X7_keep 4 (.iload_n 1) 1 5 := ⟨eg_X7_keep_0.2.2.1, rfl⟩
theorem d_X7_keep_5 : zD m_X7_keep 5 (.iconst 2) 1 6 := ⟨eg_X7_keep_0.2.2.2.1, rfl⟩
theorem d_X7_keep_6 : zDj m_X7_keep 6 (.if_icmp .lt) 9 11 := ⟨5, eg_X7_keep_0.2.2.2.2.1, rfl, by decide⟩
theorem d_X7_keep_9 : zD m_X7_keep 9 (.iconst (-1)) 1 10 := ⟨eg_X7_keep_0.2.2.2.2.2.1, rfl⟩
theorem d_X7_keep_10 : decode (zcc m_X7_keep) 10 = .ok (.ireturn, 1) := eg_X7_keep_0.2.2.2.2.2.2.1
theorem d_X7_keep_11 : zD m_X7_keep 11 (.aload_n 0) 1 12 := ⟨eg_X7_keep_0.2.2.2.2.2.2.2, rfl⟩
theorem d_X7_keep_12 : zD m_X7_keep 12 (.getfield 43) 3 15 := ⟨eg_X7_keep_8.1, rfl⟩
theorem d_X7_keep_15 : zD m_X7_keep 15 (.iload_n 1) 1 16 := ⟨eg_X7_keep_8.2.1, rfl⟩
theorem d_X7_keep_16 : zD m_X7_keep 16 (.baload) 1 17 := ⟨eg_X7_keep_8.2.2.1, rfl⟩
theorem d_X7_keep_17 : zDj m_X7_keep 17 (.ifCond .eq) 20 24 := ⟨7, eg_X7_keep_8.2.2.2.1, rfl, by decide⟩
theorem d_X7_keep_20 : zD m_X7_keep 20 (.iconst 1) 1 21 := ⟨eg_X7_keep_8.2.2.2.2.1, rfl⟩
theorem d_X7_keep_21 : zDj m_X7_keep 21 (.goto) 24 25 := ⟨4, eg_X7_keep_8.2.2.2.2.2.1, rfl, by decide⟩
theorem d_X7_keep_24 : zD m_X7_keep 24 (.iconst 0) 1 25 := ⟨eg_X7_keep_8.2.2.2.2.2.2.1, rfl⟩
theorem d_X7_keep_25 : zD m_X7_keep 25 (.istore_n 2) 1 26 := ⟨eg_X7_keep_8.2.2.2.2.2.2.2, rfl⟩
theorem d_X7_keep_26 : zD m_X7_keep 26 (.aload_n 0) 1 27 := ⟨eg_X7_keep_16.1, rfl⟩
theorem d_X7_keep_27 : zD m_X7_keep 27 (.getfield 39) 3 30 := ⟨eg_X7_keep_16.2.1, rfl⟩
theorem d_X7_keep_30 : zD m_X7_keep 30 (.iload_n 1) 1 31 := ⟨eg_X7_keep_16.2.2.1, rfl⟩
theorem d_X7_keep_31 : zD m_X7_keep 31 (.aaload) 1 32 := ⟨eg_X7_keep_16.2.2.2.1, rfl⟩
theorem d_X7_keep_32 : zD m_X7_keep 32 (.aload_n 0) 1 33 := ⟨eg_X7_keep_16.2.2.2.2.1, rfl⟩
theorem d_X7_keep_33 : zD m_X7_keep 33 (.getfield 35) 3 36 := ⟨eg_X7_keep_16.2.2.2.2.2.1, rfl⟩
theorem d_X7_keep_36 : zD m_X7_keep 36 (.invokevirtual 255) 3 39 := ⟨eg_X7_keep_16.2.2.2.2.2.2.1, rfl⟩
theorem d_X7_keep_39 : zD m_X7_keep 39 (.aload_n 0) 1 40 := ⟨eg_X7_keep_16.2.2.2.2.2.2.2, rfl⟩
theorem d_X7_keep_40 : zD m_X7_keep 40 (.getfield 43) 3 43 := ⟨eg_X7_keep_24.1, rfl⟩
theorem d_X7_keep_43 : zD m_X7_keep 43 (.iload_n 1) 1 44 := ⟨eg_X7_keep_24.2.1, rfl⟩
theorem d_X7_keep_44 : zD m_X7_keep 44 (.iconst 1) 1 45 := ⟨eg_X7_keep_24.2.2.1, rfl⟩
theorem d_X7_keep_45 : zD m_X7_keep 45 (.bastore) 1 46 := ⟨eg_X7_keep_24.2.2.2.1, rfl⟩
theorem d_X7_keep_46 : zD m_X7_keep 46 (.iload_n 2) 1 47 := ⟨eg_X7_keep_24.2.2.2.2.1, rfl⟩
theorem d_X7_keep_47 : decode (zcc m_X7_keep) 47 = .ok (.ireturn, 1) := eg_X7_keep_24.2.2.2.2.2
set_option maxRecDepth 20000 in
theorem eg_X7_back_0 : decode (zcc m_X7_back) 0 = .ok (.iload_n 1, 1) ∧ decode (zcc m_X7_back) 1 = .ok (.ifCond .lt (8), 3) ∧ decode (zcc m_X7_back) 4 = .ok (.iload_n 1, 1) ∧ decode (zcc m_X7_back) 5 = .ok (.iconst 2, 1) ∧ decode (zcc m_X7_back) 6 = .ok (.if_icmp .lt (5), 3) ∧ decode (zcc m_X7_back) 9 = .ok (.iconst (-1), 1) ∧ decode (zcc m_X7_back) 10 = .ok (.ireturn, 1) ∧ decode (zcc m_X7_back) 11 = .ok (.aload_n 0, 1) := by decide +kernel
set_option maxRecDepth 20000 in
theorem eg_X7_back_8 : decode (zcc m_X7_back) 12 = .ok (.getfield 43, 3) ∧ decode (zcc m_X7_back) 15 = .ok (.iload_n 1, 1) ∧ decode (zcc m_X7_back) 16 = .ok (.baload, 1) ∧ decode (zcc m_X7_back) 17 = .ok (.ifCond .ne (6), 3) ∧ decode (zcc m_X7_back) 20 = .ok (.bipush (-2), 2) ∧ decode (zcc m_X7_back) 22 = .ok (.ireturn, 1) ∧ decode (zcc m_X7_back) 23 = .ok (.aload_n 0, 1) ∧ decode (zcc m_X7_back) 24 = .ok (.getfield 35, 3) := by decide +kernel
set_option maxRecDepth 20000 in
theorem eg_X7_back_16 : decode (zcc m_X7_back) 27 = .ok (.aload_n 0, 1) ∧ decode (zcc m_X7_back) 28 = .ok (.getfield 39, 3) ∧ decode (zcc m_X7_back) 31 = .ok (.iload_n 1, 1) ∧ decode (zcc m_X7_back) 32 = .ok (.aaload, 1) ∧ decode (zcc m_X7_back) 33 = .ok (.invokevirtual 255, 3) ∧ decode (zcc m_X7_back) 36 = .ok (.aload_n 0, 1) ∧ decode (zcc m_X7_back) 37 = .ok (.getfield 35, 3) ∧ decode (zcc m_X7_back) 40 = .ok (.getfield 97, 3) := by decide +kernel
set_option maxRecDepth 20000 in
theorem eg_X7_back_24 : decode (zcc m_X7_back) 43 = .ok (.invokestatic 123, 3) ∧ decode (zcc m_X7_back) 46 = .ok (.ireturn, 1) := by decide +kernel
theorem d_X7_back_0 : zD m_X7_back 0 (.iload_n 1) 1 1 := ⟨eg_X7_back_0.1, rfl⟩
theorem d_X7_back_1 : zDj m_X7_back 1 (.ifCond .lt) 4 9 := ⟨8, eg_X7_back_0.2.1, rfl, by decide⟩
theorem d_X7_back_4 : zD m_X7_back 4 (.iload_n 1) 1 5 := ⟨eg_X7_back_0.2.2.1, rfl⟩
theorem d_X7_back_5 : zD m_X7_back 5 (.iconst 2) 1 6 := ⟨eg_X7_back_0.2.2.2.1, rfl⟩
theorem d_X7_back_6 : zDj m_X7_back 6 (.if_icmp .lt) 9 11 := ⟨5, eg_X7_back_0.2.2.2.2.1, rfl, by decide⟩
theorem d_X7_back_9 : zD m_X7_back 9 (.iconst (-1)) 1 10 := ⟨eg_X7_back_0.2.2.2.2.2.1, rfl⟩
theorem d_X7_back_10 : decode (zcc m_X7_back) 10 = .ok (.ireturn, 1) := eg_X7_back_0.2.2.2.2.2.2.1
theorem d_X7_back_11 : zD m_X7_back 11 (.aload_n 0) 1 12 := ⟨eg_X7_back_0.2.2.2.2.2.2.2, rfl⟩
theorem d_X7_back_12 : zD m_X7_back 12 (.getfield 43) 3 15 := ⟨eg_X7_back_8.1, rfl⟩
theorem d_X7_back_15 : zD m_X7_back 15 (.iload_n 1) 1 16 := ⟨eg_X7_back_8.2.1, rfl⟩
theorem d_X7_back_16 : zD m_X7_back 16 (.baload) 1 17 := ⟨eg_X7_back_8.2.2.1, rfl⟩
theorem d_X7_back_17 : zDj m_X7_back 17 (.ifCond .ne) 20 23 := ⟨6, eg_X7_back_8.2.2.2.1, rfl, by decide⟩
theorem d_X7_back_20 : zD m_X7_back 20 (.bipush (-2)) 2 22 := ⟨eg_X7_back_8.2.2.2.2.1, rfl⟩
theorem d_X7_back_22 : decode (zcc m_X7_back) 22 = .ok (.ireturn, 1) := eg_X7_back_8.2.2.2.2.2.1
theorem d_X7_back_23 : zD m_X7_back 23 (.aload_n 0) 1 24 := ⟨eg_X7_back_8.2.2.2.2.2.2.1, rfl⟩
theorem d_X7_back_24 : zD m_X7_back 24 (.getfield 35) 3 27 := ⟨eg_X7_back_8.2.2.2.2.2.2.2, rfl⟩
theorem d_X7_back_27 : zD m_X7_back 27 (.aload_n 0) 1 28 := ⟨eg_X7_back_16.1, rfl⟩
theorem d_X7_back_28 : zD m_X7_back 28 (.getfield 39) 3 31 := ⟨eg_X7_back_16.2.1, rfl⟩
theorem d_X7_back_31 : zD m_X7_back 31 (.iload_n 1) 1 32 := ⟨eg_X7_back_16.2.2.1, rfl⟩
theorem d_X7_back_32 : zD m_X7_back 32 (.aaload) 1 33 := ⟨eg_X7_back_16.2.2.2.1, rfl⟩
theorem d_X7_back_33 : zD m_X7_back 33 (.invokevirtual 255) 3 36 := ⟨eg_X7_back_16.2.2.2.2.1, rfl⟩
theorem d_X7_back_36 : zD m_X7_back 36 (.aload_n 0) 1 37 := ⟨eg_X7_back_16.2.2.2.2.2.1, rfl⟩
theorem d_X7_back_37 : zD m_X7_back 37 (.getfield 35) 3 40 := ⟨eg_X7_back_16.2.2.2.2.2.2.1, rfl⟩
theorem d_X7_back_40 : zD m_X7_back 40 (.getfield 97) 3 43 := ⟨eg_X7_back_16.2.2.2.2.2.2.2, rfl⟩
theorem d_X7_back_43 : zD m_X7_back 43 (.invokestatic 123) 3 46 := ⟨eg_X7_back_24.1, rfl⟩
theorem d_X7_back_46 : decode (zcc m_X7_back) 46 = .ok (.ireturn, 1) := eg_X7_back_24.2
set_option maxRecDepth 20000 in
theorem eg_X7_sheet_0 : decode (zcc m_X7_sheet) 0 = .ok (.iload_n 1, 1) ∧ decode (zcc m_X7_sheet) 1 = .ok (.invokestatic 259, 3) ∧ decode (zcc m_X7_sheet) 4 = .ok (.ifCond .eq (16), 3) ∧ decode (zcc m_X7_sheet) 7 = .ok (.iload_n 2, 1) ∧ decode (zcc m_X7_sheet) 8 = .ok (.invokestatic 262, 3) ∧ decode (zcc m_X7_sheet) 11 = .ok (.ifCond .eq (9), 3) ∧ decode (zcc m_X7_sheet) 14 = .ok (.iload_n 3, 1) ∧ decode (zcc m_X7_sheet) 15 = .ok (.bipush 40, 2) := by decide +kernel
set_option maxRecDepth 20000 in
theorem eg_X7_sheet_8 : decode (zcc m_X7_sheet) 17 = .ok (.if_icmp .le (5), 3) ∧ decode (zcc m_X7_sheet) 20 = .ok (.iconst (-1), 1) ∧ decode (zcc m_X7_sheet) 21 = .ok (.ireturn, 1) ∧ decode (zcc m_X7_sheet) 22 = .ok (.iload_n 3, 1) ∧ decode (zcc m_X7_sheet) 23 = .ok (.ifCond .ge (6), 3) ∧ decode (zcc m_X7_sheet) 26 = .ok (.bipush (-14), 2) ∧ decode (zcc m_X7_sheet) 28 = .ok (.ireturn, 1) ∧ decode (zcc m_X7_sheet) 29 = .ok (.aload_n 0, 1) := by decide +kernel
set_option maxRecDepth 20000 in
theorem eg_X7_sheet_16 : decode (zcc m_X7_sheet) 30 = .ok (.getfield 66, 3) ∧ decode (zcc m_X7_sheet) 33 = .ok (.iload_n 1, 1) ∧ decode (zcc m_X7_sheet) 34 = .ok (.aaload, 1) ∧ decode (zcc m_X7_sheet) 35 = .ok (.iload_n 2, 1) ∧ decode (zcc m_X7_sheet) 36 = .ok (.iload_n 3, 1) ∧ decode (zcc m_X7_sheet) 37 = .ok (.invokevirtual 265, 3) ∧ decode (zcc m_X7_sheet) 40 = .ok (.iconst 1, 1) ∧ decode (zcc m_X7_sheet) 41 = .ok (.ireturn, 1) := by decide +kernel
theorem d_X7_sheet_0 : zD m_X7_sheet 0 (.iload_n 1) 1 1 := ⟨eg_X7_sheet_0.1, rfl⟩
theorem d_X7_sheet_1 : zD m_X7_sheet 1 (.invokestatic 259) 3 4 := ⟨eg_X7_sheet_0.2.1, rfl⟩
theorem d_X7_sheet_4 : zDj m_X7_sheet 4 (.ifCond .eq) 7 20 := ⟨16, eg_X7_sheet_0.2.2.1, rfl, by decide⟩
theorem d_X7_sheet_7 : zD m_X7_sheet 7 (.iload_n 2) 1 8 := ⟨eg_X7_sheet_0.2.2.2.1, rfl⟩
theorem d_X7_sheet_8 : zD m_X7_sheet 8 (.invokestatic 262) 3 11 := ⟨eg_X7_sheet_0.2.2.2.2.1, rfl⟩
theorem d_X7_sheet_11 : zDj m_X7_sheet 11 (.ifCond .eq) 14 20 := ⟨9, eg_X7_sheet_0.2.2.2.2.2.1, rfl, by decide⟩
theorem d_X7_sheet_14 : zD m_X7_sheet 14 (.iload_n 3) 1 15 := ⟨eg_X7_sheet_0.2.2.2.2.2.2.1, rfl⟩
theorem d_X7_sheet_15 : zD m_X7_sheet 15 (.bipush 40) 2 17 := ⟨eg_X7_sheet_0.2.2.2.2.2.2.2, rfl⟩
theorem d_X7_sheet_17 : zDj m_X7_sheet 17 (.if_icmp .le) 20 22 := ⟨5, eg_X7_sheet_8.1, rfl, by decide⟩
theorem d_X7_sheet_20 : zD m_X7_sheet 20 (.iconst (-1)) 1 21 := ⟨eg_X7_sheet_8.2.1, rfl⟩
theorem d_X7_sheet_21 : decode (zcc m_X7_sheet) 21 = .ok (.ireturn, 1) := eg_X7_sheet_8.2.2.1
theorem d_X7_sheet_22 : zD m_X7_sheet 22 (.iload_n 3) 1 23 := ⟨eg_X7_sheet_8.2.2.2.1, rfl⟩
theorem d_X7_sheet_23 : zDj m_X7_sheet 23 (.ifCond .ge) 26 29 := ⟨6, eg_X7_sheet_8.2.2.2.2.1, rfl, by decide⟩
theorem d_X7_sheet_26 : zD m_X7_sheet 26 (.bipush (-14)) 2 28 := ⟨eg_X7_sheet_8.2.2.2.2.2.1, rfl⟩
theorem d_X7_sheet_28 : decode (zcc m_X7_sheet) 28 = .ok (.ireturn, 1) := eg_X7_sheet_8.2.2.2.2.2.2.1
theorem d_X7_sheet_29 : zD m_X7_sheet 29 (.aload_n 0) 1 30 := ⟨eg_X7_sheet_8.2.2.2.2.2.2.2, rfl⟩
theorem d_X7_sheet_30 : zD m_X7_sheet 30 (.getfield 66) 3 33 := ⟨eg_X7_sheet_16.1, rfl⟩
theorem d_X7_sheet_33 : zD m_X7_sheet 33 (.iload_n 1) 1 34 := ⟨eg_X7_sheet_16.2.1, rfl⟩
theorem d_X7_sheet_34 : zD m_X7_sheet 34 (.aaload) 1 35 := ⟨eg_X7_sheet_16.2.2.1, rfl⟩
theorem d_X7_sheet_35 : zD m_X7_sheet 35 (.iload_n 2) 1 36 := ⟨eg_X7_sheet_16.2.2.2.1, rfl⟩
theorem d_X7_sheet_36 : zD m_X7_sheet 36 (.iload_n 3) 1 37 := ⟨eg_X7_sheet_16.2.2.2.2.1, rfl⟩
theorem d_X7_sheet_37 : zD m_X7_sheet 37 (.invokevirtual 265) 3 40 := ⟨eg_X7_sheet_16.2.2.2.2.2.1, rfl⟩
theorem d_X7_sheet_40 : zD m_X7_sheet 40 (.iconst 1) 1 41 := ⟨eg_X7_sheet_16.2.2.2.2.2.2.1, rfl⟩
theorem d_X7_sheet_41 : decode (zcc m_X7_sheet) 41 = .ok (.ireturn, 1) := eg_X7_sheet_16.2.2.2.2.2.2.2
set_option maxRecDepth 20000 in
theorem eg_X7_lay_0 : decode (zcc m_X7_lay) 0 = .ok (.iload_n 1, 1) ∧ decode (zcc m_X7_lay) 1 = .ok (.invokestatic 259, 3) ∧ decode (zcc m_X7_lay) 4 = .ok (.ifCond .ne (5), 3) ∧ decode (zcc m_X7_lay) 7 = .ok (.iconst (-1), 1) ∧ decode (zcc m_X7_lay) 8 = .ok (.ireturn, 1) ∧ decode (zcc m_X7_lay) 9 = .ok (.aload_n 0, 1) ∧ decode (zcc m_X7_lay) 10 = .ok (.getfield 66, 3) ∧ decode (zcc m_X7_lay) 13 = .ok (.iload_n 1, 1) := by decide +kernel
set_option maxRecDepth 20000 in
theorem eg_X7_lay_8 : decode (zcc m_X7_lay) 14 = .ok (.aaload, 1) ∧ decode (zcc m_X7_lay) 15 = .ok (.astore 4, 2) ∧ decode (zcc m_X7_lay) 17 = .ok (.aload 4, 2) ∧ decode (zcc m_X7_lay) 19 = .ok (.aload 4, 2) ∧ decode (zcc m_X7_lay) 21 = .ok (.getfield 269, 3) ∧ decode (zcc m_X7_lay) 24 = .ok (.iload_n 2, 1) ∧ decode (zcc m_X7_lay) 25 = .ok (.invokevirtual 272, 3) ∧ decode (zcc m_X7_lay) 28 = .ok (.istore 5, 2) := by decide +kernel
set_option maxRecDepth 20000 in
theorem eg_X7_lay_16 : decode (zcc m_X7_lay) 30 = .ok (.iload 5, 2) ∧ decode (zcc m_X7_lay) 32 = .ok (.ifCond .eq (9), 3) ∧ decode (zcc m_X7_lay) 35 = .ok (.bipush (-10), 2) ∧ decode (zcc m_X7_lay) 37 = .ok (.iload 5, 2) ∧ decode (zcc m_X7_lay) 39 = .ok (.isub, 1) ∧ decode (zcc m_X7_lay) 40 = .ok (.ireturn, 1) ∧ decode (zcc m_X7_lay) 41 = .ok (.aload 4, 2) ∧ decode (zcc m_X7_lay) 43 = .ok (.iload_n 2, 1) := by decide +kernel
set_option maxRecDepth 20000 in
theorem eg_X7_lay_24 : decode (zcc m_X7_lay) 44 = .ok (.iload_n 3, 1) ∧ decode (zcc m_X7_lay) 45 = .ok (.invokevirtual 275, 3) ∧ decode (zcc m_X7_lay) 48 = .ok (.iconst 1, 1) ∧ decode (zcc m_X7_lay) 49 = .ok (.ireturn, 1) := by decide +kernel
theorem d_X7_lay_0 : zD m_X7_lay 0 (.iload_n 1) 1 1 := ⟨eg_X7_lay_0.1, rfl⟩
theorem d_X7_lay_1 : zD m_X7_lay 1 (.invokestatic 259) 3 4 := ⟨eg_X7_lay_0.2.1, rfl⟩
theorem d_X7_lay_4 : zDj m_X7_lay 4 (.ifCond .ne) 7 9 := ⟨5, eg_X7_lay_0.2.2.1, rfl, by decide⟩
theorem d_X7_lay_7 : zD m_X7_lay 7 (.iconst (-1)) 1 8 := ⟨eg_X7_lay_0.2.2.2.1, rfl⟩
theorem d_X7_lay_8 : decode (zcc m_X7_lay) 8 = .ok (.ireturn, 1) := eg_X7_lay_0.2.2.2.2.1
theorem d_X7_lay_9 : zD m_X7_lay 9 (.aload_n 0) 1 10 := ⟨eg_X7_lay_0.2.2.2.2.2.1, rfl⟩
theorem d_X7_lay_10 : zD m_X7_lay 10 (.getfield 66) 3 13 := ⟨eg_X7_lay_0.2.2.2.2.2.2.1, rfl⟩
theorem d_X7_lay_13 : zD m_X7_lay 13 (.iload_n 1) 1 14 := ⟨eg_X7_lay_0.2.2.2.2.2.2.2, rfl⟩
theorem d_X7_lay_14 : zD m_X7_lay 14 (.aaload) 1 15 := ⟨eg_X7_lay_8.1, rfl⟩
theorem d_X7_lay_15 : zD m_X7_lay 15 (.astore 4) 2 17 := ⟨eg_X7_lay_8.2.1, rfl⟩
theorem d_X7_lay_17 : zD m_X7_lay 17 (.aload 4) 2 19 := ⟨eg_X7_lay_8.2.2.1, rfl⟩
theorem d_X7_lay_19 : zD m_X7_lay 19 (.aload 4) 2 21 := ⟨eg_X7_lay_8.2.2.2.1, rfl⟩
theorem d_X7_lay_21 : zD m_X7_lay 21 (.getfield 269) 3 24 := ⟨eg_X7_lay_8.2.2.2.2.1, rfl⟩
theorem d_X7_lay_24 : zD m_X7_lay 24 (.iload_n 2) 1 25 := ⟨eg_X7_lay_8.2.2.2.2.2.1, rfl⟩
theorem d_X7_lay_25 : zD m_X7_lay 25 (.invokevirtual 272) 3 28 := ⟨eg_X7_lay_8.2.2.2.2.2.2.1, rfl⟩
theorem d_X7_lay_28 : zD m_X7_lay 28 (.istore 5) 2 30 := ⟨eg_X7_lay_8.2.2.2.2.2.2.2, rfl⟩
theorem d_X7_lay_30 : zD m_X7_lay 30 (.iload 5) 2 32 := ⟨eg_X7_lay_16.1, rfl⟩
theorem d_X7_lay_32 : zDj m_X7_lay 32 (.ifCond .eq) 35 41 := ⟨9, eg_X7_lay_16.2.1, rfl, by decide⟩
theorem d_X7_lay_35 : zD m_X7_lay 35 (.bipush (-10)) 2 37 := ⟨eg_X7_lay_16.2.2.1, rfl⟩
theorem d_X7_lay_37 : zD m_X7_lay 37 (.iload 5) 2 39 := ⟨eg_X7_lay_16.2.2.2.1, rfl⟩
theorem d_X7_lay_39 : zD m_X7_lay 39 (.isub) 1 40 := ⟨eg_X7_lay_16.2.2.2.2.1, rfl⟩
theorem d_X7_lay_40 : decode (zcc m_X7_lay) 40 = .ok (.ireturn, 1) := eg_X7_lay_16.2.2.2.2.2.1
theorem d_X7_lay_41 : zD m_X7_lay 41 (.aload 4) 2 43 := ⟨eg_X7_lay_16.2.2.2.2.2.2.1, rfl⟩
theorem d_X7_lay_43 : zD m_X7_lay 43 (.iload_n 2) 1 44 := ⟨eg_X7_lay_16.2.2.2.2.2.2.2, rfl⟩
theorem d_X7_lay_44 : zD m_X7_lay 44 (.iload_n 3) 1 45 := ⟨eg_X7_lay_24.1, rfl⟩
theorem d_X7_lay_45 : zD m_X7_lay 45 (.invokevirtual 275) 3 48 := ⟨eg_X7_lay_24.2.1, rfl⟩
theorem d_X7_lay_48 : zD m_X7_lay 48 (.iconst 1) 1 49 := ⟨eg_X7_lay_24.2.2.1, rfl⟩
theorem d_X7_lay_49 : decode (zcc m_X7_lay) 49 = .ok (.ireturn, 1) := eg_X7_lay_24.2.2.2
set_option maxRecDepth 20000 in
theorem eg_X7_reads_0 : decode (zcc m_X7_reads) 0 = .ok (.iload_n 1, 1) ∧ decode (zcc m_X7_reads) 1 = .ok (.invokestatic 259, 3) ∧ decode (zcc m_X7_reads) 4 = .ok (.ifCond .eq (22), 3) ∧ decode (zcc m_X7_reads) 7 = .ok (.iload_n 2, 1) ∧ decode (zcc m_X7_reads) 8 = .ok (.invokestatic 262, 3) ∧ decode (zcc m_X7_reads) 11 = .ok (.ifCond .eq (15), 3) ∧ decode (zcc m_X7_reads) 14 = .ok (.iload 4, 2) ∧ decode (zcc m_X7_reads) 16 = .ok (.ifCond .lt (10), 3) := by decide +kernel
set_option maxRecDepth 20000 in
theorem eg_X7_reads_8 : decode (zcc m_X7_reads) 19 = .ok (.iload 4, 2) ∧ decode (zcc m_X7_reads) 21 = .ok (.bipush 20, 2) ∧ decode (zcc m_X7_reads) 23 = .ok (.if_icmp .le (5), 3) ∧ decode (zcc m_X7_reads) 26 = .ok (.iconst (-1), 1) ∧ decode (zcc m_X7_reads) 27 = .ok (.ireturn, 1) ∧ decode (zcc m_X7_reads) 28 = .ok (.aload_n 0, 1) ∧ decode (zcc m_X7_reads) 29 = .ok (.getfield 66, 3) ∧ decode (zcc m_X7_reads) 32 = .ok (.iload_n 1, 1) := by decide +kernel
set_option maxRecDepth 20000 in
theorem eg_X7_reads_16 : decode (zcc m_X7_reads) 33 = .ok (.aaload, 1) ∧ decode (zcc m_X7_reads) 34 = .ok (.astore 5, 2) ∧ decode (zcc m_X7_reads) 36 = .ok (.iconst 0, 1) ∧ decode (zcc m_X7_reads) 37 = .ok (.istore 6, 2) ∧ decode (zcc m_X7_reads) 39 = .ok (.iconst 0, 1) ∧ decode (zcc m_X7_reads) 40 = .ok (.istore 7, 2) ∧ decode (zcc m_X7_reads) 42 = .ok (.iconst 0, 1) ∧ decode (zcc m_X7_reads) 43 = .ok (.istore 8, 2) := by decide +kernel
set_option maxRecDepth 20000 in
theorem eg_X7_reads_24 : decode (zcc m_X7_reads) 45 = .ok (.iload 8, 2) ∧ decode (zcc m_X7_reads) 47 = .ok (.iload 4, 2) ∧ decode (zcc m_X7_reads) 49 = .ok (.if_icmp .ge (72), 3) ∧ decode (zcc m_X7_reads) 52 = .ok (.aload 5, 2) ∧ decode (zcc m_X7_reads) 54 = .ok (.iload_n 2, 1) ∧ decode (zcc m_X7_reads) 55 = .ok (.iload_n 3, 1) ∧ decode (zcc m_X7_reads) 56 = .ok (.iconst 2, 1) ∧ decode (zcc m_X7_reads) 57 = .ok (.iload 8, 2) := by decide +kernel
set_option maxRecDepth 20000 in
theorem eg_X7_reads_32 : decode (zcc m_X7_reads) 59 = .ok (.imul, 1) ∧ decode (zcc m_X7_reads) 60 = .ok (.iadd, 1) ∧ decode (zcc m_X7_reads) 61 = .ok (.invokevirtual 278, 3) ∧ decode (zcc m_X7_reads) 64 = .ok (.istore 6, 2) ∧ decode (zcc m_X7_reads) 66 = .ok (.iload 6, 2) ∧ decode (zcc m_X7_reads) 68 = .ok (.ifCond .eq (6), 3) ∧ decode (zcc m_X7_reads) 71 = .ok (.goto (50), 3) ∧ decode (zcc m_X7_reads) 74 = .ok (.aload 5, 2) := by decide +kernel
set_option maxRecDepth 20000 in
theorem eg_X7_reads_40 : decode (zcc m_X7_reads) 76 = .ok (.getfield 281, 3) ∧ decode (zcc m_X7_reads) 79 = .ok (.iload_n 3, 1) ∧ decode (zcc m_X7_reads) 80 = .ok (.iconst 2, 1) ∧ decode (zcc m_X7_reads) 81 = .ok (.iload 8, 2) ∧ decode (zcc m_X7_reads) 83 = .ok (.imul, 1) ∧ decode (zcc m_X7_reads) 84 = .ok (.iadd, 1) ∧ decode (zcc m_X7_reads) 85 = .ok (.iaload, 1) ∧ decode (zcc m_X7_reads) 86 = .ok (.aload 5, 2) := by decide +kernel
set_option maxRecDepth 20000 in
theorem eg_X7_reads_48 : decode (zcc m_X7_reads) 88 = .ok (.getfield 281, 3) ∧ decode (zcc m_X7_reads) 91 = .ok (.iload_n 3, 1) ∧ decode (zcc m_X7_reads) 92 = .ok (.iconst 2, 1) ∧ decode (zcc m_X7_reads) 93 = .ok (.iload 8, 2) ∧ decode (zcc m_X7_reads) 95 = .ok (.imul, 1) ∧ decode (zcc m_X7_reads) 96 = .ok (.iadd, 1) ∧ decode (zcc m_X7_reads) 97 = .ok (.iconst 1, 1) ∧ decode (zcc m_X7_reads) 98 = .ok (.iadd, 1) := by decide +kernel
set_option maxRecDepth 20000 in
theorem eg_X7_reads_56 : decode (zcc m_X7_reads) 99 = .ok (.iaload, 1) ∧ decode (zcc m_X7_reads) 100 = .ok (.invokestatic 112, 3) ∧ decode (zcc m_X7_reads) 103 = .ok (.ifCond .ne (9), 3) ∧ decode (zcc m_X7_reads) 106 = .ok (.bipush (-20), 2) ∧ decode (zcc m_X7_reads) 108 = .ok (.iload 8, 2) ∧ decode (zcc m_X7_reads) 110 = .ok (.isub, 1) ∧ decode (zcc m_X7_reads) 111 = .ok (.ireturn, 1) ∧ decode (zcc m_X7_reads) 112 = .ok (.iinc 7 1, 3) := by decide +kernel
set_option maxRecDepth 20000 in
theorem eg_X7_reads_64 : decode (zcc m_X7_reads) 115 = .ok (.iinc 8 1, 3) ∧ decode (zcc m_X7_reads) 118 = .ok (.goto (-73), 3) ∧ decode (zcc m_X7_reads) 121 = .ok (.iconst 0, 1) ∧ decode (zcc m_X7_reads) 122 = .ok (.istore 8, 2) ∧ decode (zcc m_X7_reads) 124 = .ok (.iload 8, 2) ∧ decode (zcc m_X7_reads) 126 = .ok (.iload 7, 2) ∧ decode (zcc m_X7_reads) 128 = .ok (.if_icmp .ge (43), 3) ∧ decode (zcc m_X7_reads) 131 = .ok (.aload_n 0, 1) := by decide +kernel
set_option maxRecDepth 20000 in
theorem eg_X7_reads_72 : decode (zcc m_X7_reads) 132 = .ok (.getfield 35, 3) ∧ decode (zcc m_X7_reads) 135 = .ok (.getfield 100, 3) ∧ decode (zcc m_X7_reads) 138 = .ok (.aload 5, 2) ∧ decode (zcc m_X7_reads) 140 = .ok (.getfield 281, 3) ∧ decode (zcc m_X7_reads) 143 = .ok (.iload_n 3, 1) ∧ decode (zcc m_X7_reads) 144 = .ok (.iconst 2, 1) ∧ decode (zcc m_X7_reads) 145 = .ok (.iload 8, 2) ∧ decode (zcc m_X7_reads) 147 = .ok (.imul, 1) := by decide +kernel
set_option maxRecDepth 20000 in
theorem eg_X7_reads_80 : decode (zcc m_X7_reads) 148 = .ok (.iadd, 1) ∧ decode (zcc m_X7_reads) 149 = .ok (.iaload, 1) ∧ decode (zcc m_X7_reads) 150 = .ok (.aload 5, 2) ∧ decode (zcc m_X7_reads) 152 = .ok (.getfield 281, 3) ∧ decode (zcc m_X7_reads) 155 = .ok (.iload_n 3, 1) ∧ decode (zcc m_X7_reads) 156 = .ok (.iconst 2, 1) ∧ decode (zcc m_X7_reads) 157 = .ok (.iload 8, 2) ∧ decode (zcc m_X7_reads) 159 = .ok (.imul, 1) := by decide +kernel
set_option maxRecDepth 20000 in
theorem eg_X7_reads_88 : decode (zcc m_X7_reads) 160 = .ok (.iadd, 1) ∧ decode (zcc m_X7_reads) 161 = .ok (.iconst 1, 1) ∧ decode (zcc m_X7_reads) 162 = .ok (.iadd, 1) ∧ decode (zcc m_X7_reads) 163 = .ok (.iaload, 1) ∧ decode (zcc m_X7_reads) 164 = .ok (.iastore, 1) ∧ decode (zcc m_X7_reads) 165 = .ok (.iinc 8 1, 3) ∧ decode (zcc m_X7_reads) 168 = .ok (.goto (-44), 3) ∧ decode (zcc m_X7_reads) 171 = .ok (.aload_n 0, 1) := by decide +kernel
set_option maxRecDepth 20000 in
theorem eg_X7_reads_96 : decode (zcc m_X7_reads) 172 = .ok (.iload 6, 2) ∧ decode (zcc m_X7_reads) 174 = .ok (.putfield 284, 3) ∧ decode (zcc m_X7_reads) 177 = .ok (.iload 7, 2) ∧ decode (zcc m_X7_reads) 179 = .ok (.ireturn, 1) := by decide +kernel
theorem d_X7_reads_0 : zD m_X7_reads 0 (.iload_n 1) 1 1 := ⟨eg_X7_reads_0.1, rfl⟩
theorem d_X7_reads_1 : zD m_X7_reads 1 (.invokestatic 259) 3 4 := ⟨eg_X7_reads_0.2.1, rfl⟩
theorem d_X7_reads_4 : zDj m_X7_reads 4 (.ifCond .eq) 7 26 := ⟨22, eg_X7_reads_0.2.2.1, rfl, by decide⟩
theorem d_X7_reads_7 : zD m_X7_reads 7 (.iload_n 2) 1 8 := ⟨eg_X7_reads_0.2.2.2.1, rfl⟩
theorem d_X7_reads_8 : zD m_X7_reads 8 (.invokestatic 262) 3 11 := ⟨eg_X7_reads_0.2.2.2.2.1, rfl⟩
theorem d_X7_reads_11 : zDj m_X7_reads 11 (.ifCond .eq) 14 26 := ⟨15, eg_X7_reads_0.2.2.2.2.2.1, rfl, by decide⟩
theorem d_X7_reads_14 : zD m_X7_reads 14 (.iload 4) 2 16 := ⟨eg_X7_reads_0.2.2.2.2.2.2.1, rfl⟩
theorem d_X7_reads_16 : zDj m_X7_reads 16 (.ifCond .lt) 19 26 := ⟨10, eg_X7_reads_0.2.2.2.2.2.2.2, rfl, by decide⟩
theorem d_X7_reads_19 : zD m_X7_reads 19 (.iload 4) 2 21 := ⟨eg_X7_reads_8.1, rfl⟩
theorem d_X7_reads_21 : zD m_X7_reads 21 (.bipush 20) 2 23 := ⟨eg_X7_reads_8.2.1, rfl⟩
theorem d_X7_reads_23 : zDj m_X7_reads 23 (.if_icmp .le) 26 28 := ⟨5, eg_X7_reads_8.2.2.1, rfl, by decide⟩
theorem d_X7_reads_26 : zD m_X7_reads 26 (.iconst (-1)) 1 27 := ⟨eg_X7_reads_8.2.2.2.1, rfl⟩
theorem d_X7_reads_27 : decode (zcc m_X7_reads) 27 = .ok (.ireturn, 1) := eg_X7_reads_8.2.2.2.2.1
theorem d_X7_reads_28 : zD m_X7_reads 28 (.aload_n 0) 1 29 := ⟨eg_X7_reads_8.2.2.2.2.2.1, rfl⟩
theorem d_X7_reads_29 : zD m_X7_reads 29 (.getfield 66) 3 32 := ⟨eg_X7_reads_8.2.2.2.2.2.2.1, rfl⟩
theorem d_X7_reads_32 : zD m_X7_reads 32 (.iload_n 1) 1 33 := ⟨eg_X7_reads_8.2.2.2.2.2.2.2, rfl⟩
theorem d_X7_reads_33 : zD m_X7_reads 33 (.aaload) 1 34 := ⟨eg_X7_reads_16.1, rfl⟩
theorem d_X7_reads_34 : zD m_X7_reads 34 (.astore 5) 2 36 := ⟨eg_X7_reads_16.2.1, rfl⟩
theorem d_X7_reads_36 : zD m_X7_reads 36 (.iconst 0) 1 37 := ⟨eg_X7_reads_16.2.2.1, rfl⟩
theorem d_X7_reads_37 : zD m_X7_reads 37 (.istore 6) 2 39 := ⟨eg_X7_reads_16.2.2.2.1, rfl⟩
theorem d_X7_reads_39 : zD m_X7_reads 39 (.iconst 0) 1 40 := ⟨eg_X7_reads_16.2.2.2.2.1, rfl⟩
theorem d_X7_reads_40 : zD m_X7_reads 40 (.istore 7) 2 42 := ⟨eg_X7_reads_16.2.2.2.2.2.1, rfl⟩
theorem d_X7_reads_42 : zD m_X7_reads 42 (.iconst 0) 1 43 := ⟨eg_X7_reads_16.2.2.2.2.2.2.1, rfl⟩
theorem d_X7_reads_43 : zD m_X7_reads 43 (.istore 8) 2 45 := ⟨eg_X7_reads_16.2.2.2.2.2.2.2, rfl⟩
theorem d_X7_reads_45 : zD m_X7_reads 45 (.iload 8) 2 47 := ⟨eg_X7_reads_24.1, rfl⟩
theorem d_X7_reads_47 : zD m_X7_reads 47 (.iload 4) 2 49 := ⟨eg_X7_reads_24.2.1, rfl⟩
theorem d_X7_reads_49 : zDj m_X7_reads 49 (.if_icmp .ge) 52 121 := ⟨72, eg_X7_reads_24.2.2.1, rfl, by decide⟩
theorem d_X7_reads_52 : zD m_X7_reads 52 (.aload 5) 2 54 := ⟨eg_X7_reads_24.2.2.2.1, rfl⟩
theorem d_X7_reads_54 : zD m_X7_reads 54 (.iload_n 2) 1 55 := ⟨eg_X7_reads_24.2.2.2.2.1, rfl⟩
theorem d_X7_reads_55 : zD m_X7_reads 55 (.iload_n 3) 1 56 := ⟨eg_X7_reads_24.2.2.2.2.2.1, rfl⟩
theorem d_X7_reads_56 : zD m_X7_reads 56 (.iconst 2) 1 57 := ⟨eg_X7_reads_24.2.2.2.2.2.2.1, rfl⟩
theorem d_X7_reads_57 : zD m_X7_reads 57 (.iload 8) 2 59 := ⟨eg_X7_reads_24.2.2.2.2.2.2.2, rfl⟩
theorem d_X7_reads_59 : zD m_X7_reads 59 (.imul) 1 60 := ⟨eg_X7_reads_32.1, rfl⟩
theorem d_X7_reads_60 : zD m_X7_reads 60 (.iadd) 1 61 := ⟨eg_X7_reads_32.2.1, rfl⟩
theorem d_X7_reads_61 : zD m_X7_reads 61 (.invokevirtual 278) 3 64 := ⟨eg_X7_reads_32.2.2.1, rfl⟩
theorem d_X7_reads_64 : zD m_X7_reads 64 (.istore 6) 2 66 := ⟨eg_X7_reads_32.2.2.2.1, rfl⟩
theorem d_X7_reads_66 : zD m_X7_reads 66 (.iload 6) 2 68 := ⟨eg_X7_reads_32.2.2.2.2.1, rfl⟩
theorem d_X7_reads_68 : zDj m_X7_reads 68 (.ifCond .eq) 71 74 := ⟨6, eg_X7_reads_32.2.2.2.2.2.1, rfl, by decide⟩
theorem d_X7_reads_71 : zDj m_X7_reads 71 (.goto) 74 121 := ⟨50, eg_X7_reads_32.2.2.2.2.2.2.1, rfl, by decide⟩
theorem d_X7_reads_74 : zD m_X7_reads 74 (.aload 5) 2 76 := ⟨eg_X7_reads_32.2.2.2.2.2.2.2, rfl⟩
theorem d_X7_reads_76 : zD m_X7_reads 76 (.getfield 281) 3 79 := ⟨eg_X7_reads_40.1, rfl⟩
theorem d_X7_reads_79 : zD m_X7_reads 79 (.iload_n 3) 1 80 := ⟨eg_X7_reads_40.2.1, rfl⟩
theorem d_X7_reads_80 : zD m_X7_reads 80 (.iconst 2) 1 81 := ⟨eg_X7_reads_40.2.2.1, rfl⟩
theorem d_X7_reads_81 : zD m_X7_reads 81 (.iload 8) 2 83 := ⟨eg_X7_reads_40.2.2.2.1, rfl⟩
theorem d_X7_reads_83 : zD m_X7_reads 83 (.imul) 1 84 := ⟨eg_X7_reads_40.2.2.2.2.1, rfl⟩
theorem d_X7_reads_84 : zD m_X7_reads 84 (.iadd) 1 85 := ⟨eg_X7_reads_40.2.2.2.2.2.1, rfl⟩
theorem d_X7_reads_85 : zD m_X7_reads 85 (.iaload) 1 86 := ⟨eg_X7_reads_40.2.2.2.2.2.2.1, rfl⟩
theorem d_X7_reads_86 : zD m_X7_reads 86 (.aload 5) 2 88 := ⟨eg_X7_reads_40.2.2.2.2.2.2.2, rfl⟩
theorem d_X7_reads_88 : zD m_X7_reads 88 (.getfield 281) 3 91 := ⟨eg_X7_reads_48.1, rfl⟩
theorem d_X7_reads_91 : zD m_X7_reads 91 (.iload_n 3) 1 92 := ⟨eg_X7_reads_48.2.1, rfl⟩
theorem d_X7_reads_92 : zD m_X7_reads 92 (.iconst 2) 1 93 := ⟨eg_X7_reads_48.2.2.1, rfl⟩
theorem d_X7_reads_93 : zD m_X7_reads 93 (.iload 8) 2 95 := ⟨eg_X7_reads_48.2.2.2.1, rfl⟩
theorem d_X7_reads_95 : zD m_X7_reads 95 (.imul) 1 96 := ⟨eg_X7_reads_48.2.2.2.2.1, rfl⟩
theorem d_X7_reads_96 : zD m_X7_reads 96 (.iadd) 1 97 := ⟨eg_X7_reads_48.2.2.2.2.2.1, rfl⟩
theorem d_X7_reads_97 : zD m_X7_reads 97 (.iconst 1) 1 98 := ⟨eg_X7_reads_48.2.2.2.2.2.2.1, rfl⟩
theorem d_X7_reads_98 : zD m_X7_reads 98 (.iadd) 1 99 := ⟨eg_X7_reads_48.2.2.2.2.2.2.2, rfl⟩
theorem d_X7_reads_99 : zD m_X7_reads 99 (.iaload) 1 100 := ⟨eg_X7_reads_56.1, rfl⟩
theorem d_X7_reads_100 : zD m_X7_reads 100 (.invokestatic 112) 3 103 := ⟨eg_X7_reads_56.2.1, rfl⟩
theorem d_X7_reads_103 : zDj m_X7_reads 103 (.ifCond .ne) 106 112 := ⟨9, eg_X7_reads_56.2.2.1, rfl, by decide⟩
theorem d_X7_reads_106 : zD m_X7_reads 106 (.bipush (-20)) 2 108 := ⟨eg_X7_reads_56.2.2.2.1, rfl⟩
theorem d_X7_reads_108 : zD m_X7_reads 108 (.iload 8) 2 110 := ⟨eg_X7_reads_56.2.2.2.2.1, rfl⟩
theorem d_X7_reads_110 : zD m_X7_reads 110 (.isub) 1 111 := ⟨eg_X7_reads_56.2.2.2.2.2.1, rfl⟩
theorem d_X7_reads_111 : decode (zcc m_X7_reads) 111 = .ok (.ireturn, 1) := eg_X7_reads_56.2.2.2.2.2.2.1
theorem d_X7_reads_112 : zD m_X7_reads 112 (.iinc 7 1) 3 115 := ⟨eg_X7_reads_56.2.2.2.2.2.2.2, rfl⟩
theorem d_X7_reads_115 : zD m_X7_reads 115 (.iinc 8 1) 3 118 := ⟨eg_X7_reads_64.1, rfl⟩
theorem d_X7_reads_118 : zDj m_X7_reads 118 (.goto) 121 45 := ⟨-73, eg_X7_reads_64.2.1, rfl, by decide⟩
theorem d_X7_reads_121 : zD m_X7_reads 121 (.iconst 0) 1 122 := ⟨eg_X7_reads_64.2.2.1, rfl⟩
theorem d_X7_reads_122 : zD m_X7_reads 122 (.istore 8) 2 124 := ⟨eg_X7_reads_64.2.2.2.1, rfl⟩
theorem d_X7_reads_124 : zD m_X7_reads 124 (.iload 8) 2 126 := ⟨eg_X7_reads_64.2.2.2.2.1, rfl⟩
theorem d_X7_reads_126 : zD m_X7_reads 126 (.iload 7) 2 128 := ⟨eg_X7_reads_64.2.2.2.2.2.1, rfl⟩
theorem d_X7_reads_128 : zDj m_X7_reads 128 (.if_icmp .ge) 131 171 := ⟨43, eg_X7_reads_64.2.2.2.2.2.2.1, rfl, by decide⟩
theorem d_X7_reads_131 : zD m_X7_reads 131 (.aload_n 0) 1 132 := ⟨eg_X7_reads_64.2.2.2.2.2.2.2, rfl⟩
theorem d_X7_reads_132 : zD m_X7_reads 132 (.getfield 35) 3 135 := ⟨eg_X7_reads_72.1, rfl⟩
theorem d_X7_reads_135 : zD m_X7_reads 135 (.getfield 100) 3 138 := ⟨eg_X7_reads_72.2.1, rfl⟩
theorem d_X7_reads_138 : zD m_X7_reads 138 (.aload 5) 2 140 := ⟨eg_X7_reads_72.2.2.1, rfl⟩
theorem d_X7_reads_140 : zD m_X7_reads 140 (.getfield 281) 3 143 := ⟨eg_X7_reads_72.2.2.2.1, rfl⟩
theorem d_X7_reads_143 : zD m_X7_reads 143 (.iload_n 3) 1 144 := ⟨eg_X7_reads_72.2.2.2.2.1, rfl⟩
theorem d_X7_reads_144 : zD m_X7_reads 144 (.iconst 2) 1 145 := ⟨eg_X7_reads_72.2.2.2.2.2.1, rfl⟩
theorem d_X7_reads_145 : zD m_X7_reads 145 (.iload 8) 2 147 := ⟨eg_X7_reads_72.2.2.2.2.2.2.1, rfl⟩
theorem d_X7_reads_147 : zD m_X7_reads 147 (.imul) 1 148 := ⟨eg_X7_reads_72.2.2.2.2.2.2.2, rfl⟩
theorem d_X7_reads_148 : zD m_X7_reads 148 (.iadd) 1 149 := ⟨eg_X7_reads_80.1, rfl⟩
theorem d_X7_reads_149 : zD m_X7_reads 149 (.iaload) 1 150 := ⟨eg_X7_reads_80.2.1, rfl⟩
theorem d_X7_reads_150 : zD m_X7_reads 150 (.aload 5) 2 152 := ⟨eg_X7_reads_80.2.2.1, rfl⟩
theorem d_X7_reads_152 : zD m_X7_reads 152 (.getfield 281) 3 155 := ⟨eg_X7_reads_80.2.2.2.1, rfl⟩
theorem d_X7_reads_155 : zD m_X7_reads 155 (.iload_n 3) 1 156 := ⟨eg_X7_reads_80.2.2.2.2.1, rfl⟩
theorem d_X7_reads_156 : zD m_X7_reads 156 (.iconst 2) 1 157 := ⟨eg_X7_reads_80.2.2.2.2.2.1, rfl⟩
theorem d_X7_reads_157 : zD m_X7_reads 157 (.iload 8) 2 159 := ⟨eg_X7_reads_80.2.2.2.2.2.2.1, rfl⟩
theorem d_X7_reads_159 : zD m_X7_reads 159 (.imul) 1 160 := ⟨eg_X7_reads_80.2.2.2.2.2.2.2, rfl⟩
theorem d_X7_reads_160 : zD m_X7_reads 160 (.iadd) 1 161 := ⟨eg_X7_reads_88.1, rfl⟩
theorem d_X7_reads_161 : zD m_X7_reads 161 (.iconst 1) 1 162 := ⟨eg_X7_reads_88.2.1, rfl⟩
theorem d_X7_reads_162 : zD m_X7_reads 162 (.iadd) 1 163 := ⟨eg_X7_reads_88.2.2.1, rfl⟩
theorem d_X7_reads_163 : zD m_X7_reads 163 (.iaload) 1 164 := ⟨eg_X7_reads_88.2.2.2.1, rfl⟩
theorem d_X7_reads_164 : zD m_X7_reads 164 (.iastore) 1 165 := ⟨eg_X7_reads_88.2.2.2.2.1, rfl⟩
theorem d_X7_reads_165 : zD m_X7_reads 165 (.iinc 8 1) 3 168 := ⟨eg_X7_reads_88.2.2.2.2.2.1, rfl⟩
theorem d_X7_reads_168 : zDj m_X7_reads 168 (.goto) 171 124 := ⟨-44, eg_X7_reads_88.2.2.2.2.2.2.1, rfl, by decide⟩
theorem d_X7_reads_171 : zD m_X7_reads 171 (.aload_n 0) 1 172 := ⟨eg_X7_reads_88.2.2.2.2.2.2.2, rfl⟩
theorem d_X7_reads_172 : zD m_X7_reads 172 (.iload 6) 2 174 := ⟨eg_X7_reads_96.1, rfl⟩
theorem d_X7_reads_174 : zD m_X7_reads 174 (.putfield 284) 3 177 := ⟨eg_X7_reads_96.2.1, rfl⟩
theorem d_X7_reads_177 : zD m_X7_reads 177 (.iload 7) 2 179 := ⟨eg_X7_reads_96.2.2.1, rfl⟩
theorem d_X7_reads_179 : decode (zcc m_X7_reads) 179 = .ok (.ireturn, 1) := eg_X7_reads_96.2.2.2
set_option maxRecDepth 20000 in
theorem eg_X7_torn_0 : decode (zcc m_X7_torn) 0 = .ok (.aload_n 0, 1) ∧ decode (zcc m_X7_torn) 1 = .ok (.getfield 284, 3) ∧ decode (zcc m_X7_torn) 4 = .ok (.ireturn, 1) := by decide +kernel
theorem d_X7_torn_0 : zD m_X7_torn 0 (.aload_n 0) 1 1 := ⟨eg_X7_torn_0.1, rfl⟩
theorem d_X7_torn_1 : zD m_X7_torn 1 (.getfield 284) 3 4 := ⟨eg_X7_torn_0.2.1, rfl⟩
theorem d_X7_torn_4 : decode (zcc m_X7_torn) 4 = .ok (.ireturn, 1) := eg_X7_torn_0.2.2
set_option maxRecDepth 20000 in
theorem eg_X7_count_0 : decode (zcc m_X7_count) 0 = .ok (.iload_n 1, 1) ∧ decode (zcc m_X7_count) 1 = .ok (.tableswitch 149 0 6 #[43, 54, 65, 73, 103, 111, 138], 43) ∧ decode (zcc m_X7_count) 44 = .ok (.aload_n 0, 1) ∧ decode (zcc m_X7_count) 45 = .ok (.getfield 19, 3) ∧ decode (zcc m_X7_count) 48 = .ok (.getfield 103, 3) ∧ decode (zcc m_X7_count) 51 = .ok (.invokestatic 287, 3) ∧ decode (zcc m_X7_count) 54 = .ok (.ireturn, 1) ∧ decode (zcc m_X7_count) 55 = .ok (.aload_n 0, 1) := by decide +kernel
set_option maxRecDepth 20000 in
theorem eg_X7_count_8 : decode (zcc m_X7_count) 56 = .ok (.getfield 19, 3) ∧ decode (zcc m_X7_count) 59 = .ok (.getfield 106, 3) ∧ decode (zcc m_X7_count) 62 = .ok (.invokestatic 287, 3) ∧ decode (zcc m_X7_count) 65 = .ok (.ireturn, 1) ∧ decode (zcc m_X7_count) 66 = .ok (.aload_n 0, 1) ∧ decode (zcc m_X7_count) 67 = .ok (.getfield 19, 3) ∧ decode (zcc m_X7_count) 70 = .ok (.getfield 216, 3) ∧ decode (zcc m_X7_count) 73 = .ok (.ireturn, 1) := by decide +kernel
set_option maxRecDepth 20000 in
theorem eg_X7_count_16 : decode (zcc m_X7_count) 74 = .ok (.aload_n 0, 1) ∧ decode (zcc m_X7_count) 75 = .ok (.getfield 43, 3) ∧ decode (zcc m_X7_count) 78 = .ok (.iconst 0, 1) ∧ decode (zcc m_X7_count) 79 = .ok (.baload, 1) ∧ decode (zcc m_X7_count) 80 = .ok (.ifCond .eq (7), 3) ∧ decode (zcc m_X7_count) 83 = .ok (.iconst 1, 1) ∧ decode (zcc m_X7_count) 84 = .ok (.goto (4), 3) ∧ decode (zcc m_X7_count) 87 = .ok (.iconst 0, 1) := by decide +kernel
set_option maxRecDepth 20000 in
theorem eg_X7_count_24 : decode (zcc m_X7_count) 88 = .ok (.aload_n 0, 1) ∧ decode (zcc m_X7_count) 89 = .ok (.getfield 43, 3) ∧ decode (zcc m_X7_count) 92 = .ok (.iconst 1, 1) ∧ decode (zcc m_X7_count) 93 = .ok (.baload, 1) ∧ decode (zcc m_X7_count) 94 = .ok (.ifCond .eq (7), 3) ∧ decode (zcc m_X7_count) 97 = .ok (.iconst 1, 1) ∧ decode (zcc m_X7_count) 98 = .ok (.goto (4), 3) ∧ decode (zcc m_X7_count) 101 = .ok (.iconst 0, 1) := by decide +kernel
set_option maxRecDepth 20000 in
theorem eg_X7_count_32 : decode (zcc m_X7_count) 102 = .ok (.iadd, 1) ∧ decode (zcc m_X7_count) 103 = .ok (.ireturn, 1) ∧ decode (zcc m_X7_count) 104 = .ok (.aload_n 0, 1) ∧ decode (zcc m_X7_count) 105 = .ok (.getfield 12, 3) ∧ decode (zcc m_X7_count) 108 = .ok (.getfield 75, 3) ∧ decode (zcc m_X7_count) 111 = .ok (.ireturn, 1) ∧ decode (zcc m_X7_count) 112 = .ok (.aload_n 0, 1) ∧ decode (zcc m_X7_count) 113 = .ok (.getfield 66, 3) := by decide +kernel
set_option maxRecDepth 20000 in
theorem eg_X7_count_40 : decode (zcc m_X7_count) 116 = .ok (.iconst 0, 1) ∧ decode (zcc m_X7_count) 117 = .ok (.aaload, 1) ∧ decode (zcc m_X7_count) 118 = .ok (.getfield 290, 3) ∧ decode (zcc m_X7_count) 121 = .ok (.ifCond .ge (8), 3) ∧ decode (zcc m_X7_count) 124 = .ok (.bipush (-4), 2) ∧ decode (zcc m_X7_count) 126 = .ok (.goto (12), 3) ∧ decode (zcc m_X7_count) 129 = .ok (.aload_n 0, 1) ∧ decode (zcc m_X7_count) 130 = .ok (.getfield 66, 3) := by decide +kernel
set_option maxRecDepth 20000 in
theorem eg_X7_count_48 : decode (zcc m_X7_count) 133 = .ok (.iconst 0, 1) ∧ decode (zcc m_X7_count) 134 = .ok (.aaload, 1) ∧ decode (zcc m_X7_count) 135 = .ok (.getfield 290, 3) ∧ decode (zcc m_X7_count) 138 = .ok (.ireturn, 1) ∧ decode (zcc m_X7_count) 139 = .ok (.aload_n 0, 1) ∧ decode (zcc m_X7_count) 140 = .ok (.getfield 35, 3) ∧ decode (zcc m_X7_count) 143 = .ok (.getfield 100, 3) ∧ decode (zcc m_X7_count) 146 = .ok (.invokestatic 287, 3) := by decide +kernel
set_option maxRecDepth 20000 in
theorem eg_X7_count_56 : decode (zcc m_X7_count) 149 = .ok (.ireturn, 1) ∧ decode (zcc m_X7_count) 150 = .ok (.iconst (-1), 1) ∧ decode (zcc m_X7_count) 151 = .ok (.ireturn, 1) := by decide +kernel
theorem d_X7_count_0 : zD m_X7_count 0 (.iload_n 1) 1 1 := ⟨eg_X7_count_0.1, rfl⟩
theorem d_X7_count_1 : decode (zcc m_X7_count) 1 = .ok (.tableswitch 149 0 6 #[43, 54, 65, 73, 103, 111, 138], 43) := eg_X7_count_0.2.1
theorem d_X7_count_44 : zD m_X7_count 44 (.aload_n 0) 1 45 := ⟨eg_X7_count_0.2.2.1, rfl⟩
theorem d_X7_count_45 : zD m_X7_count 45 (.getfield 19) 3 48 := ⟨eg_X7_count_0.2.2.2.1, rfl⟩
theorem d_X7_count_48 : zD m_X7_count 48 (.getfield 103) 3 51 := ⟨eg_X7_count_0.2.2.2.2.1, rfl⟩
theorem d_X7_count_51 : zD m_X7_count 51 (.invokestatic 287) 3 54 := ⟨eg_X7_count_0.2.2.2.2.2.1, rfl⟩
theorem d_X7_count_54 : decode (zcc m_X7_count) 54 = .ok (.ireturn, 1) := eg_X7_count_0.2.2.2.2.2.2.1
theorem d_X7_count_55 : zD m_X7_count 55 (.aload_n 0) 1 56 := ⟨eg_X7_count_0.2.2.2.2.2.2.2, rfl⟩
theorem d_X7_count_56 : zD m_X7_count 56 (.getfield 19) 3 59 := ⟨eg_X7_count_8.1, rfl⟩
theorem d_X7_count_59 : zD m_X7_count 59 (.getfield 106) 3 62 := ⟨eg_X7_count_8.2.1, rfl⟩
theorem d_X7_count_62 : zD m_X7_count 62 (.invokestatic 287) 3 65 := ⟨eg_X7_count_8.2.2.1, rfl⟩
theorem d_X7_count_65 : decode (zcc m_X7_count) 65 = .ok (.ireturn, 1) := eg_X7_count_8.2.2.2.1
theorem d_X7_count_66 : zD m_X7_count 66 (.aload_n 0) 1 67 := ⟨eg_X7_count_8.2.2.2.2.1, rfl⟩
theorem d_X7_count_67 : zD m_X7_count 67 (.getfield 19) 3 70 := ⟨eg_X7_count_8.2.2.2.2.2.1, rfl⟩
theorem d_X7_count_70 : zD m_X7_count 70 (.getfield 216) 3 73 := ⟨eg_X7_count_8.2.2.2.2.2.2.1, rfl⟩
theorem d_X7_count_73 : decode (zcc m_X7_count) 73 = .ok (.ireturn, 1) := eg_X7_count_8.2.2.2.2.2.2.2
theorem d_X7_count_74 : zD m_X7_count 74 (.aload_n 0) 1 75 := ⟨eg_X7_count_16.1, rfl⟩
theorem d_X7_count_75 : zD m_X7_count 75 (.getfield 43) 3 78 := ⟨eg_X7_count_16.2.1, rfl⟩
theorem d_X7_count_78 : zD m_X7_count 78 (.iconst 0) 1 79 := ⟨eg_X7_count_16.2.2.1, rfl⟩
theorem d_X7_count_79 : zD m_X7_count 79 (.baload) 1 80 := ⟨eg_X7_count_16.2.2.2.1, rfl⟩
theorem d_X7_count_80 : zDj m_X7_count 80 (.ifCond .eq) 83 87 := ⟨7, eg_X7_count_16.2.2.2.2.1, rfl, by decide⟩
theorem d_X7_count_83 : zD m_X7_count 83 (.iconst 1) 1 84 := ⟨eg_X7_count_16.2.2.2.2.2.1, rfl⟩
theorem d_X7_count_84 : zDj m_X7_count 84 (.goto) 87 88 := ⟨4, eg_X7_count_16.2.2.2.2.2.2.1, rfl, by decide⟩
theorem d_X7_count_87 : zD m_X7_count 87 (.iconst 0) 1 88 := ⟨eg_X7_count_16.2.2.2.2.2.2.2, rfl⟩
theorem d_X7_count_88 : zD m_X7_count 88 (.aload_n 0) 1 89 := ⟨eg_X7_count_24.1, rfl⟩
theorem d_X7_count_89 : zD m_X7_count 89 (.getfield 43) 3 92 := ⟨eg_X7_count_24.2.1, rfl⟩
theorem d_X7_count_92 : zD m_X7_count 92 (.iconst 1) 1 93 := ⟨eg_X7_count_24.2.2.1, rfl⟩
theorem d_X7_count_93 : zD m_X7_count 93 (.baload) 1 94 := ⟨eg_X7_count_24.2.2.2.1, rfl⟩
theorem d_X7_count_94 : zDj m_X7_count 94 (.ifCond .eq) 97 101 := ⟨7, eg_X7_count_24.2.2.2.2.1, rfl, by decide⟩
theorem d_X7_count_97 : zD m_X7_count 97 (.iconst 1) 1 98 := ⟨eg_X7_count_24.2.2.2.2.2.1, rfl⟩
theorem d_X7_count_98 : zDj m_X7_count 98 (.goto) 101 102 := ⟨4, eg_X7_count_24.2.2.2.2.2.2.1, rfl, by decide⟩
theorem d_X7_count_101 : zD m_X7_count 101 (.iconst 0) 1 102 := ⟨eg_X7_count_24.2.2.2.2.2.2.2, rfl⟩
theorem d_X7_count_102 : zD m_X7_count 102 (.iadd) 1 103 := ⟨eg_X7_count_32.1, rfl⟩
theorem d_X7_count_103 : decode (zcc m_X7_count) 103 = .ok (.ireturn, 1) := eg_X7_count_32.2.1
theorem d_X7_count_104 : zD m_X7_count 104 (.aload_n 0) 1 105 := ⟨eg_X7_count_32.2.2.1, rfl⟩
theorem d_X7_count_105 : zD m_X7_count 105 (.getfield 12) 3 108 := ⟨eg_X7_count_32.2.2.2.1, rfl⟩
theorem d_X7_count_108 : zD m_X7_count 108 (.getfield 75) 3 111 := ⟨eg_X7_count_32.2.2.2.2.1, rfl⟩
theorem d_X7_count_111 : decode (zcc m_X7_count) 111 = .ok (.ireturn, 1) := eg_X7_count_32.2.2.2.2.2.1
theorem d_X7_count_112 : zD m_X7_count 112 (.aload_n 0) 1 113 := ⟨eg_X7_count_32.2.2.2.2.2.2.1, rfl⟩
theorem d_X7_count_113 : zD m_X7_count 113 (.getfield 66) 3 116 := ⟨eg_X7_count_32.2.2.2.2.2.2.2, rfl⟩
theorem d_X7_count_116 : zD m_X7_count 116 (.iconst 0) 1 117 := ⟨eg_X7_count_40.1, rfl⟩
theorem d_X7_count_117 : zD m_X7_count 117 (.aaload) 1 118 := ⟨eg_X7_count_40.2.1, rfl⟩
theorem d_X7_count_118 : zD m_X7_count 118 (.getfield 290) 3 121 := ⟨eg_X7_count_40.2.2.1, rfl⟩
theorem d_X7_count_121 : zDj m_X7_count 121 (.ifCond .ge) 124 129 := ⟨8, eg_X7_count_40.2.2.2.1, rfl, by decide⟩
theorem d_X7_count_124 : zD m_X7_count 124 (.bipush (-4)) 2 126 := ⟨eg_X7_count_40.2.2.2.2.1, rfl⟩
theorem d_X7_count_126 : zDj m_X7_count 126 (.goto) 129 138 := ⟨12, eg_X7_count_40.2.2.2.2.2.1, rfl, by decide⟩
theorem d_X7_count_129 : zD m_X7_count 129 (.aload_n 0) 1 130 := ⟨eg_X7_count_40.2.2.2.2.2.2.1, rfl⟩
theorem d_X7_count_130 : zD m_X7_count 130 (.getfield 66) 3 133 := ⟨eg_X7_count_40.2.2.2.2.2.2.2, rfl⟩
theorem d_X7_count_133 : zD m_X7_count 133 (.iconst 0) 1 134 := ⟨eg_X7_count_48.1, rfl⟩
theorem d_X7_count_134 : zD m_X7_count 134 (.aaload) 1 135 := ⟨eg_X7_count_48.2.1, rfl⟩
theorem d_X7_count_135 : zD m_X7_count 135 (.getfield 290) 3 138 := ⟨eg_X7_count_48.2.2.1, rfl⟩
theorem d_X7_count_138 : decode (zcc m_X7_count) 138 = .ok (.ireturn, 1) := eg_X7_count_48.2.2.2.1
theorem d_X7_count_139 : zD m_X7_count 139 (.aload_n 0) 1 140 := ⟨eg_X7_count_48.2.2.2.2.1, rfl⟩
theorem d_X7_count_140 : zD m_X7_count 140 (.getfield 35) 3 143 := ⟨eg_X7_count_48.2.2.2.2.2.1, rfl⟩
theorem d_X7_count_143 : zD m_X7_count 143 (.getfield 100) 3 146 := ⟨eg_X7_count_48.2.2.2.2.2.2.1, rfl⟩
theorem d_X7_count_146 : zD m_X7_count 146 (.invokestatic 287) 3 149 := ⟨eg_X7_count_48.2.2.2.2.2.2.2, rfl⟩
theorem d_X7_count_149 : decode (zcc m_X7_count) 149 = .ok (.ireturn, 1) := eg_X7_count_56.1
theorem d_X7_count_150 : zD m_X7_count 150 (.iconst (-1)) 1 151 := ⟨eg_X7_count_56.2.1, rfl⟩
theorem d_X7_count_151 : decode (zcc m_X7_count) 151 = .ok (.ireturn, 1) := eg_X7_count_56.2.2
set_option maxRecDepth 20000 in
theorem eg_X7_isWell_0 : decode (zcc m_X7_isWell) 0 = .ok (.iload_n 0, 1) ∧ decode (zcc m_X7_isWell) 1 = .ok (.ifCond .lt (13), 3) ∧ decode (zcc m_X7_isWell) 4 = .ok (.iload_n 0, 1) ∧ decode (zcc m_X7_isWell) 5 = .ok (.bipush 48, 2) ∧ decode (zcc m_X7_isWell) 7 = .ok (.if_icmp .ge (7), 3) ∧ decode (zcc m_X7_isWell) 10 = .ok (.iconst 1, 1) ∧ decode (zcc m_X7_isWell) 11 = .ok (.goto (4), 3) ∧ decode (zcc m_X7_isWell) 14 = .ok (.iconst 0, 1) := by decide +kernel
set_option maxRecDepth 20000 in
theorem eg_X7_isWell_8 : decode (zcc m_X7_isWell) 15 = .ok (.ireturn, 1) := by decide +kernel
theorem d_X7_isWell_0 : zD m_X7_isWell 0 (.iload_n 0) 1 1 := ⟨eg_X7_isWell_0.1, rfl⟩
theorem d_X7_isWell_1 : zDj m_X7_isWell 1 (.ifCond .lt) 4 14 := ⟨13, eg_X7_isWell_0.2.1, rfl, by decide⟩
theorem d_X7_isWell_4 : zD m_X7_isWell 4 (.iload_n 0) 1 5 := ⟨eg_X7_isWell_0.2.2.1, rfl⟩
theorem d_X7_isWell_5 : zD m_X7_isWell 5 (.bipush 48) 2 7 := ⟨eg_X7_isWell_0.2.2.2.1, rfl⟩
theorem d_X7_isWell_7 : zDj m_X7_isWell 7 (.if_icmp .ge) 10 14 := ⟨7, eg_X7_isWell_0.2.2.2.2.1, rfl, by decide⟩
theorem d_X7_isWell_10 : zD m_X7_isWell 10 (.iconst 1) 1 11 := ⟨eg_X7_isWell_0.2.2.2.2.2.1, rfl⟩
theorem d_X7_isWell_11 : zDj m_X7_isWell 11 (.goto) 14 15 := ⟨4, eg_X7_isWell_0.2.2.2.2.2.2.1, rfl, by decide⟩
theorem d_X7_isWell_14 : zD m_X7_isWell 14 (.iconst 0) 1 15 := ⟨eg_X7_isWell_0.2.2.2.2.2.2.2, rfl⟩
theorem d_X7_isWell_15 : decode (zcc m_X7_isWell) 15 = .ok (.ireturn, 1) := eg_X7_isWell_8
set_option maxRecDepth 20000 in
theorem eg_X7_isColumn_0 : decode (zcc m_X7_isColumn) 0 = .ok (.iload_n 0, 1) ∧ decode (zcc m_X7_isColumn) 1 = .ok (.ifCond .lt (13), 3) ∧ decode (zcc m_X7_isColumn) 4 = .ok (.iload_n 0, 1) ∧ decode (zcc m_X7_isColumn) 5 = .ok (.bipush 8, 2) ∧ decode (zcc m_X7_isColumn) 7 = .ok (.if_icmp .ge (7), 3) ∧ decode (zcc m_X7_isColumn) 10 = .ok (.iconst 1, 1) ∧ decode (zcc m_X7_isColumn) 11 = .ok (.goto (4), 3) ∧ decode (zcc m_X7_isColumn) 14 = .ok (.iconst 0, 1) := by decide +kernel
set_option maxRecDepth 20000 in
theorem eg_X7_isColumn_8 : decode (zcc m_X7_isColumn) 15 = .ok (.ireturn, 1) := by decide +kernel
theorem d_X7_isColumn_0 : zD m_X7_isColumn 0 (.iload_n 0) 1 1 := ⟨eg_X7_isColumn_0.1, rfl⟩
theorem d_X7_isColumn_1 : zDj m_X7_isColumn 1 (.ifCond .lt) 4 14 := ⟨13, eg_X7_isColumn_0.2.1, rfl, by decide⟩
theorem d_X7_isColumn_4 : zD m_X7_isColumn 4 (.iload_n 0) 1 5 := ⟨eg_X7_isColumn_0.2.2.1, rfl⟩
theorem d_X7_isColumn_5 : zD m_X7_isColumn 5 (.bipush 8) 2 7 := ⟨eg_X7_isColumn_0.2.2.2.1, rfl⟩
theorem d_X7_isColumn_7 : zDj m_X7_isColumn 7 (.if_icmp .ge) 10 14 := ⟨7, eg_X7_isColumn_0.2.2.2.2.1, rfl, by decide⟩
theorem d_X7_isColumn_10 : zD m_X7_isColumn 10 (.iconst 1) 1 11 := ⟨eg_X7_isColumn_0.2.2.2.2.2.1, rfl⟩
theorem d_X7_isColumn_11 : zDj m_X7_isColumn 11 (.goto) 14 15 := ⟨4, eg_X7_isColumn_0.2.2.2.2.2.2.1, rfl, by decide⟩
theorem d_X7_isColumn_14 : zD m_X7_isColumn 14 (.iconst 0) 1 15 := ⟨eg_X7_isColumn_0.2.2.2.2.2.2.2, rfl⟩
theorem d_X7_isColumn_15 : decode (zcc m_X7_isColumn) 15 = .ok (.ireturn, 1) := eg_X7_isColumn_8
set_option maxRecDepth 20000 in
theorem eg_X7_isLighting_0 : decode (zcc m_X7_isLighting) 0 = .ok (.iload_n 0, 1) ∧ decode (zcc m_X7_isLighting) 1 = .ok (.invokestatic 93, 3) ∧ decode (zcc m_X7_isLighting) 4 = .ok (.ifCond .eq (17), 3) ∧ decode (zcc m_X7_isLighting) 7 = .ok (.iload_n 1, 1) ∧ decode (zcc m_X7_isLighting) 8 = .ok (.ifCond .lt (13), 3) ∧ decode (zcc m_X7_isLighting) 11 = .ok (.iload_n 1, 1) ∧ decode (zcc m_X7_isLighting) 12 = .ok (.bipush 99, 2) ∧ decode (zcc m_X7_isLighting) 14 = .ok (.if_icmp .gt (7), 3) := by decide +kernel
set_option maxRecDepth 20000 in
theorem eg_X7_isLighting_8 : decode (zcc m_X7_isLighting) 17 = .ok (.iconst 1, 1) ∧ decode (zcc m_X7_isLighting) 18 = .ok (.goto (4), 3) ∧ decode (zcc m_X7_isLighting) 21 = .ok (.iconst 0, 1) ∧ decode (zcc m_X7_isLighting) 22 = .ok (.ireturn, 1) := by decide +kernel
theorem d_X7_isLighting_0 : zD m_X7_isLighting 0 (.iload_n 0) 1 1 := ⟨eg_X7_isLighting_0.1, rfl⟩
theorem d_X7_isLighting_1 : zD m_X7_isLighting 1 (.invokestatic 93) 3 4 := ⟨eg_X7_isLighting_0.2.1, rfl⟩
theorem d_X7_isLighting_4 : zDj m_X7_isLighting 4 (.ifCond .eq) 7 21 := ⟨17, eg_X7_isLighting_0.2.2.1, rfl, by decide⟩
theorem d_X7_isLighting_7 : zD m_X7_isLighting 7 (.iload_n 1) 1 8 := ⟨eg_X7_isLighting_0.2.2.2.1, rfl⟩
theorem d_X7_isLighting_8 : zDj m_X7_isLighting 8 (.ifCond .lt) 11 21 := ⟨13, eg_X7_isLighting_0.2.2.2.2.1, rfl, by decide⟩
theorem d_X7_isLighting_11 : zD m_X7_isLighting 11 (.iload_n 1) 1 12 := ⟨eg_X7_isLighting_0.2.2.2.2.2.1, rfl⟩
theorem d_X7_isLighting_12 : zD m_X7_isLighting 12 (.bipush 99) 2 14 := ⟨eg_X7_isLighting_0.2.2.2.2.2.2.1, rfl⟩
theorem d_X7_isLighting_14 : zDj m_X7_isLighting 14 (.if_icmp .gt) 17 21 := ⟨7, eg_X7_isLighting_0.2.2.2.2.2.2.2, rfl, by decide⟩
theorem d_X7_isLighting_17 : zD m_X7_isLighting 17 (.iconst 1) 1 18 := ⟨eg_X7_isLighting_8.1, rfl⟩
theorem d_X7_isLighting_18 : zDj m_X7_isLighting 18 (.goto) 21 22 := ⟨4, eg_X7_isLighting_8.2.1, rfl, by decide⟩
theorem d_X7_isLighting_21 : zD m_X7_isLighting 21 (.iconst 0) 1 22 := ⟨eg_X7_isLighting_8.2.2.1, rfl⟩
theorem d_X7_isLighting_22 : decode (zcc m_X7_isLighting) 22 = .ok (.ireturn, 1) := eg_X7_isLighting_8.2.2.2
set_option maxRecDepth 20000 in
theorem eg_X7_isTicks_0 : decode (zcc m_X7_isTicks) 0 = .ok (.iload_n 0, 1) ∧ decode (zcc m_X7_isTicks) 1 = .ok (.iconst 1, 1) ∧ decode (zcc m_X7_isTicks) 2 = .ok (.if_icmp .lt (14), 3) ∧ decode (zcc m_X7_isTicks) 5 = .ok (.iload_n 0, 1) ∧ decode (zcc m_X7_isTicks) 6 = .ok (.sipush 999, 3) ∧ decode (zcc m_X7_isTicks) 9 = .ok (.if_icmp .gt (7), 3) ∧ decode (zcc m_X7_isTicks) 12 = .ok (.iconst 1, 1) ∧ decode (zcc m_X7_isTicks) 13 = .ok (.goto (4), 3) := by decide +kernel
set_option maxRecDepth 20000 in
theorem eg_X7_isTicks_8 : decode (zcc m_X7_isTicks) 16 = .ok (.iconst 0, 1) ∧ decode (zcc m_X7_isTicks) 17 = .ok (.ireturn, 1) := by decide +kernel
theorem d_X7_isTicks_0 : zD m_X7_isTicks 0 (.iload_n 0) 1 1 := ⟨eg_X7_isTicks_0.1, rfl⟩
theorem d_X7_isTicks_1 : zD m_X7_isTicks 1 (.iconst 1) 1 2 := ⟨eg_X7_isTicks_0.2.1, rfl⟩
theorem d_X7_isTicks_2 : zDj m_X7_isTicks 2 (.if_icmp .lt) 5 16 := ⟨14, eg_X7_isTicks_0.2.2.1, rfl, by decide⟩
theorem d_X7_isTicks_5 : zD m_X7_isTicks 5 (.iload_n 0) 1 6 := ⟨eg_X7_isTicks_0.2.2.2.1, rfl⟩
theorem d_X7_isTicks_6 : zD m_X7_isTicks 6 (.sipush 999) 3 9 := ⟨eg_X7_isTicks_0.2.2.2.2.1, rfl⟩
theorem d_X7_isTicks_9 : zDj m_X7_isTicks 9 (.if_icmp .gt) 12 16 := ⟨7, eg_X7_isTicks_0.2.2.2.2.2.1, rfl, by decide⟩
theorem d_X7_isTicks_12 : zD m_X7_isTicks 12 (.iconst 1) 1 13 := ⟨eg_X7_isTicks_0.2.2.2.2.2.2.1, rfl⟩
theorem d_X7_isTicks_13 : zDj m_X7_isTicks 13 (.goto) 16 17 := ⟨4, eg_X7_isTicks_0.2.2.2.2.2.2.2, rfl, by decide⟩
theorem d_X7_isTicks_16 : zD m_X7_isTicks 16 (.iconst 0) 1 17 := ⟨eg_X7_isTicks_8.1, rfl⟩
theorem d_X7_isTicks_17 : decode (zcc m_X7_isTicks) 17 = .ok (.ireturn, 1) := eg_X7_isTicks_8.2
set_option maxRecDepth 20000 in
theorem eg_X7_isBin_0 : decode (zcc m_X7_isBin) 0 = .ok (.iload_n 0, 1) ∧ decode (zcc m_X7_isBin) 1 = .ok (.iconst 1, 1) ∧ decode (zcc m_X7_isBin) 2 = .ok (.if_icmp .lt (12), 3) ∧ decode (zcc m_X7_isBin) 5 = .ok (.iload_n 0, 1) ∧ decode (zcc m_X7_isBin) 6 = .ok (.iconst 3, 1) ∧ decode (zcc m_X7_isBin) 7 = .ok (.if_icmp .gt (7), 3) ∧ decode (zcc m_X7_isBin) 10 = .ok (.iconst 1, 1) ∧ decode (zcc m_X7_isBin) 11 = .ok (.goto (4), 3) := by decide +kernel
set_option maxRecDepth 20000 in
theorem eg_X7_isBin_8 : decode (zcc m_X7_isBin) 14 = .ok (.iconst 0, 1) ∧ decode (zcc m_X7_isBin) 15 = .ok (.ireturn, 1) := by decide +kernel
theorem d_X7_isBin_0 : zD m_X7_isBin 0 (.iload_n 0) 1 1 := ⟨eg_X7_isBin_0.1, rfl⟩
theorem d_X7_isBin_1 : zD m_X7_isBin 1 (.iconst 1) 1 2 := ⟨eg_X7_isBin_0.2.1, rfl⟩
theorem d_X7_isBin_2 : zDj m_X7_isBin 2 (.if_icmp .lt) 5 14 := ⟨12, eg_X7_isBin_0.2.2.1, rfl, by decide⟩
theorem d_X7_isBin_5 : zD m_X7_isBin 5 (.iload_n 0) 1 6 := ⟨eg_X7_isBin_0.2.2.2.1, rfl⟩
theorem d_X7_isBin_6 : zD m_X7_isBin 6 (.iconst 3) 1 7 := ⟨eg_X7_isBin_0.2.2.2.2.1, rfl⟩
theorem d_X7_isBin_7 : zDj m_X7_isBin 7 (.if_icmp .gt) 10 14 := ⟨7, eg_X7_isBin_0.2.2.2.2.2.1, rfl, by decide⟩
theorem d_X7_isBin_10 : zD m_X7_isBin 10 (.iconst 1) 1 11 := ⟨eg_X7_isBin_0.2.2.2.2.2.2.1, rfl⟩
theorem d_X7_isBin_11 : zDj m_X7_isBin 11 (.goto) 14 15 := ⟨4, eg_X7_isBin_0.2.2.2.2.2.2.2, rfl, by decide⟩
theorem d_X7_isBin_14 : zD m_X7_isBin 14 (.iconst 0) 1 15 := ⟨eg_X7_isBin_8.1, rfl⟩
theorem d_X7_isBin_15 : decode (zcc m_X7_isBin) 15 = .ok (.ireturn, 1) := eg_X7_isBin_8.2
set_option maxRecDepth 20000 in
theorem eg_X7_isSheet_0 : decode (zcc m_X7_isSheet) 0 = .ok (.iload_n 0, 1) ∧ decode (zcc m_X7_isSheet) 1 = .ok (.ifCond .lt (12), 3) ∧ decode (zcc m_X7_isSheet) 4 = .ok (.iload_n 0, 1) ∧ decode (zcc m_X7_isSheet) 5 = .ok (.iconst 4, 1) ∧ decode (zcc m_X7_isSheet) 6 = .ok (.if_icmp .ge (7), 3) ∧ decode (zcc m_X7_isSheet) 9 = .ok (.iconst 1, 1) ∧ decode (zcc m_X7_isSheet) 10 = .ok (.goto (4), 3) ∧ decode (zcc m_X7_isSheet) 13 = .ok (.iconst 0, 1) := by decide +kernel
set_option maxRecDepth 20000 in
theorem eg_X7_isSheet_8 : decode (zcc m_X7_isSheet) 14 = .ok (.ireturn, 1) := by decide +kernel
theorem d_X7_isSheet_0 : zD m_X7_isSheet 0 (.iload_n 0) 1 1 := ⟨eg_X7_isSheet_0.1, rfl⟩
theorem d_X7_isSheet_1 : zDj m_X7_isSheet 1 (.ifCond .lt) 4 13 := ⟨12, eg_X7_isSheet_0.2.1, rfl, by decide⟩
theorem d_X7_isSheet_4 : zD m_X7_isSheet 4 (.iload_n 0) 1 5 := ⟨eg_X7_isSheet_0.2.2.1, rfl⟩
theorem d_X7_isSheet_5 : zD m_X7_isSheet 5 (.iconst 4) 1 6 := ⟨eg_X7_isSheet_0.2.2.2.1, rfl⟩
theorem d_X7_isSheet_6 : zDj m_X7_isSheet 6 (.if_icmp .ge) 9 13 := ⟨7, eg_X7_isSheet_0.2.2.2.2.1, rfl, by decide⟩
theorem d_X7_isSheet_9 : zD m_X7_isSheet 9 (.iconst 1) 1 10 := ⟨eg_X7_isSheet_0.2.2.2.2.2.1, rfl⟩
theorem d_X7_isSheet_10 : zDj m_X7_isSheet 10 (.goto) 13 14 := ⟨4, eg_X7_isSheet_0.2.2.2.2.2.2.1, rfl, by decide⟩
theorem d_X7_isSheet_13 : zD m_X7_isSheet 13 (.iconst 0) 1 14 := ⟨eg_X7_isSheet_0.2.2.2.2.2.2.2, rfl⟩
theorem d_X7_isSheet_14 : decode (zcc m_X7_isSheet) 14 = .ok (.ireturn, 1) := eg_X7_isSheet_8
set_option maxRecDepth 20000 in
theorem eg_X7_isLane_0 : decode (zcc m_X7_isLane) 0 = .ok (.iload_n 0, 1) ∧ decode (zcc m_X7_isLane) 1 = .ok (.ifCond .lt (12), 3) ∧ decode (zcc m_X7_isLane) 4 = .ok (.iload_n 0, 1) ∧ decode (zcc m_X7_isLane) 5 = .ok (.iconst 3, 1) ∧ decode (zcc m_X7_isLane) 6 = .ok (.if_icmp .ge (7), 3) ∧ decode (zcc m_X7_isLane) 9 = .ok (.iconst 1, 1) ∧ decode (zcc m_X7_isLane) 10 = .ok (.goto (4), 3) ∧ decode (zcc m_X7_isLane) 13 = .ok (.iconst 0, 1) := by decide +kernel
set_option maxRecDepth 20000 in
theorem eg_X7_isLane_8 : decode (zcc m_X7_isLane) 14 = .ok (.ireturn, 1) := by decide +kernel
theorem d_X7_isLane_0 : zD m_X7_isLane 0 (.iload_n 0) 1 1 := ⟨eg_X7_isLane_0.1, rfl⟩
theorem d_X7_isLane_1 : zDj m_X7_isLane 1 (.ifCond .lt) 4 13 := ⟨12, eg_X7_isLane_0.2.1, rfl, by decide⟩
theorem d_X7_isLane_4 : zD m_X7_isLane 4 (.iload_n 0) 1 5 := ⟨eg_X7_isLane_0.2.2.1, rfl⟩
theorem d_X7_isLane_5 : zD m_X7_isLane 5 (.iconst 3) 1 6 := ⟨eg_X7_isLane_0.2.2.2.1, rfl⟩
theorem d_X7_isLane_6 : zDj m_X7_isLane 6 (.if_icmp .ge) 9 13 := ⟨7, eg_X7_isLane_0.2.2.2.2.1, rfl, by decide⟩
theorem d_X7_isLane_9 : zD m_X7_isLane 9 (.iconst 1) 1 10 := ⟨eg_X7_isLane_0.2.2.2.2.2.1, rfl⟩
theorem d_X7_isLane_10 : zDj m_X7_isLane 10 (.goto) 13 14 := ⟨4, eg_X7_isLane_0.2.2.2.2.2.2.1, rfl, by decide⟩
theorem d_X7_isLane_13 : zD m_X7_isLane 13 (.iconst 0) 1 14 := ⟨eg_X7_isLane_0.2.2.2.2.2.2.2, rfl⟩
theorem d_X7_isLane_14 : decode (zcc m_X7_isLane) 14 = .ok (.ireturn, 1) := eg_X7_isLane_8
set_option maxRecDepth 20000 in
theorem eg_X7_isWord_0 : decode (zcc m_X7_isWord) 0 = .ok (.iload_n 1, 1) ∧ decode (zcc m_X7_isWord) 1 = .ok (.ifCond .lt (15), 3) ∧ decode (zcc m_X7_isWord) 4 = .ok (.iload_n 1, 1) ∧ decode (zcc m_X7_isWord) 5 = .ok (.aload_n 0, 1) ∧ decode (zcc m_X7_isWord) 6 = .ok (.invokevirtual 248, 3) ∧ decode (zcc m_X7_isWord) 9 = .ok (.if_icmp .gt (7), 3) ∧ decode (zcc m_X7_isWord) 12 = .ok (.iconst 1, 1) ∧ decode (zcc m_X7_isWord) 13 = .ok (.goto (4), 3) := by decide +kernel
set_option maxRecDepth 20000 in
theorem eg_X7_isWord_8 : decode (zcc m_X7_isWord) 16 = .ok (.iconst 0, 1) ∧ decode (zcc m_X7_isWord) 17 = .ok (.ireturn, 1) := by decide +kernel
theorem d_X7_isWord_0 : zD m_X7_isWord 0 (.iload_n 1) 1 1 := ⟨eg_X7_isWord_0.1, rfl⟩
theorem d_X7_isWord_1 : zDj m_X7_isWord 1 (.ifCond .lt) 4 16 := ⟨15, eg_X7_isWord_0.2.1, rfl, by decide⟩
theorem d_X7_isWord_4 : zD m_X7_isWord 4 (.iload_n 1) 1 5 := ⟨eg_X7_isWord_0.2.2.1, rfl⟩
theorem d_X7_isWord_5 : zD m_X7_isWord 5 (.aload_n 0) 1 6 := ⟨eg_X7_isWord_0.2.2.2.1, rfl⟩
theorem d_X7_isWord_6 : zD m_X7_isWord 6 (.invokevirtual 248) 3 9 := ⟨eg_X7_isWord_0.2.2.2.2.1, rfl⟩
theorem d_X7_isWord_9 : zDj m_X7_isWord 9 (.if_icmp .gt) 12 16 := ⟨7, eg_X7_isWord_0.2.2.2.2.2.1, rfl, by decide⟩
theorem d_X7_isWord_12 : zD m_X7_isWord 12 (.iconst 1) 1 13 := ⟨eg_X7_isWord_0.2.2.2.2.2.2.1, rfl⟩
theorem d_X7_isWord_13 : zDj m_X7_isWord 13 (.goto) 16 17 := ⟨4, eg_X7_isWord_0.2.2.2.2.2.2.2, rfl, by decide⟩
theorem d_X7_isWord_16 : zD m_X7_isWord 16 (.iconst 0) 1 17 := ⟨eg_X7_isWord_8.1, rfl⟩
theorem d_X7_isWord_17 : decode (zcc m_X7_isWord) 17 = .ok (.ireturn, 1) := eg_X7_isWord_8.2
set_option maxRecDepth 20000 in
theorem eg_X7_mostWord_0 : decode (zcc m_X7_mostWord) 0 = .ok (.aload_n 0, 1) ∧ decode (zcc m_X7_mostWord) 1 = .ok (.getfield 19, 3) ∧ decode (zcc m_X7_mostWord) 4 = .ok (.getfield 89, 3) ∧ decode (zcc m_X7_mostWord) 7 = .ok (.bipush 6, 2) ∧ decode (zcc m_X7_mostWord) 9 = .ok (.iaload, 1) ∧ decode (zcc m_X7_mostWord) 10 = .ok (.iconst 3, 1) ∧ decode (zcc m_X7_mostWord) 11 = .ok (.if_icmp .ne (8), 3) ∧ decode (zcc m_X7_mostWord) 14 = .ok (.bipush 7, 2) := by decide +kernel
set_option maxRecDepth 20000 in
theorem eg_X7_mostWord_8 : decode (zcc m_X7_mostWord) 16 = .ok (.goto (5), 3) ∧ decode (zcc m_X7_mostWord) 19 = .ok (.bipush 15, 2) ∧ decode (zcc m_X7_mostWord) 21 = .ok (.ireturn, 1) := by decide +kernel
theorem d_X7_mostWord_0 : zD m_X7_mostWord 0 (.aload_n 0) 1 1 := ⟨eg_X7_mostWord_0.1, rfl⟩
theorem d_X7_mostWord_1 : zD m_X7_mostWord 1 (.getfield 19) 3 4 := ⟨eg_X7_mostWord_0.2.1, rfl⟩
theorem d_X7_mostWord_4 : zD m_X7_mostWord 4 (.getfield 89) 3 7 := ⟨eg_X7_mostWord_0.2.2.1, rfl⟩
theorem d_X7_mostWord_7 : zD m_X7_mostWord 7 (.bipush 6) 2 9 := ⟨eg_X7_mostWord_0.2.2.2.1, rfl⟩
theorem d_X7_mostWord_9 : zD m_X7_mostWord 9 (.iaload) 1 10 := ⟨eg_X7_mostWord_0.2.2.2.2.1, rfl⟩
theorem d_X7_mostWord_10 : zD m_X7_mostWord 10 (.iconst 3) 1 11 := ⟨eg_X7_mostWord_0.2.2.2.2.2.1, rfl⟩
theorem d_X7_mostWord_11 : zDj m_X7_mostWord 11 (.if_icmp .ne) 14 19 := ⟨8, eg_X7_mostWord_0.2.2.2.2.2.2.1, rfl, by decide⟩
theorem d_X7_mostWord_14 : zD m_X7_mostWord 14 (.bipush 7) 2 16 := ⟨eg_X7_mostWord_0.2.2.2.2.2.2.2, rfl⟩
theorem d_X7_mostWord_16 : zDj m_X7_mostWord 16 (.goto) 19 21 := ⟨5, eg_X7_mostWord_8.1, rfl, by decide⟩
theorem d_X7_mostWord_19 : zD m_X7_mostWord 19 (.bipush 15) 2 21 := ⟨eg_X7_mostWord_8.2.1, rfl⟩
theorem d_X7_mostWord_21 : decode (zcc m_X7_mostWord) 21 = .ok (.ireturn, 1) := eg_X7_mostWord_8.2.2
set_option maxRecDepth 20000 in
theorem eg_X7_sumOf_0 : decode (zcc m_X7_sumOf) 0 = .ok (.iconst 0, 1) ∧ decode (zcc m_X7_sumOf) 1 = .ok (.istore_n 1, 1) ∧ decode (zcc m_X7_sumOf) 2 = .ok (.aload_n 0, 1) ∧ decode (zcc m_X7_sumOf) 3 = .ok (.astore_n 2, 1) ∧ decode (zcc m_X7_sumOf) 4 = .ok (.aload_n 2, 1) ∧ decode (zcc m_X7_sumOf) 5 = .ok (.arraylength, 1) ∧ decode (zcc m_X7_sumOf) 6 = .ok (.istore_n 3, 1) ∧ decode (zcc m_X7_sumOf) 7 = .ok (.iconst 0, 1) := by decide +kernel
set_option maxRecDepth 20000 in
theorem eg_X7_sumOf_8 : decode (zcc m_X7_sumOf) 8 = .ok (.istore 4, 2) ∧ decode (zcc m_X7_sumOf) 10 = .ok (.iload 4, 2) ∧ decode (zcc m_X7_sumOf) 12 = .ok (.iload_n 3, 1) ∧ decode (zcc m_X7_sumOf) 13 = .ok (.if_icmp .ge (20), 3) ∧ decode (zcc m_X7_sumOf) 16 = .ok (.aload_n 2, 1) ∧ decode (zcc m_X7_sumOf) 17 = .ok (.iload 4, 2) ∧ decode (zcc m_X7_sumOf) 19 = .ok (.iaload, 1) ∧ decode (zcc m_X7_sumOf) 20 = .ok (.istore 5, 2) := by decide +kernel
set_option maxRecDepth 20000 in
theorem eg_X7_sumOf_16 : decode (zcc m_X7_sumOf) 22 = .ok (.iload_n 1, 1) ∧ decode (zcc m_X7_sumOf) 23 = .ok (.iload 5, 2) ∧ decode (zcc m_X7_sumOf) 25 = .ok (.iadd, 1) ∧ decode (zcc m_X7_sumOf) 26 = .ok (.istore_n 1, 1) ∧ decode (zcc m_X7_sumOf) 27 = .ok (.iinc 4 1, 3) ∧ decode (zcc m_X7_sumOf) 30 = .ok (.goto (-20), 3) ∧ decode (zcc m_X7_sumOf) 33 = .ok (.iload_n 1, 1) ∧ decode (zcc m_X7_sumOf) 34 = .ok (.ireturn, 1) := by decide +kernel
theorem d_X7_sumOf_0 : zD m_X7_sumOf 0 (.iconst 0) 1 1 := ⟨eg_X7_sumOf_0.1, rfl⟩
theorem d_X7_sumOf_1 : zD m_X7_sumOf 1 (.istore_n 1) 1 2 := ⟨eg_X7_sumOf_0.2.1, rfl⟩
theorem d_X7_sumOf_2 : zD m_X7_sumOf 2 (.aload_n 0) 1 3 := ⟨eg_X7_sumOf_0.2.2.1, rfl⟩
theorem d_X7_sumOf_3 : zD m_X7_sumOf 3 (.astore_n 2) 1 4 := ⟨eg_X7_sumOf_0.2.2.2.1, rfl⟩
theorem d_X7_sumOf_4 : zD m_X7_sumOf 4 (.aload_n 2) 1 5 := ⟨eg_X7_sumOf_0.2.2.2.2.1, rfl⟩
theorem d_X7_sumOf_5 : zD m_X7_sumOf 5 (.arraylength) 1 6 := ⟨eg_X7_sumOf_0.2.2.2.2.2.1, rfl⟩
theorem d_X7_sumOf_6 : zD m_X7_sumOf 6 (.istore_n 3) 1 7 := ⟨eg_X7_sumOf_0.2.2.2.2.2.2.1, rfl⟩
theorem d_X7_sumOf_7 : zD m_X7_sumOf 7 (.iconst 0) 1 8 := ⟨eg_X7_sumOf_0.2.2.2.2.2.2.2, rfl⟩
theorem d_X7_sumOf_8 : zD m_X7_sumOf 8 (.istore 4) 2 10 := ⟨eg_X7_sumOf_8.1, rfl⟩
theorem d_X7_sumOf_10 : zD m_X7_sumOf 10 (.iload 4) 2 12 := ⟨eg_X7_sumOf_8.2.1, rfl⟩
theorem d_X7_sumOf_12 : zD m_X7_sumOf 12 (.iload_n 3) 1 13 := ⟨eg_X7_sumOf_8.2.2.1, rfl⟩
theorem d_X7_sumOf_13 : zDj m_X7_sumOf 13 (.if_icmp .ge) 16 33 := ⟨20, eg_X7_sumOf_8.2.2.2.1, rfl, by decide⟩
theorem d_X7_sumOf_16 : zD m_X7_sumOf 16 (.aload_n 2) 1 17 := ⟨eg_X7_sumOf_8.2.2.2.2.1, rfl⟩
theorem d_X7_sumOf_17 : zD m_X7_sumOf 17 (.iload 4) 2 19 := ⟨eg_X7_sumOf_8.2.2.2.2.2.1, rfl⟩
theorem d_X7_sumOf_19 : zD m_X7_sumOf 19 (.iaload) 1 20 := ⟨eg_X7_sumOf_8.2.2.2.2.2.2.1, rfl⟩
theorem d_X7_sumOf_20 : zD m_X7_sumOf 20 (.istore 5) 2 22 := ⟨eg_X7_sumOf_8.2.2.2.2.2.2.2, rfl⟩
theorem d_X7_sumOf_22 : zD m_X7_sumOf 22 (.iload_n 1) 1 23 := ⟨eg_X7_sumOf_16.1, rfl⟩
theorem d_X7_sumOf_23 : zD m_X7_sumOf 23 (.iload 5) 2 25 := ⟨eg_X7_sumOf_16.2.1, rfl⟩
theorem d_X7_sumOf_25 : zD m_X7_sumOf 25 (.iadd) 1 26 := ⟨eg_X7_sumOf_16.2.2.1, rfl⟩
theorem d_X7_sumOf_26 : zD m_X7_sumOf 26 (.istore_n 1) 1 27 := ⟨eg_X7_sumOf_16.2.2.2.1, rfl⟩
theorem d_X7_sumOf_27 : zD m_X7_sumOf 27 (.iinc 4 1) 3 30 := ⟨eg_X7_sumOf_16.2.2.2.2.1, rfl⟩
theorem d_X7_sumOf_30 : zDj m_X7_sumOf 30 (.goto) 33 10 := ⟨-20, eg_X7_sumOf_16.2.2.2.2.2.1, rfl, by decide⟩
theorem d_X7_sumOf_33 : zD m_X7_sumOf 33 (.iload_n 1) 1 34 := ⟨eg_X7_sumOf_16.2.2.2.2.2.2.1, rfl⟩
theorem d_X7_sumOf_34 : decode (zcc m_X7_sumOf) 34 = .ok (.ireturn, 1) := eg_X7_sumOf_16.2.2.2.2.2.2.2
set_option maxRecDepth 20000 in
theorem eg_X7_howManyAbove0_0 : decode (zcc m_X7_howManyAbove0) 0 = .ok (.iconst 0, 1) ∧ decode (zcc m_X7_howManyAbove0) 1 = .ok (.istore_n 1, 1) ∧ decode (zcc m_X7_howManyAbove0) 2 = .ok (.aload_n 0, 1) ∧ decode (zcc m_X7_howManyAbove0) 3 = .ok (.astore_n 2, 1) ∧ decode (zcc m_X7_howManyAbove0) 4 = .ok (.aload_n 2, 1) ∧ decode (zcc m_X7_howManyAbove0) 5 = .ok (.arraylength, 1) ∧ decode (zcc m_X7_howManyAbove0) 6 = .ok (.istore_n 3, 1) ∧ decode (zcc m_X7_howManyAbove0) 7 = .ok (.iconst 0, 1) := by decide +kernel
set_option maxRecDepth 20000 in
theorem eg_X7_howManyAbove0_8 : decode (zcc m_X7_howManyAbove0) 8 = .ok (.istore 4, 2) ∧ decode (zcc m_X7_howManyAbove0) 10 = .ok (.iload 4, 2) ∧ decode (zcc m_X7_howManyAbove0) 12 = .ok (.iload_n 3, 1) ∧ decode (zcc m_X7_howManyAbove0) 13 = .ok (.if_icmp .ge (28), 3) ∧ decode (zcc m_X7_howManyAbove0) 16 = .ok (.aload_n 2, 1) ∧ decode (zcc m_X7_howManyAbove0) 17 = .ok (.iload 4, 2) ∧ decode (zcc m_X7_howManyAbove0) 19 = .ok (.iaload, 1) ∧ decode (zcc m_X7_howManyAbove0) 20 = .ok (.istore 5, 2) := by decide +kernel
set_option maxRecDepth 20000 in
theorem eg_X7_howManyAbove0_16 : decode (zcc m_X7_howManyAbove0) 22 = .ok (.iload_n 1, 1) ∧ decode (zcc m_X7_howManyAbove0) 23 = .ok (.iload 5, 2) ∧ decode (zcc m_X7_howManyAbove0) 25 = .ok (.ifCond .le (7), 3) ∧ decode (zcc m_X7_howManyAbove0) 28 = .ok (.iconst 1, 1) ∧ decode (zcc m_X7_howManyAbove0) 29 = .ok (.goto (4), 3) ∧ decode (zcc m_X7_howManyAbove0) 32 = .ok (.iconst 0, 1) ∧ decode (zcc m_X7_howManyAbove0) 33 = .ok (.iadd, 1) ∧ decode (zcc m_X7_howManyAbove0) 34 = .ok (.istore_n 1, 1) := by decide +kernel
set_option maxRecDepth 20000 in
theorem eg_X7_howManyAbove0_24 : decode (zcc m_X7_howManyAbove0) 35 = .ok (.iinc 4 1, 3) ∧ decode (zcc m_X7_howManyAbove0) 38 = .ok (.goto (-28), 3) ∧ decode (zcc m_X7_howManyAbove0) 41 = .ok (.iload_n 1, 1) ∧ decode (zcc m_X7_howManyAbove0) 42 = .ok (.ireturn, 1) := by decide +kernel
theorem d_X7_howManyAbove0_0 : zD m_X7_howManyAbove0 0 (.iconst 0) 1 1 := ⟨eg_X7_howManyAbove0_0.1, rfl⟩
theorem d_X7_howManyAbove0_1 : zD m_X7_howManyAbove0 1 (.istore_n 1) 1 2 := ⟨eg_X7_howManyAbove0_0.2.1, rfl⟩
theorem d_X7_howManyAbove0_2 : zD m_X7_howManyAbove0 2 (.aload_n 0) 1 3 := ⟨eg_X7_howManyAbove0_0.2.2.1, rfl⟩
theorem d_X7_howManyAbove0_3 : zD m_X7_howManyAbove0 3 (.astore_n 2) 1 4 := ⟨eg_X7_howManyAbove0_0.2.2.2.1, rfl⟩
theorem d_X7_howManyAbove0_4 : zD m_X7_howManyAbove0 4 (.aload_n 2) 1 5 := ⟨eg_X7_howManyAbove0_0.2.2.2.2.1, rfl⟩
theorem d_X7_howManyAbove0_5 : zD m_X7_howManyAbove0 5 (.arraylength) 1 6 := ⟨eg_X7_howManyAbove0_0.2.2.2.2.2.1, rfl⟩
theorem d_X7_howManyAbove0_6 : zD m_X7_howManyAbove0 6 (.istore_n 3) 1 7 := ⟨eg_X7_howManyAbove0_0.2.2.2.2.2.2.1, rfl⟩
theorem d_X7_howManyAbove0_7 : zD m_X7_howManyAbove0 7 (.iconst 0) 1 8 := ⟨eg_X7_howManyAbove0_0.2.2.2.2.2.2.2, rfl⟩
theorem d_X7_howManyAbove0_8 : zD m_X7_howManyAbove0 8 (.istore 4) 2 10 := ⟨eg_X7_howManyAbove0_8.1, rfl⟩
theorem d_X7_howManyAbove0_10 : zD m_X7_howManyAbove0 10 (.iload 4) 2 12 := ⟨eg_X7_howManyAbove0_8.2.1, rfl⟩
theorem d_X7_howManyAbove0_12 : zD m_X7_howManyAbove0 12 (.iload_n 3) 1 13 := ⟨eg_X7_howManyAbove0_8.2.2.1, rfl⟩
theorem d_X7_howManyAbove0_13 : zDj m_X7_howManyAbove0 13 (.if_icmp .ge) 16 41 := ⟨28, eg_X7_howManyAbove0_8.2.2.2.1, rfl, by decide⟩
theorem d_X7_howManyAbove0_16 : zD m_X7_howManyAbove0 16 (.aload_n 2) 1 17 := ⟨eg_X7_howManyAbove0_8.2.2.2.2.1, rfl⟩
theorem d_X7_howManyAbove0_17 : zD m_X7_howManyAbove0 17 (.iload 4) 2 19 := ⟨eg_X7_howManyAbove0_8.2.2.2.2.2.1, rfl⟩
theorem d_X7_howManyAbove0_19 : zD m_X7_howManyAbove0 19 (.iaload) 1 20 := ⟨eg_X7_howManyAbove0_8.2.2.2.2.2.2.1, rfl⟩
theorem d_X7_howManyAbove0_20 : zD m_X7_howManyAbove0 20 (.istore 5) 2 22 := ⟨eg_X7_howManyAbove0_8.2.2.2.2.2.2.2, rfl⟩
theorem d_X7_howManyAbove0_22 : zD m_X7_howManyAbove0 22 (.iload_n 1) 1 23 := ⟨eg_X7_howManyAbove0_16.1, rfl⟩
theorem d_X7_howManyAbove0_23 : zD m_X7_howManyAbove0 23 (.iload 5) 2 25 := ⟨eg_X7_howManyAbove0_16.2.1, rfl⟩
theorem d_X7_howManyAbove0_25 : zDj m_X7_howManyAbove0 25 (.ifCond .le) 28 32 := ⟨7, eg_X7_howManyAbove0_16.2.2.1, rfl, by decide⟩
theorem d_X7_howManyAbove0_28 : zD m_X7_howManyAbove0 28 (.iconst 1) 1 29 := ⟨eg_X7_howManyAbove0_16.2.2.2.1, rfl⟩
theorem d_X7_howManyAbove0_29 : zDj m_X7_howManyAbove0 29 (.goto) 32 33 := ⟨4, eg_X7_howManyAbove0_16.2.2.2.2.1, rfl, by decide⟩
theorem d_X7_howManyAbove0_32 : zD m_X7_howManyAbove0 32 (.iconst 0) 1 33 := ⟨eg_X7_howManyAbove0_16.2.2.2.2.2.1, rfl⟩
theorem d_X7_howManyAbove0_33 : zD m_X7_howManyAbove0 33 (.iadd) 1 34 := ⟨eg_X7_howManyAbove0_16.2.2.2.2.2.2.1, rfl⟩
theorem d_X7_howManyAbove0_34 : zD m_X7_howManyAbove0 34 (.istore_n 1) 1 35 := ⟨eg_X7_howManyAbove0_16.2.2.2.2.2.2.2, rfl⟩
theorem d_X7_howManyAbove0_35 : zD m_X7_howManyAbove0 35 (.iinc 4 1) 3 38 := ⟨eg_X7_howManyAbove0_24.1, rfl⟩
theorem d_X7_howManyAbove0_38 : zDj m_X7_howManyAbove0 38 (.goto) 41 10 := ⟨-28, eg_X7_howManyAbove0_24.2.1, rfl, by decide⟩
theorem d_X7_howManyAbove0_41 : zD m_X7_howManyAbove0 41 (.iload_n 1) 1 42 := ⟨eg_X7_howManyAbove0_24.2.2.1, rfl⟩
theorem d_X7_howManyAbove0_42 : decode (zcc m_X7_howManyAbove0) 42 = .ok (.ireturn, 1) := eg_X7_howManyAbove0_24.2.2.2
set_option maxRecDepth 20000 in
theorem eg_X7_fullWells_0 : decode (zcc m_X7_fullWells) 0 = .ok (.iconst 0, 1) ∧ decode (zcc m_X7_fullWells) 1 = .ok (.istore_n 1, 1) ∧ decode (zcc m_X7_fullWells) 2 = .ok (.iconst 0, 1) ∧ decode (zcc m_X7_fullWells) 3 = .ok (.istore_n 2, 1) ∧ decode (zcc m_X7_fullWells) 4 = .ok (.iload_n 2, 1) ∧ decode (zcc m_X7_fullWells) 5 = .ok (.bipush 48, 2) ∧ decode (zcc m_X7_fullWells) 7 = .ok (.if_icmp .ge (38), 3) ∧ decode (zcc m_X7_fullWells) 10 = .ok (.iload_n 1, 1) := by decide +kernel
set_option maxRecDepth 20000 in
theorem eg_X7_fullWells_8 : decode (zcc m_X7_fullWells) 11 = .ok (.aload_n 0, 1) ∧ decode (zcc m_X7_fullWells) 12 = .ok (.getfield 35, 3) ∧ decode (zcc m_X7_fullWells) 15 = .ok (.getfield 97, 3) ∧ decode (zcc m_X7_fullWells) 18 = .ok (.iload_n 2, 1) ∧ decode (zcc m_X7_fullWells) 19 = .ok (.iaload, 1) ∧ decode (zcc m_X7_fullWells) 20 = .ok (.aload_n 0, 1) ∧ decode (zcc m_X7_fullWells) 21 = .ok (.getfield 19, 3) ∧ decode (zcc m_X7_fullWells) 24 = .ok (.getfield 89, 3) := by decide +kernel
set_option maxRecDepth 20000 in
theorem eg_X7_fullWells_16 : decode (zcc m_X7_fullWells) 27 = .ok (.iconst 0, 1) ∧ decode (zcc m_X7_fullWells) 28 = .ok (.iaload, 1) ∧ decode (zcc m_X7_fullWells) 29 = .ok (.if_icmp .lt (7), 3) ∧ decode (zcc m_X7_fullWells) 32 = .ok (.iconst 1, 1) ∧ decode (zcc m_X7_fullWells) 33 = .ok (.goto (4), 3) ∧ decode (zcc m_X7_fullWells) 36 = .ok (.iconst 0, 1) ∧ decode (zcc m_X7_fullWells) 37 = .ok (.iadd, 1) ∧ decode (zcc m_X7_fullWells) 38 = .ok (.istore_n 1, 1) := by decide +kernel
set_option maxRecDepth 20000 in
theorem eg_X7_fullWells_24 : decode (zcc m_X7_fullWells) 39 = .ok (.iinc 2 1, 3) ∧ decode (zcc m_X7_fullWells) 42 = .ok (.goto (-38), 3) ∧ decode (zcc m_X7_fullWells) 45 = .ok (.iload_n 1, 1) ∧ decode (zcc m_X7_fullWells) 46 = .ok (.ireturn, 1) := by decide +kernel
theorem d_X7_fullWells_0 : zD m_X7_fullWells 0 (.iconst 0) 1 1 := ⟨eg_X7_fullWells_0.1, rfl⟩
theorem d_X7_fullWells_1 : zD m_X7_fullWells 1 (.istore_n 1) 1 2 := ⟨eg_X7_fullWells_0.2.1, rfl⟩
theorem d_X7_fullWells_2 : zD m_X7_fullWells 2 (.iconst 0) 1 3 := ⟨eg_X7_fullWells_0.2.2.1, rfl⟩
theorem d_X7_fullWells_3 : zD m_X7_fullWells 3 (.istore_n 2) 1 4 := ⟨eg_X7_fullWells_0.2.2.2.1, rfl⟩
theorem d_X7_fullWells_4 : zD m_X7_fullWells 4 (.iload_n 2) 1 5 := ⟨eg_X7_fullWells_0.2.2.2.2.1, rfl⟩
theorem d_X7_fullWells_5 : zD m_X7_fullWells 5 (.bipush 48) 2 7 := ⟨eg_X7_fullWells_0.2.2.2.2.2.1, rfl⟩
theorem d_X7_fullWells_7 : zDj m_X7_fullWells 7 (.if_icmp .ge) 10 45 := ⟨38, eg_X7_fullWells_0.2.2.2.2.2.2.1, rfl, by decide⟩
theorem d_X7_fullWells_10 : zD m_X7_fullWells 10 (.iload_n 1) 1 11 := ⟨eg_X7_fullWells_0.2.2.2.2.2.2.2, rfl⟩
theorem d_X7_fullWells_11 : zD m_X7_fullWells 11 (.aload_n 0) 1 12 := ⟨eg_X7_fullWells_8.1, rfl⟩
theorem d_X7_fullWells_12 : zD m_X7_fullWells 12 (.getfield 35) 3 15 := ⟨eg_X7_fullWells_8.2.1, rfl⟩
theorem d_X7_fullWells_15 : zD m_X7_fullWells 15 (.getfield 97) 3 18 := ⟨eg_X7_fullWells_8.2.2.1, rfl⟩
theorem d_X7_fullWells_18 : zD m_X7_fullWells 18 (.iload_n 2) 1 19 := ⟨eg_X7_fullWells_8.2.2.2.1, rfl⟩
theorem d_X7_fullWells_19 : zD m_X7_fullWells 19 (.iaload) 1 20 := ⟨eg_X7_fullWells_8.2.2.2.2.1, rfl⟩
theorem d_X7_fullWells_20 : zD m_X7_fullWells 20 (.aload_n 0) 1 21 := ⟨eg_X7_fullWells_8.2.2.2.2.2.1, rfl⟩
theorem d_X7_fullWells_21 : zD m_X7_fullWells 21 (.getfield 19) 3 24 := ⟨eg_X7_fullWells_8.2.2.2.2.2.2.1, rfl⟩
theorem d_X7_fullWells_24 : zD m_X7_fullWells 24 (.getfield 89) 3 27 := ⟨eg_X7_fullWells_8.2.2.2.2.2.2.2, rfl⟩
theorem d_X7_fullWells_27 : zD m_X7_fullWells 27 (.iconst 0) 1 28 := ⟨eg_X7_fullWells_16.1, rfl⟩
theorem d_X7_fullWells_28 : zD m_X7_fullWells 28 (.iaload) 1 29 := ⟨eg_X7_fullWells_16.2.1, rfl⟩
theorem d_X7_fullWells_29 : zDj m_X7_fullWells 29 (.if_icmp .lt) 32 36 := ⟨7, eg_X7_fullWells_16.2.2.1, rfl, by decide⟩
theorem d_X7_fullWells_32 : zD m_X7_fullWells 32 (.iconst 1) 1 33 := ⟨eg_X7_fullWells_16.2.2.2.1, rfl⟩
theorem d_X7_fullWells_33 : zDj m_X7_fullWells 33 (.goto) 36 37 := ⟨4, eg_X7_fullWells_16.2.2.2.2.1, rfl, by decide⟩
theorem d_X7_fullWells_36 : zD m_X7_fullWells 36 (.iconst 0) 1 37 := ⟨eg_X7_fullWells_16.2.2.2.2.2.1, rfl⟩
theorem d_X7_fullWells_37 : zD m_X7_fullWells 37 (.iadd) 1 38 := ⟨eg_X7_fullWells_16.2.2.2.2.2.2.1, rfl⟩
theorem d_X7_fullWells_38 : zD m_X7_fullWells 38 (.istore_n 1) 1 39 := ⟨eg_X7_fullWells_16.2.2.2.2.2.2.2, rfl⟩
theorem d_X7_fullWells_39 : zD m_X7_fullWells 39 (.iinc 2 1) 3 42 := ⟨eg_X7_fullWells_24.1, rfl⟩
theorem d_X7_fullWells_42 : zDj m_X7_fullWells 42 (.goto) 45 4 := ⟨-38, eg_X7_fullWells_24.2.1, rfl, by decide⟩
theorem d_X7_fullWells_45 : zD m_X7_fullWells 45 (.iload_n 1) 1 46 := ⟨eg_X7_fullWells_24.2.2.1, rfl⟩
theorem d_X7_fullWells_46 : decode (zcc m_X7_fullWells) 46 = .ok (.ireturn, 1) := eg_X7_fullWells_24.2.2.2
set_option maxRecDepth 20000 in
theorem eg_X7_comesInTick_0 : decode (zcc m_X7_comesInTick) 0 = .ok (.aload_n 0, 1) ∧ decode (zcc m_X7_comesInTick) 1 = .ok (.getfield 35, 3) ∧ decode (zcc m_X7_comesInTick) 4 = .ok (.getfield 100, 3) ∧ decode (zcc m_X7_comesInTick) 7 = .ok (.iload_n 1, 1) ∧ decode (zcc m_X7_comesInTick) 8 = .ok (.iaload, 1) ∧ decode (zcc m_X7_comesInTick) 9 = .ok (.aload_n 0, 1) ∧ decode (zcc m_X7_comesInTick) 10 = .ok (.getfield 19, 3) ∧ decode (zcc m_X7_comesInTick) 13 = .ok (.getfield 103, 3) := by decide +kernel
set_option maxRecDepth 20000 in
theorem eg_X7_comesInTick_8 : decode (zcc m_X7_comesInTick) 16 = .ok (.iload_n 1, 1) ∧ decode (zcc m_X7_comesInTick) 17 = .ok (.iaload, 1) ∧ decode (zcc m_X7_comesInTick) 18 = .ok (.iadd, 1) ∧ decode (zcc m_X7_comesInTick) 19 = .ok (.aload_n 0, 1) ∧ decode (zcc m_X7_comesInTick) 20 = .ok (.getfield 19, 3) ∧ decode (zcc m_X7_comesInTick) 23 = .ok (.getfield 89, 3) ∧ decode (zcc m_X7_comesInTick) 26 = .ok (.iconst 1, 1) ∧ decode (zcc m_X7_comesInTick) 27 = .ok (.iaload, 1) := by decide +kernel
set_option maxRecDepth 20000 in
theorem eg_X7_comesInTick_16 : decode (zcc m_X7_comesInTick) 28 = .ok (.iadd, 1) ∧ decode (zcc m_X7_comesInTick) 29 = .ok (.ireturn, 1) := by decide +kernel
theorem d_X7_comesInTick_0 : zD m_X7_comesInTick 0 (.aload_n 0) 1 1 := ⟨eg_X7_comesInTick_0.1, rfl⟩
theorem d_X7_comesInTick_1 : zD m_X7_comesInTick 1 (.getfield 35) 3 4 := ⟨eg_X7_comesInTick_0.2.1, rfl⟩
theorem d_X7_comesInTick_4 : zD m_X7_comesInTick 4 (.getfield 100) 3 7 := ⟨eg_X7_comesInTick_0.2.2.1, rfl⟩
theorem d_X7_comesInTick_7 : zD m_X7_comesInTick 7 (.iload_n 1) 1 8 := ⟨eg_X7_comesInTick_0.2.2.2.1, rfl⟩
theorem d_X7_comesInTick_8 : zD m_X7_comesInTick 8 (.iaload) 1 9 := ⟨eg_X7_comesInTick_0.2.2.2.2.1, rfl⟩
theorem d_X7_comesInTick_9 : zD m_X7_comesInTick 9 (.aload_n 0) 1 10 := ⟨eg_X7_comesInTick_0.2.2.2.2.2.1, rfl⟩
theorem d_X7_comesInTick_10 : zD m_X7_comesInTick 10 (.getfield 19) 3 13 := ⟨eg_X7_comesInTick_0.2.2.2.2.2.2.1, rfl⟩
theorem d_X7_comesInTick_13 : zD m_X7_comesInTick 13 (.getfield 103) 3 16 := ⟨eg_X7_comesInTick_0.2.2.2.2.2.2.2, rfl⟩
theorem d_X7_comesInTick_16 : zD m_X7_comesInTick 16 (.iload_n 1) 1 17 := ⟨eg_X7_comesInTick_8.1, rfl⟩
theorem d_X7_comesInTick_17 : zD m_X7_comesInTick 17 (.iaload) 1 18 := ⟨eg_X7_comesInTick_8.2.1, rfl⟩
theorem d_X7_comesInTick_18 : zD m_X7_comesInTick 18 (.iadd) 1 19 := ⟨eg_X7_comesInTick_8.2.2.1, rfl⟩
theorem d_X7_comesInTick_19 : zD m_X7_comesInTick 19 (.aload_n 0) 1 20 := ⟨eg_X7_comesInTick_8.2.2.2.1, rfl⟩
theorem d_X7_comesInTick_20 : zD m_X7_comesInTick 20 (.getfield 19) 3 23 := ⟨eg_X7_comesInTick_8.2.2.2.2.1, rfl⟩
theorem d_X7_comesInTick_23 : zD m_X7_comesInTick 23 (.getfield 89) 3 26 := ⟨eg_X7_comesInTick_8.2.2.2.2.2.1, rfl⟩
theorem d_X7_comesInTick_26 : zD m_X7_comesInTick 26 (.iconst 1) 1 27 := ⟨eg_X7_comesInTick_8.2.2.2.2.2.2.1, rfl⟩
theorem d_X7_comesInTick_27 : zD m_X7_comesInTick 27 (.iaload) 1 28 := ⟨eg_X7_comesInTick_8.2.2.2.2.2.2.2, rfl⟩
theorem d_X7_comesInTick_28 : zD m_X7_comesInTick 28 (.iadd) 1 29 := ⟨eg_X7_comesInTick_16.1, rfl⟩
theorem d_X7_comesInTick_29 : decode (zcc m_X7_comesInTick) 29 = .ok (.ireturn, 1) := eg_X7_comesInTick_16.2
set_option maxRecDepth 20000 in
theorem eg_X7_besideOf_0 : decode (zcc m_X7_besideOf) 0 = .ok (.iload_n 2, 1) ∧ decode (zcc m_X7_besideOf) 1 = .ok (.tableswitch 49 0 2 #[27, 32, 37], 27) ∧ decode (zcc m_X7_besideOf) 28 = .ok (.iload_n 0, 1) ∧ decode (zcc m_X7_besideOf) 29 = .ok (.bipush 8, 2) ∧ decode (zcc m_X7_besideOf) 31 = .ok (.isub, 1) ∧ decode (zcc m_X7_besideOf) 32 = .ok (.ireturn, 1) ∧ decode (zcc m_X7_besideOf) 33 = .ok (.iload_n 0, 1) ∧ decode (zcc m_X7_besideOf) 34 = .ok (.bipush 8, 2) := by decide +kernel
set_option maxRecDepth 20000 in
theorem eg_X7_besideOf_8 : decode (zcc m_X7_besideOf) 36 = .ok (.iadd, 1) ∧ decode (zcc m_X7_besideOf) 37 = .ok (.ireturn, 1) ∧ decode (zcc m_X7_besideOf) 38 = .ok (.iload_n 1, 1) ∧ decode (zcc m_X7_besideOf) 39 = .ok (.ifCond .le (9), 3) ∧ decode (zcc m_X7_besideOf) 42 = .ok (.iload_n 0, 1) ∧ decode (zcc m_X7_besideOf) 43 = .ok (.iconst 1, 1) ∧ decode (zcc m_X7_besideOf) 44 = .ok (.isub, 1) ∧ decode (zcc m_X7_besideOf) 45 = .ok (.goto (4), 3) := by decide +kernel
set_option maxRecDepth 20000 in
theorem eg_X7_besideOf_16 : decode (zcc m_X7_besideOf) 48 = .ok (.iconst (-1), 1) ∧ decode (zcc m_X7_besideOf) 49 = .ok (.ireturn, 1) ∧ decode (zcc m_X7_besideOf) 50 = .ok (.iload_n 1, 1) ∧ decode (zcc m_X7_besideOf) 51 = .ok (.bipush 7, 2) ∧ decode (zcc m_X7_besideOf) 53 = .ok (.if_icmp .ge (9), 3) ∧ decode (zcc m_X7_besideOf) 56 = .ok (.iload_n 0, 1) ∧ decode (zcc m_X7_besideOf) 57 = .ok (.iconst 1, 1) ∧ decode (zcc m_X7_besideOf) 58 = .ok (.iadd, 1) := by decide +kernel
set_option maxRecDepth 20000 in
theorem eg_X7_besideOf_24 : decode (zcc m_X7_besideOf) 59 = .ok (.goto (4), 3) ∧ decode (zcc m_X7_besideOf) 62 = .ok (.iconst (-1), 1) ∧ decode (zcc m_X7_besideOf) 63 = .ok (.ireturn, 1) := by decide +kernel
theorem d_X7_besideOf_0 : zD m_X7_besideOf 0 (.iload_n 2) 1 1 := ⟨eg_X7_besideOf_0.1, rfl⟩
theorem d_X7_besideOf_1 : decode (zcc m_X7_besideOf) 1 = .ok (.tableswitch 49 0 2 #[27, 32, 37], 27) := eg_X7_besideOf_0.2.1
theorem d_X7_besideOf_28 : zD m_X7_besideOf 28 (.iload_n 0) 1 29 := ⟨eg_X7_besideOf_0.2.2.1, rfl⟩
theorem d_X7_besideOf_29 : zD m_X7_besideOf 29 (.bipush 8) 2 31 := ⟨eg_X7_besideOf_0.2.2.2.1, rfl⟩
theorem d_X7_besideOf_31 : zD m_X7_besideOf 31 (.isub) 1 32 := ⟨eg_X7_besideOf_0.2.2.2.2.1, rfl⟩
theorem d_X7_besideOf_32 : decode (zcc m_X7_besideOf) 32 = .ok (.ireturn, 1) := eg_X7_besideOf_0.2.2.2.2.2.1
theorem d_X7_besideOf_33 : zD m_X7_besideOf 33 (.iload_n 0) 1 34 := ⟨eg_X7_besideOf_0.2.2.2.2.2.2.1, rfl⟩
theorem d_X7_besideOf_34 : zD m_X7_besideOf 34 (.bipush 8) 2 36 := ⟨eg_X7_besideOf_0.2.2.2.2.2.2.2, rfl⟩
theorem d_X7_besideOf_36 : zD m_X7_besideOf 36 (.iadd) 1 37 := ⟨eg_X7_besideOf_8.1, rfl⟩
theorem d_X7_besideOf_37 : decode (zcc m_X7_besideOf) 37 = .ok (.ireturn, 1) := eg_X7_besideOf_8.2.1
theorem d_X7_besideOf_38 : zD m_X7_besideOf 38 (.iload_n 1) 1 39 := ⟨eg_X7_besideOf_8.2.2.1, rfl⟩
theorem d_X7_besideOf_39 : zDj m_X7_besideOf 39 (.ifCond .le) 42 48 := ⟨9, eg_X7_besideOf_8.2.2.2.1, rfl, by decide⟩
theorem d_X7_besideOf_42 : zD m_X7_besideOf 42 (.iload_n 0) 1 43 := ⟨eg_X7_besideOf_8.2.2.2.2.1, rfl⟩
theorem d_X7_besideOf_43 : zD m_X7_besideOf 43 (.iconst 1) 1 44 := ⟨eg_X7_besideOf_8.2.2.2.2.2.1, rfl⟩
theorem d_X7_besideOf_44 : zD m_X7_besideOf 44 (.isub) 1 45 := ⟨eg_X7_besideOf_8.2.2.2.2.2.2.1, rfl⟩
theorem d_X7_besideOf_45 : zDj m_X7_besideOf 45 (.goto) 48 49 := ⟨4, eg_X7_besideOf_8.2.2.2.2.2.2.2, rfl, by decide⟩
theorem d_X7_besideOf_48 : zD m_X7_besideOf 48 (.iconst (-1)) 1 49 := ⟨eg_X7_besideOf_16.1, rfl⟩
theorem d_X7_besideOf_49 : decode (zcc m_X7_besideOf) 49 = .ok (.ireturn, 1) := eg_X7_besideOf_16.2.1
theorem d_X7_besideOf_50 : zD m_X7_besideOf 50 (.iload_n 1) 1 51 := ⟨eg_X7_besideOf_16.2.2.1, rfl⟩
theorem d_X7_besideOf_51 : zD m_X7_besideOf 51 (.bipush 7) 2 53 := ⟨eg_X7_besideOf_16.2.2.2.1, rfl⟩
theorem d_X7_besideOf_53 : zDj m_X7_besideOf 53 (.if_icmp .ge) 56 62 := ⟨9, eg_X7_besideOf_16.2.2.2.2.1, rfl, by decide⟩
theorem d_X7_besideOf_56 : zD m_X7_besideOf 56 (.iload_n 0) 1 57 := ⟨eg_X7_besideOf_16.2.2.2.2.2.1, rfl⟩
theorem d_X7_besideOf_57 : zD m_X7_besideOf 57 (.iconst 1) 1 58 := ⟨eg_X7_besideOf_16.2.2.2.2.2.2.1, rfl⟩
theorem d_X7_besideOf_58 : zD m_X7_besideOf 58 (.iadd) 1 59 := ⟨eg_X7_besideOf_16.2.2.2.2.2.2.2, rfl⟩
theorem d_X7_besideOf_59 : zDj m_X7_besideOf 59 (.goto) 62 63 := ⟨4, eg_X7_besideOf_24.1, rfl, by decide⟩
theorem d_X7_besideOf_62 : zD m_X7_besideOf 62 (.iconst (-1)) 1 63 := ⟨eg_X7_besideOf_24.2.1, rfl⟩
theorem d_X7_besideOf_63 : decode (zcc m_X7_besideOf) 63 = .ok (.ireturn, 1) := eg_X7_besideOf_24.2.2
set_option maxRecDepth 20000 in
theorem eg_X7_binsOf_0 : decode (zcc m_X7_binsOf) 0 = .ok (.iload_n 1, 1) ∧ decode (zcc m_X7_binsOf) 1 = .ok (.iconst 1, 1) ∧ decode (zcc m_X7_binsOf) 2 = .ok (.if_icmp .ge (7), 3) ∧ decode (zcc m_X7_binsOf) 5 = .ok (.iconst 0, 1) ∧ decode (zcc m_X7_binsOf) 6 = .ok (.goto (10), 3) ∧ decode (zcc m_X7_binsOf) 9 = .ok (.iload_n 0, 1) ∧ decode (zcc m_X7_binsOf) 10 = .ok (.iload_n 1, 1) ∧ decode (zcc m_X7_binsOf) 11 = .ok (.iadd, 1) := by decide +kernel
set_option maxRecDepth 20000 in
theorem eg_X7_binsOf_8 : decode (zcc m_X7_binsOf) 12 = .ok (.iconst 1, 1) ∧ decode (zcc m_X7_binsOf) 13 = .ok (.isub, 1) ∧ decode (zcc m_X7_binsOf) 14 = .ok (.iload_n 1, 1) ∧ decode (zcc m_X7_binsOf) 15 = .ok (.idiv, 1) ∧ decode (zcc m_X7_binsOf) 16 = .ok (.ireturn, 1) := by decide +kernel
theorem d_X7_binsOf_0 : zD m_X7_binsOf 0 (.iload_n 1) 1 1 := ⟨eg_X7_binsOf_0.1, rfl⟩
theorem d_X7_binsOf_1 : zD m_X7_binsOf 1 (.iconst 1) 1 2 := ⟨eg_X7_binsOf_0.2.1, rfl⟩
theorem d_X7_binsOf_2 : zDj m_X7_binsOf 2 (.if_icmp .ge) 5 9 := ⟨7, eg_X7_binsOf_0.2.2.1, rfl, by decide⟩
theorem d_X7_binsOf_5 : zD m_X7_binsOf 5 (.iconst 0) 1 6 := ⟨eg_X7_binsOf_0.2.2.2.1, rfl⟩
theorem d_X7_binsOf_6 : zDj m_X7_binsOf 6 (.goto) 9 16 := ⟨10, eg_X7_binsOf_0.2.2.2.2.1, rfl, by decide⟩
theorem d_X7_binsOf_9 : zD m_X7_binsOf 9 (.iload_n 0) 1 10 := ⟨eg_X7_binsOf_0.2.2.2.2.2.1, rfl⟩
theorem d_X7_binsOf_10 : zD m_X7_binsOf 10 (.iload_n 1) 1 11 := ⟨eg_X7_binsOf_0.2.2.2.2.2.2.1, rfl⟩
theorem d_X7_binsOf_11 : zD m_X7_binsOf 11 (.iadd) 1 12 := ⟨eg_X7_binsOf_0.2.2.2.2.2.2.2, rfl⟩
theorem d_X7_binsOf_12 : zD m_X7_binsOf 12 (.iconst 1) 1 13 := ⟨eg_X7_binsOf_8.1, rfl⟩
theorem d_X7_binsOf_13 : zD m_X7_binsOf 13 (.isub) 1 14 := ⟨eg_X7_binsOf_8.2.1, rfl⟩
theorem d_X7_binsOf_14 : zD m_X7_binsOf 14 (.iload_n 1) 1 15 := ⟨eg_X7_binsOf_8.2.2.1, rfl⟩
theorem d_X7_binsOf_15 : zD m_X7_binsOf 15 (.idiv) 1 16 := ⟨eg_X7_binsOf_8.2.2.2.1, rfl⟩
theorem d_X7_binsOf_16 : decode (zcc m_X7_binsOf) 16 = .ok (.ireturn, 1) := eg_X7_binsOf_8.2.2.2.2
set_option maxRecDepth 20000 in
theorem eg_X7_valueOf_0 : decode (zcc m_X7_valueOf) 0 = .ok (.iconst 1, 1) ∧ decode (zcc m_X7_valueOf) 1 = .ok (.aload_n 1, 1) ∧ decode (zcc m_X7_valueOf) 2 = .ok (.getfield 89, 3) ∧ decode (zcc m_X7_valueOf) 5 = .ok (.iconst 5, 1) ∧ decode (zcc m_X7_valueOf) 6 = .ok (.iaload, 1) ∧ decode (zcc m_X7_valueOf) 7 = .ok (.invokestatic 197, 3) ∧ decode (zcc m_X7_valueOf) 10 = .ok (.istore_n 2, 1) ∧ decode (zcc m_X7_valueOf) 11 = .ok (.sipush 255, 3) := by decide +kernel
set_option maxRecDepth 20000 in
theorem eg_X7_valueOf_8 : decode (zcc m_X7_valueOf) 14 = .ok (.iload_n 0, 1) ∧ decode (zcc m_X7_valueOf) 15 = .ok (.aload_n 1, 1) ∧ decode (zcc m_X7_valueOf) 16 = .ok (.getfield 89, 3) ∧ decode (zcc m_X7_valueOf) 19 = .ok (.iconst 4, 1) ∧ decode (zcc m_X7_valueOf) 20 = .ok (.iaload, 1) ∧ decode (zcc m_X7_valueOf) 21 = .ok (.imul, 1) ∧ decode (zcc m_X7_valueOf) 22 = .ok (.iload_n 2, 1) ∧ decode (zcc m_X7_valueOf) 23 = .ok (.idiv, 1) := by decide +kernel
set_option maxRecDepth 20000 in
theorem eg_X7_valueOf_16 : decode (zcc m_X7_valueOf) 24 = .ok (.invokestatic 203, 3) ∧ decode (zcc m_X7_valueOf) 27 = .ok (.ireturn, 1) := by decide +kernel
theorem d_X7_valueOf_0 : zD m_X7_valueOf 0 (.iconst 1) 1 1 := ⟨eg_X7_valueOf_0.1, rfl⟩
theorem d_X7_valueOf_1 : zD m_X7_valueOf 1 (.aload_n 1) 1 2 := ⟨eg_X7_valueOf_0.2.1, rfl⟩
theorem d_X7_valueOf_2 : zD m_X7_valueOf 2 (.getfield 89) 3 5 := ⟨eg_X7_valueOf_0.2.2.1, rfl⟩
theorem d_X7_valueOf_5 : zD m_X7_valueOf 5 (.iconst 5) 1 6 := ⟨eg_X7_valueOf_0.2.2.2.1, rfl⟩
theorem d_X7_valueOf_6 : zD m_X7_valueOf 6 (.iaload) 1 7 := ⟨eg_X7_valueOf_0.2.2.2.2.1, rfl⟩
theorem d_X7_valueOf_7 : zD m_X7_valueOf 7 (.invokestatic 197) 3 10 := ⟨eg_X7_valueOf_0.2.2.2.2.2.1, rfl⟩
theorem d_X7_valueOf_10 : zD m_X7_valueOf 10 (.istore_n 2) 1 11 := ⟨eg_X7_valueOf_0.2.2.2.2.2.2.1, rfl⟩
theorem d_X7_valueOf_11 : zD m_X7_valueOf 11 (.sipush 255) 3 14 := ⟨eg_X7_valueOf_0.2.2.2.2.2.2.2, rfl⟩
theorem d_X7_valueOf_14 : zD m_X7_valueOf 14 (.iload_n 0) 1 15 := ⟨eg_X7_valueOf_8.1, rfl⟩
theorem d_X7_valueOf_15 : zD m_X7_valueOf 15 (.aload_n 1) 1 16 := ⟨eg_X7_valueOf_8.2.1, rfl⟩
theorem d_X7_valueOf_16 : zD m_X7_valueOf 16 (.getfield 89) 3 19 := ⟨eg_X7_valueOf_8.2.2.1, rfl⟩
theorem d_X7_valueOf_19 : zD m_X7_valueOf 19 (.iconst 4) 1 20 := ⟨eg_X7_valueOf_8.2.2.2.1, rfl⟩
theorem d_X7_valueOf_20 : zD m_X7_valueOf 20 (.iaload) 1 21 := ⟨eg_X7_valueOf_8.2.2.2.2.1, rfl⟩
theorem d_X7_valueOf_21 : zD m_X7_valueOf 21 (.imul) 1 22 := ⟨eg_X7_valueOf_8.2.2.2.2.2.1, rfl⟩
theorem d_X7_valueOf_22 : zD m_X7_valueOf 22 (.iload_n 2) 1 23 := ⟨eg_X7_valueOf_8.2.2.2.2.2.2.1, rfl⟩
theorem d_X7_valueOf_23 : zD m_X7_valueOf 23 (.idiv) 1 24 := ⟨eg_X7_valueOf_8.2.2.2.2.2.2.2, rfl⟩
theorem d_X7_valueOf_24 : zD m_X7_valueOf 24 (.invokestatic 203) 3 27 := ⟨eg_X7_valueOf_16.1, rfl⟩
theorem d_X7_valueOf_27 : decode (zcc m_X7_valueOf) 27 = .ok (.ireturn, 1) := eg_X7_valueOf_16.2
set_option maxRecDepth 20000 in
theorem eg_X7_tellAll_0 : decode (zcc m_X7_tellAll) 0 = .ok (.aload_n 0, 1) ∧ decode (zcc m_X7_tellAll) 1 = .ok (.getfield 19, 3) ∧ decode (zcc m_X7_tellAll) 4 = .ok (.aload_n 0, 1) ∧ decode (zcc m_X7_tellAll) 5 = .ok (.getfield 28, 3) ∧ decode (zcc m_X7_tellAll) 8 = .ok (.getfield 291, 3) ∧ decode (zcc m_X7_tellAll) 11 = .ok (.invokevirtual 294, 3) ∧ decode (zcc m_X7_tellAll) 14 = .ok (.aload_n 0, 1) ∧ decode (zcc m_X7_tellAll) 15 = .ok (.getfield 35, 3) := by decide +kernel
set_option maxRecDepth 20000 in
theorem eg_X7_tellAll_8 : decode (zcc m_X7_tellAll) 18 = .ok (.invokevirtual 159, 3) ∧ decode (zcc m_X7_tellAll) 21 = .ok (.aload_n 0, 1) ∧ decode (zcc m_X7_tellAll) 22 = .ok (.getfield 28, 3) ∧ decode (zcc m_X7_tellAll) 25 = .ok (.getfield 296, 3) ∧ decode (zcc m_X7_tellAll) 28 = .ok (.iconst 0, 1) ∧ decode (zcc m_X7_tellAll) 29 = .ok (.aload_n 0, 1) ∧ decode (zcc m_X7_tellAll) 30 = .ok (.getfield 35, 3) ∧ decode (zcc m_X7_tellAll) 33 = .ok (.getfield 100, 3) := by decide +kernel
set_option maxRecDepth 20000 in
theorem eg_X7_tellAll_16 : decode (zcc m_X7_tellAll) 36 = .ok (.iconst 0, 1) ∧ decode (zcc m_X7_tellAll) 37 = .ok (.bipush 48, 2) ∧ decode (zcc m_X7_tellAll) 39 = .ok (.invokestatic 299, 3) ∧ decode (zcc m_X7_tellAll) 42 = .ok (.aload_n 0, 1) ∧ decode (zcc m_X7_tellAll) 43 = .ok (.getfield 43, 3) ∧ decode (zcc m_X7_tellAll) 46 = .ok (.iconst 0, 1) ∧ decode (zcc m_X7_tellAll) 47 = .ok (.iconst 0, 1) ∧ decode (zcc m_X7_tellAll) 48 = .ok (.bastore, 1) := by decide +kernel
set_option maxRecDepth 20000 in
theorem eg_X7_tellAll_24 : decode (zcc m_X7_tellAll) 49 = .ok (.aload_n 0, 1) ∧ decode (zcc m_X7_tellAll) 50 = .ok (.getfield 43, 3) ∧ decode (zcc m_X7_tellAll) 53 = .ok (.iconst 1, 1) ∧ decode (zcc m_X7_tellAll) 54 = .ok (.iconst 0, 1) ∧ decode (zcc m_X7_tellAll) 55 = .ok (.bastore, 1) ∧ decode (zcc m_X7_tellAll) 56 = .ok (.return_, 1) := by decide +kernel
theorem d_X7_tellAll_0 : zD m_X7_tellAll 0 (.aload_n 0) 1 1 := ⟨eg_X7_tellAll_0.1, rfl⟩
theorem d_X7_tellAll_1 : zD m_X7_tellAll 1 (.getfield 19) 3 4 := ⟨eg_X7_tellAll_0.2.1, rfl⟩
theorem d_X7_tellAll_4 : zD m_X7_tellAll 4 (.aload_n 0) 1 5 := ⟨eg_X7_tellAll_0.2.2.1, rfl⟩
theorem d_X7_tellAll_5 : zD m_X7_tellAll 5 (.getfield 28) 3 8 := ⟨eg_X7_tellAll_0.2.2.2.1, rfl⟩
theorem d_X7_tellAll_8 : zD m_X7_tellAll 8 (.getfield 291) 3 11 := ⟨eg_X7_tellAll_0.2.2.2.2.1, rfl⟩
theorem d_X7_tellAll_11 : zD m_X7_tellAll 11 (.invokevirtual 294) 3 14 := ⟨eg_X7_tellAll_0.2.2.2.2.2.1, rfl⟩
theorem d_X7_tellAll_14 : zD m_X7_tellAll 14 (.aload_n 0) 1 15 := ⟨eg_X7_tellAll_0.2.2.2.2.2.2.1, rfl⟩
theorem d_X7_tellAll_15 : zD m_X7_tellAll 15 (.getfield 35) 3 18 := ⟨eg_X7_tellAll_0.2.2.2.2.2.2.2, rfl⟩
theorem d_X7_tellAll_18 : zD m_X7_tellAll 18 (.invokevirtual 159) 3 21 := ⟨eg_X7_tellAll_8.1, rfl⟩
theorem d_X7_tellAll_21 : zD m_X7_tellAll 21 (.aload_n 0) 1 22 := ⟨eg_X7_tellAll_8.2.1, rfl⟩
theorem d_X7_tellAll_22 : zD m_X7_tellAll 22 (.getfield 28) 3 25 := ⟨eg_X7_tellAll_8.2.2.1, rfl⟩
theorem d_X7_tellAll_25 : zD m_X7_tellAll 25 (.getfield 296) 3 28 := ⟨eg_X7_tellAll_8.2.2.2.1, rfl⟩
theorem d_X7_tellAll_28 : zD m_X7_tellAll 28 (.iconst 0) 1 29 := ⟨eg_X7_tellAll_8.2.2.2.2.1, rfl⟩
theorem d_X7_tellAll_29 : zD m_X7_tellAll 29 (.aload_n 0) 1 30 := ⟨eg_X7_tellAll_8.2.2.2.2.2.1, rfl⟩
theorem d_X7_tellAll_30 : zD m_X7_tellAll 30 (.getfield 35) 3 33 := ⟨eg_X7_tellAll_8.2.2.2.2.2.2.1, rfl⟩
theorem d_X7_tellAll_33 : zD m_X7_tellAll 33 (.getfield 100) 3 36 := ⟨eg_X7_tellAll_8.2.2.2.2.2.2.2, rfl⟩
theorem d_X7_tellAll_36 : zD m_X7_tellAll 36 (.iconst 0) 1 37 := ⟨eg_X7_tellAll_16.1, rfl⟩
theorem d_X7_tellAll_37 : zD m_X7_tellAll 37 (.bipush 48) 2 39 := ⟨eg_X7_tellAll_16.2.1, rfl⟩
theorem d_X7_tellAll_39 : zD m_X7_tellAll 39 (.invokestatic 299) 3 42 := ⟨eg_X7_tellAll_16.2.2.1, rfl⟩
theorem d_X7_tellAll_42 : zD m_X7_tellAll 42 (.aload_n 0) 1 43 := ⟨eg_X7_tellAll_16.2.2.2.1, rfl⟩
theorem d_X7_tellAll_43 : zD m_X7_tellAll 43 (.getfield 43) 3 46 := ⟨eg_X7_tellAll_16.2.2.2.2.1, rfl⟩
theorem d_X7_tellAll_46 : zD m_X7_tellAll 46 (.iconst 0) 1 47 := ⟨eg_X7_tellAll_16.2.2.2.2.2.1, rfl⟩
theorem d_X7_tellAll_47 : zD m_X7_tellAll 47 (.iconst 0) 1 48 := ⟨eg_X7_tellAll_16.2.2.2.2.2.2.1, rfl⟩
theorem d_X7_tellAll_48 : zD m_X7_tellAll 48 (.bastore) 1 49 := ⟨eg_X7_tellAll_16.2.2.2.2.2.2.2, rfl⟩
theorem d_X7_tellAll_49 : zD m_X7_tellAll 49 (.aload_n 0) 1 50 := ⟨eg_X7_tellAll_24.1, rfl⟩
theorem d_X7_tellAll_50 : zD m_X7_tellAll 50 (.getfield 43) 3 53 := ⟨eg_X7_tellAll_24.2.1, rfl⟩
theorem d_X7_tellAll_53 : zD m_X7_tellAll 53 (.iconst 1) 1 54 := ⟨eg_X7_tellAll_24.2.2.1, rfl⟩
theorem d_X7_tellAll_54 : zD m_X7_tellAll 54 (.iconst 0) 1 55 := ⟨eg_X7_tellAll_24.2.2.2.1, rfl⟩
theorem d_X7_tellAll_55 : zD m_X7_tellAll 55 (.bastore) 1 56 := ⟨eg_X7_tellAll_24.2.2.2.2.1, rfl⟩
theorem d_X7_tellAll_56 : decode (zcc m_X7_tellAll) 56 = .ok (.return_, 1) := eg_X7_tellAll_24.2.2.2.2.2
