set_option maxRecDepth 20000 in
theorem eg_X8_init_0 : decode (zcc m_X8_init) 0 = .ok (.aload_n 0, 1) ∧ decode (zcc m_X8_init) 1 = .ok (.invokespecial 1, 3) ∧ decode (zcc m_X8_init) 4 = .ok (.aload_n 0, 1) ∧ decode (zcc m_X8_init) 5 = .ok (.sipush 640, 3) ∧ decode (zcc m_X8_init) 8 = .ok (.newarray .int, 2) ∧ decode (zcc m_X8_init) 10 = .ok (.putfield 7, 3) ∧ decode (zcc m_X8_init) 13 = .ok (.aload_n 0, 1) ∧ decode (zcc m_X8_init) 14 = .ok (.bipush 12, 2) := by decide +kernel
set_option maxRecDepth 20000 in
theorem eg_X8_init_8 : decode (zcc m_X8_init) 16 = .ok (.newarray .long, 2) ∧ decode (zcc m_X8_init) 18 = .ok (.putfield 13, 3) ∧ decode (zcc m_X8_init) 21 = .ok (.aload_n 0, 1) ∧ decode (zcc m_X8_init) 22 = .ok (.iconst 2, 1) ∧ decode (zcc m_X8_init) 23 = .ok (.newarray .boolean, 2) ∧ decode (zcc m_X8_init) 25 = .ok (.putfield 17, 3) ∧ decode (zcc m_X8_init) 28 = .ok (.aload_n 0, 1) ∧ decode (zcc m_X8_init) 29 = .ok (.bipush 7, 2) := by decide +kernel
set_option maxRecDepth 20000 in
theorem eg_X8_init_16 : decode (zcc m_X8_init) 31 = .ok (.newarray .int, 2) ∧ decode (zcc m_X8_init) 33 = .ok (.putfield 21, 3) ∧ decode (zcc m_X8_init) 36 = .ok (.aload_n 0, 1) ∧ decode (zcc m_X8_init) 37 = .ok (.bipush 48, 2) ∧ decode (zcc m_X8_init) 39 = .ok (.newarray .int, 2) ∧ decode (zcc m_X8_init) 41 = .ok (.putfield 24, 3) ∧ decode (zcc m_X8_init) 44 = .ok (.aload_n 0, 1) ∧ decode (zcc m_X8_init) 45 = .ok (.bipush 48, 2) := by decide +kernel
set_option maxRecDepth 20000 in
theorem eg_X8_init_24 : decode (zcc m_X8_init) 47 = .ok (.newarray .int, 2) ∧ decode (zcc m_X8_init) 49 = .ok (.putfield 27, 3) ∧ decode (zcc m_X8_init) 52 = .ok (.aload_n 0, 1) ∧ decode (zcc m_X8_init) 53 = .ok (.bipush 12, 2) ∧ decode (zcc m_X8_init) 55 = .ok (.newarray .int, 2) ∧ decode (zcc m_X8_init) 57 = .ok (.putfield 30, 3) ∧ decode (zcc m_X8_init) 60 = .ok (.aload_n 0, 1) ∧ decode (zcc m_X8_init) 61 = .ok (.bipush 7, 2) := by decide +kernel
set_option maxRecDepth 20000 in
theorem eg_X8_init_32 : decode (zcc m_X8_init) 63 = .ok (.newarray .int, 2) ∧ decode (zcc m_X8_init) 65 = .ok (.putfield 33, 3) ∧ decode (zcc m_X8_init) 68 = .ok (.aload_n 0, 1) ∧ decode (zcc m_X8_init) 69 = .ok (.bipush 48, 2) ∧ decode (zcc m_X8_init) 71 = .ok (.newarray .int, 2) ∧ decode (zcc m_X8_init) 73 = .ok (.putfield 36, 3) ∧ decode (zcc m_X8_init) 76 = .ok (.aload_n 0, 1) ∧ decode (zcc m_X8_init) 77 = .ok (.bipush 48, 2) := by decide +kernel
set_option maxRecDepth 20000 in
theorem eg_X8_init_40 : decode (zcc m_X8_init) 79 = .ok (.newarray .int, 2) ∧ decode (zcc m_X8_init) 81 = .ok (.putfield 39, 3) ∧ decode (zcc m_X8_init) 84 = .ok (.aload_n 0, 1) ∧ decode (zcc m_X8_init) 85 = .ok (.bipush 48, 2) ∧ decode (zcc m_X8_init) 87 = .ok (.newarray .int, 2) ∧ decode (zcc m_X8_init) 89 = .ok (.putfield 42, 3) ∧ decode (zcc m_X8_init) 92 = .ok (.aload_n 0, 1) ∧ decode (zcc m_X8_init) 93 = .ok (.bipush 12, 2) := by decide +kernel
set_option maxRecDepth 20000 in
theorem eg_X8_init_48 : decode (zcc m_X8_init) 95 = .ok (.newarray .int, 2) ∧ decode (zcc m_X8_init) 97 = .ok (.putfield 45, 3) ∧ decode (zcc m_X8_init) 100 = .ok (.aload_n 0, 1) ∧ decode (zcc m_X8_init) 101 = .ok (.sipush 400, 3) ∧ decode (zcc m_X8_init) 104 = .ok (.newarray .int, 2) ∧ decode (zcc m_X8_init) 106 = .ok (.putfield 48, 3) ∧ decode (zcc m_X8_init) 109 = .ok (.aload_n 0, 1) ∧ decode (zcc m_X8_init) 110 = .ok (.bipush 48, 2) := by decide +kernel
set_option maxRecDepth 20000 in
theorem eg_X8_init_56 : decode (zcc m_X8_init) 112 = .ok (.newarray .int, 2) ∧ decode (zcc m_X8_init) 114 = .ok (.putfield 51, 3) ∧ decode (zcc m_X8_init) 117 = .ok (.aload_n 0, 1) ∧ decode (zcc m_X8_init) 118 = .ok (.bipush 48, 2) ∧ decode (zcc m_X8_init) 120 = .ok (.newarray .int, 2) ∧ decode (zcc m_X8_init) 122 = .ok (.putfield 54, 3) ∧ decode (zcc m_X8_init) 125 = .ok (.aload_n 0, 1) ∧ decode (zcc m_X8_init) 126 = .ok (.sipush 3216, 3) := by decide +kernel
set_option maxRecDepth 20000 in
theorem eg_X8_init_64 : decode (zcc m_X8_init) 129 = .ok (.newarray .long, 2) ∧ decode (zcc m_X8_init) 131 = .ok (.putfield 57, 3) ∧ decode (zcc m_X8_init) 134 = .ok (.aload_n 0, 1) ∧ decode (zcc m_X8_init) 135 = .ok (.sipush 3216, 3) ∧ decode (zcc m_X8_init) 138 = .ok (.newarray .long, 2) ∧ decode (zcc m_X8_init) 140 = .ok (.putfield 60, 3) ∧ decode (zcc m_X8_init) 143 = .ok (.aload_n 0, 1) ∧ decode (zcc m_X8_init) 144 = .ok (.iconst 4, 1) := by decide +kernel
set_option maxRecDepth 20000 in
theorem eg_X8_init_72 : decode (zcc m_X8_init) 145 = .ok (.newarray .int, 2) ∧ decode (zcc m_X8_init) 147 = .ok (.putfield 63, 3) ∧ decode (zcc m_X8_init) 150 = .ok (.aload_n 0, 1) ∧ decode (zcc m_X8_init) 151 = .ok (.iconst 4, 1) ∧ decode (zcc m_X8_init) 152 = .ok (.newarray .int, 2) ∧ decode (zcc m_X8_init) 154 = .ok (.putfield 66, 3) ∧ decode (zcc m_X8_init) 157 = .ok (.aload_n 0, 1) ∧ decode (zcc m_X8_init) 158 = .ok (.sipush 160, 3) := by decide +kernel
set_option maxRecDepth 20000 in
theorem eg_X8_init_80 : decode (zcc m_X8_init) 161 = .ok (.newarray .int, 2) ∧ decode (zcc m_X8_init) 163 = .ok (.putfield 69, 3) ∧ decode (zcc m_X8_init) 166 = .ok (.iconst 0, 1) ∧ decode (zcc m_X8_init) 167 = .ok (.istore_n 1, 1) ∧ decode (zcc m_X8_init) 168 = .ok (.iload_n 1, 1) ∧ decode (zcc m_X8_init) 169 = .ok (.iconst 4, 1) ∧ decode (zcc m_X8_init) 170 = .ok (.if_icmp .ge (17), 3) ∧ decode (zcc m_X8_init) 173 = .ok (.aload_n 0, 1) := by decide +kernel
set_option maxRecDepth 20000 in
theorem eg_X8_init_88 : decode (zcc m_X8_init) 174 = .ok (.getfield 63, 3) ∧ decode (zcc m_X8_init) 177 = .ok (.iload_n 1, 1) ∧ decode (zcc m_X8_init) 178 = .ok (.bipush (-4), 2) ∧ decode (zcc m_X8_init) 180 = .ok (.iastore, 1) ∧ decode (zcc m_X8_init) 181 = .ok (.iinc 1 1, 3) ∧ decode (zcc m_X8_init) 184 = .ok (.goto (-16), 3) ∧ decode (zcc m_X8_init) 187 = .ok (.aload_n 0, 1) ∧ decode (zcc m_X8_init) 188 = .ok (.invokevirtual 72, 3) := by decide +kernel
set_option maxRecDepth 20000 in
theorem eg_X8_init_96 : decode (zcc m_X8_init) 191 = .ok (.aload_n 0, 1) ∧ decode (zcc m_X8_init) 192 = .ok (.invokevirtual 75, 3) ∧ decode (zcc m_X8_init) 195 = .ok (.return_, 1) := by decide +kernel
theorem d_X8_init_0 : zD m_X8_init 0 (.aload_n 0) 1 1 := ⟨eg_X8_init_0.1, rfl⟩
theorem d_X8_init_1 : zD m_X8_init 1 (.invokespecial 1) 3 4 := ⟨eg_X8_init_0.2.1, rfl⟩
theorem d_X8_init_4 : zD m_X8_init 4 (.aload_n 0) 1 5 := ⟨eg_X8_init_0.2.2.1, rfl⟩
theorem d_X8_init_5 : zD m_X8_init 5 (.sipush 640) 3 8 := ⟨eg_X8_init_0.2.2.2.1, rfl⟩
theorem d_X8_init_8 : zD m_X8_init 8 (.newarray .int) 2 10 := ⟨eg_X8_init_0.2.2.2.2.1, rfl⟩
theorem d_X8_init_10 : zD m_X8_init 10 (.putfield 7) 3 13 := ⟨eg_X8_init_0.2.2.2.2.2.1, rfl⟩
theorem d_X8_init_13 : zD m_X8_init 13 (.aload_n 0) 1 14 := ⟨eg_X8_init_0.2.2.2.2.2.2.1, rfl⟩
theorem d_X8_init_14 : zD m_X8_init 14 (.bipush 12) 2 16 := ⟨eg_X8_init_0.2.2.2.2.2.2.2, rfl⟩
theorem d_X8_init_16 : zD m_X8_init 16 (.newarray .long) 2 18 := ⟨eg_X8_init_8.1, rfl⟩
theorem d_X8_init_18 : zD m_X8_init 18 (.putfield 13) 3 21 := ⟨eg_X8_init_8.2.1, rfl⟩
theorem d_X8_init_21 : zD m_X8_init 21 (.aload_n 0) 1 22 := ⟨eg_X8_init_8.2.2.1, rfl⟩
theorem d_X8_init_22 : zD m_X8_init 22 (.iconst 2) 1 23 := ⟨eg_X8_init_8.2.2.2.1, rfl⟩
theorem d_X8_init_23 : zD m_X8_init 23 (.newarray .boolean) 2 25 := ⟨eg_X8_init_8.2.2.2.2.1, rfl⟩
theorem d_X8_init_25 : zD m_X8_init 25 (.putfield 17) 3 28 := ⟨eg_X8_init_8.2.2.2.2.2.1, rfl⟩
theorem d_X8_init_28 : zD m_X8_init 28 (.aload_n 0) 1 29 := ⟨eg_X8_init_8.2.2.2.2.2.2.1, rfl⟩
theorem d_X8_init_29 : zD m_X8_init 29 (.bipush 7) 2 31 := ⟨eg_X8_init_8.2.2.2.2.2.2.2, rfl⟩
theorem d_X8_init_31 : zD m_X8_init 31 (.newarray .int) 2 33 := ⟨eg_X8_init_16.1, rfl⟩
theorem d_X8_init_33 : zD m_X8_init 33 (.putfield 21) 3 36 := ⟨eg_X8_init_16.2.1, rfl⟩
theorem d_X8_init_36 : zD m_X8_init 36 (.aload_n 0) 1 37 := ⟨eg_X8_init_16.2.2.1, rfl⟩
theorem d_X8_init_37 : zD m_X8_init 37 (.bipush 48) 2 39 := ⟨eg_X8_init_16.2.2.2.1, rfl⟩
theorem d_X8_init_39 : zD m_X8_init 39 (.newarray .int) 2 41 := ⟨eg_X8_init_16.2.2.2.2.1, rfl⟩
theorem d_X8_init_41 : zD m_X8_init 41 (.putfield 24) 3 44 := ⟨eg_X8_init_16.2.2.2.2.2.1, rfl⟩
theorem d_X8_init_44 : zD m_X8_init 44 (.aload_n 0) 1 45 := ⟨eg_X8_init_16.2.2.2.2.2.2.1, rfl⟩
theorem d_X8_init_45 : zD m_X8_init 45 (.bipush 48) 2 47 := ⟨eg_X8_init_16.2.2.2.2.2.2.2, rfl⟩
theorem d_X8_init_47 : zD m_X8_init 47 (.newarray .int) 2 49 := ⟨eg_X8_init_24.1, rfl⟩
theorem d_X8_init_49 : zD m_X8_init 49 (.putfield 27) 3 52 := ⟨eg_X8_init_24.2.1, rfl⟩
theorem d_X8_init_52 : zD m_X8_init 52 (.aload_n 0) 1 53 := ⟨eg_X8_init_24.2.2.1, rfl⟩
theorem d_X8_init_53 : zD m_X8_init 53 (.bipush 12) 2 55 := ⟨eg_X8_init_24.2.2.2.1, rfl⟩
theorem d_X8_init_55 : zD m_X8_init 55 (.newarray .int) 2 57 := ⟨eg_X8_init_24.2.2.2.2.1, rfl⟩
theorem d_X8_init_57 : zD m_X8_init 57 (.putfield 30) 3 60 := ⟨eg_X8_init_24.2.2.2.2.2.1, rfl⟩
theorem d_X8_init_60 : zD m_X8_init 60 (.aload_n 0) 1 61 := ⟨eg_X8_init_24.2.2.2.2.2.2.1, rfl⟩
theorem d_X8_init_61 : zD m_X8_init 61 (.bipush 7) 2 63 := ⟨eg_X8_init_24.2.2.2.2.2.2.2, rfl⟩
theorem d_X8_init_63 : zD m_X8_init 63 (.newarray .int) 2 65 := ⟨eg_X8_init_32.1, rfl⟩
theorem d_X8_init_65 : zD m_X8_init 65 (.putfield 33) 3 68 := ⟨eg_X8_init_32.2.1, rfl⟩
theorem d_X8_init_68 : zD m_X8_init 68 (.aload_n 0) 1 69 := ⟨eg_X8_init_32.2.2.1, rfl⟩
theorem d_X8_init_69 : zD m_X8_init 69 (.bipush 48) 2 71 := ⟨eg_X8_init_32.2.2.2.1, rfl⟩
theorem d_X8_init_71 : zD m_X8_init 71 (.newarray .int) 2 73 := ⟨eg_X8_init_32.2.2.2.2.1, rfl⟩
theorem d_X8_init_73 : zD m_X8_init 73 (.putfield 36) 3 76 := ⟨eg_X8_init_32.2.2.2.2.2.1, rfl⟩
theorem d_X8_init_76 : zD m_X8_init 76 (.aload_n 0) 1 77 := ⟨eg_X8_init_32.2.2.2.2.2.2.1, rfl⟩
theorem d_X8_init_77 : zD m_X8_init 77 (.bipush 48) 2 79 := ⟨eg_X8_init_32.2.2.2.2.2.2.2, rfl⟩
theorem d_X8_init_79 : zD m_X8_init 79 (.newarray .int) 2 81 := ⟨eg_X8_init_40.1, rfl⟩
theorem d_X8_init_81 : zD m_X8_init 81 (.putfield 39) 3 84 := ⟨eg_X8_init_40.2.1, rfl⟩
theorem d_X8_init_84 : zD m_X8_init 84 (.aload_n 0) 1 85 := ⟨eg_X8_init_40.2.2.1, rfl⟩
theorem d_X8_init_85 : zD m_X8_init 85 (.bipush 48) 2 87 := ⟨eg_X8_init_40.2.2.2.1, rfl⟩
theorem d_X8_init_87 : zD m_X8_init 87 (.newarray .int) 2 89 := ⟨eg_X8_init_40.2.2.2.2.1, rfl⟩
theorem d_X8_init_89 : zD m_X8_init 89 (.putfield 42) 3 92 := ⟨eg_X8_init_40.2.2.2.2.2.1, rfl⟩
theorem d_X8_init_92 : zD m_X8_init 92 (.aload_n 0) 1 93 := ⟨eg_X8_init_40.2.2.2.2.2.2.1, rfl⟩
theorem d_X8_init_93 : zD m_X8_init 93 (.bipush 12) 2 95 := ⟨eg_X8_init_40.2.2.2.2.2.2.2, rfl⟩
theorem d_X8_init_95 : zD m_X8_init 95 (.newarray .int) 2 97 := ⟨eg_X8_init_48.1, rfl⟩
theorem d_X8_init_97 : zD m_X8_init 97 (.putfield 45) 3 100 := ⟨eg_X8_init_48.2.1, rfl⟩
theorem d_X8_init_100 : zD m_X8_init 100 (.aload_n 0) 1 101 := ⟨eg_X8_init_48.2.2.1, rfl⟩
theorem d_X8_init_101 : zD m_X8_init 101 (.sipush 400) 3 104 := ⟨eg_X8_init_48.2.2.2.1, rfl⟩
theorem d_X8_init_104 : zD m_X8_init 104 (.newarray .int) 2 106 := ⟨eg_X8_init_48.2.2.2.2.1, rfl⟩
theorem d_X8_init_106 : zD m_X8_init 106 (.putfield 48) 3 109 := ⟨eg_X8_init_48.2.2.2.2.2.1, rfl⟩
theorem d_X8_init_109 : zD m_X8_init 109 (.aload_n 0) 1 110 := ⟨eg_X8_init_48.2.2.2.2.2.2.1, rfl⟩
theorem d_X8_init_110 : zD m_X8_init 110 (.bipush 48) 2 112 := ⟨eg_X8_init_48.2.2.2.2.2.2.2, rfl⟩
theorem d_X8_init_112 : zD m_X8_init 112 (.newarray .int) 2 114 := ⟨eg_X8_init_56.1, rfl⟩
theorem d_X8_init_114 : zD m_X8_init 114 (.putfield 51) 3 117 := ⟨eg_X8_init_56.2.1, rfl⟩
theorem d_X8_init_117 : zD m_X8_init 117 (.aload_n 0) 1 118 := ⟨eg_X8_init_56.2.2.1, rfl⟩
theorem d_X8_init_118 : zD m_X8_init 118 (.bipush 48) 2 120 := ⟨eg_X8_init_56.2.2.2.1, rfl⟩
theorem d_X8_init_120 : zD m_X8_init 120 (.newarray .int) 2 122 := ⟨eg_X8_init_56.2.2.2.2.1, rfl⟩
theorem d_X8_init_122 : zD m_X8_init 122 (.putfield 54) 3 125 := ⟨eg_X8_init_56.2.2.2.2.2.1, rfl⟩
theorem d_X8_init_125 : zD m_X8_init 125 (.aload_n 0) 1 126 := ⟨eg_X8_init_56.2.2.2.2.2.2.1, rfl⟩
theorem d_X8_init_126 : zD m_X8_init 126 (.sipush 3216) 3 129 := ⟨eg_X8_init_56.2.2.2.2.2.2.2, rfl⟩
theorem d_X8_init_129 : zD m_X8_init 129 (.newarray .long) 2 131 := ⟨eg_X8_init_64.1, rfl⟩
theorem d_X8_init_131 : zD m_X8_init 131 (.putfield 57) 3 134 := ⟨eg_X8_init_64.2.1, rfl⟩
theorem d_X8_init_134 : zD m_X8_init 134 (.aload_n 0) 1 135 := ⟨eg_X8_init_64.2.2.1, rfl⟩
theorem d_X8_init_135 : zD m_X8_init 135 (.sipush 3216) 3 138 := ⟨eg_X8_init_64.2.2.2.1, rfl⟩
theorem d_X8_init_138 : zD m_X8_init 138 (.newarray .long) 2 140 := ⟨eg_X8_init_64.2.2.2.2.1, rfl⟩
theorem d_X8_init_140 : zD m_X8_init 140 (.putfield 60) 3 143 := ⟨eg_X8_init_64.2.2.2.2.2.1, rfl⟩
theorem d_X8_init_143 : zD m_X8_init 143 (.aload_n 0) 1 144 := ⟨eg_X8_init_64.2.2.2.2.2.2.1, rfl⟩
theorem d_X8_init_144 : zD m_X8_init 144 (.iconst 4) 1 145 := ⟨eg_X8_init_64.2.2.2.2.2.2.2, rfl⟩
theorem d_X8_init_145 : zD m_X8_init 145 (.newarray .int) 2 147 := ⟨eg_X8_init_72.1, rfl⟩
theorem d_X8_init_147 : zD m_X8_init 147 (.putfield 63) 3 150 := ⟨eg_X8_init_72.2.1, rfl⟩
theorem d_X8_init_150 : zD m_X8_init 150 (.aload_n 0) 1 151 := ⟨eg_X8_init_72.2.2.1, rfl⟩
theorem d_X8_init_151 : zD m_X8_init 151 (.iconst 4) 1 152 := ⟨eg_X8_init_72.2.2.2.1, rfl⟩
theorem d_X8_init_152 : zD m_X8_init 152 (.newarray .int) 2 154 := ⟨eg_X8_init_72.2.2.2.2.1, rfl⟩
theorem d_X8_init_154 : zD m_X8_init 154 (.putfield 66) 3 157 := ⟨eg_X8_init_72.2.2.2.2.2.1, rfl⟩
theorem d_X8_init_157 : zD m_X8_init 157 (.aload_n 0) 1 158 := ⟨eg_X8_init_72.2.2.2.2.2.2.1, rfl⟩
theorem d_X8_init_158 : zD m_X8_init 158 (.sipush 160) 3 161 := ⟨eg_X8_init_72.2.2.2.2.2.2.2, rfl⟩
theorem d_X8_init_161 : zD m_X8_init 161 (.newarray .int) 2 163 := ⟨eg_X8_init_80.1, rfl⟩
theorem d_X8_init_163 : zD m_X8_init 163 (.putfield 69) 3 166 := ⟨eg_X8_init_80.2.1, rfl⟩
theorem d_X8_init_166 : zD m_X8_init 166 (.iconst 0) 1 167 := ⟨eg_X8_init_80.2.2.1, rfl⟩
theorem d_X8_init_167 : zD m_X8_init 167 (.istore_n 1) 1 168 := ⟨eg_X8_init_80.2.2.2.1, rfl⟩
theorem d_X8_init_168 : zD m_X8_init 168 (.iload_n 1) 1 169 := ⟨eg_X8_init_80.2.2.2.2.1, rfl⟩
theorem d_X8_init_169 : zD m_X8_init 169 (.iconst 4) 1 170 := ⟨eg_X8_init_80.2.2.2.2.2.1, rfl⟩
theorem d_X8_init_170 : zDj m_X8_init 170 (.if_icmp .ge) 173 187 := ⟨17, eg_X8_init_80.2.2.2.2.2.2.1, rfl, by decide⟩
theorem d_X8_init_173 : zD m_X8_init 173 (.aload_n 0) 1 174 := ⟨eg_X8_init_80.2.2.2.2.2.2.2, rfl⟩
theorem d_X8_init_174 : zD m_X8_init 174 (.getfield 63) 3 177 := ⟨eg_X8_init_88.1, rfl⟩
theorem d_X8_init_177 : zD m_X8_init 177 (.iload_n 1) 1 178 := ⟨eg_X8_init_88.2.1, rfl⟩
theorem d_X8_init_178 : zD m_X8_init 178 (.bipush (-4)) 2 180 := ⟨eg_X8_init_88.2.2.1, rfl⟩
theorem d_X8_init_180 : zD m_X8_init 180 (.iastore) 1 181 := ⟨eg_X8_init_88.2.2.2.1, rfl⟩
theorem d_X8_init_181 : zD m_X8_init 181 (.iinc 1 1) 3 184 := ⟨eg_X8_init_88.2.2.2.2.1, rfl⟩
theorem d_X8_init_184 : zDj m_X8_init 184 (.goto) 187 168 := ⟨-16, eg_X8_init_88.2.2.2.2.2.1, rfl, by decide⟩
theorem d_X8_init_187 : zD m_X8_init 187 (.aload_n 0) 1 188 := ⟨eg_X8_init_88.2.2.2.2.2.2.1, rfl⟩
theorem d_X8_init_188 : zD m_X8_init 188 (.invokevirtual 72) 3 191 := ⟨eg_X8_init_88.2.2.2.2.2.2.2, rfl⟩
theorem d_X8_init_191 : zD m_X8_init 191 (.aload_n 0) 1 192 := ⟨eg_X8_init_96.1, rfl⟩
theorem d_X8_init_192 : zD m_X8_init 192 (.invokevirtual 75) 3 195 := ⟨eg_X8_init_96.2.1, rfl⟩
theorem d_X8_init_195 : decode (zcc m_X8_init) 195 = .ok (.return_, 1) := eg_X8_init_96.2.2
set_option maxRecDepth 20000 in
theorem eg_X8_in_0 : decode (zcc m_X8_in) 0 = .ok (.lload_n 0, 1) ∧ decode (zcc m_X8_in) 1 = .ok (.lload_n 2, 1) ∧ decode (zcc m_X8_in) 2 = .ok (.lcmp, 1) ∧ decode (zcc m_X8_in) 3 = .ok (.ifCond .lt (14), 3) ∧ decode (zcc m_X8_in) 6 = .ok (.lload_n 0, 1) ∧ decode (zcc m_X8_in) 7 = .ok (.lload 4, 2) ∧ decode (zcc m_X8_in) 9 = .ok (.lcmp, 1) ∧ decode (zcc m_X8_in) 10 = .ok (.ifCond .gt (7), 3) := by decide +kernel
set_option maxRecDepth 20000 in
theorem eg_X8_in_8 : decode (zcc m_X8_in) 13 = .ok (.iconst 1, 1) ∧ decode (zcc m_X8_in) 14 = .ok (.goto (4), 3) ∧ decode (zcc m_X8_in) 17 = .ok (.iconst 0, 1) ∧ decode (zcc m_X8_in) 18 = .ok (.ireturn, 1) := by decide +kernel
theorem d_X8_in_0 : zD m_X8_in 0 (.lload_n 0) 1 1 := ⟨eg_X8_in_0.1, rfl⟩
theorem d_X8_in_1 : zD m_X8_in 1 (.lload_n 2) 1 2 := ⟨eg_X8_in_0.2.1, rfl⟩
theorem d_X8_in_2 : zD m_X8_in 2 (.lcmp) 1 3 := ⟨eg_X8_in_0.2.2.1, rfl⟩
theorem d_X8_in_3 : zDj m_X8_in 3 (.ifCond .lt) 6 17 := ⟨14, eg_X8_in_0.2.2.2.1, rfl, by decide⟩
theorem d_X8_in_6 : zD m_X8_in 6 (.lload_n 0) 1 7 := ⟨eg_X8_in_0.2.2.2.2.1, rfl⟩
theorem d_X8_in_7 : zD m_X8_in 7 (.lload 4) 2 9 := ⟨eg_X8_in_0.2.2.2.2.2.1, rfl⟩
theorem d_X8_in_9 : zD m_X8_in 9 (.lcmp) 1 10 := ⟨eg_X8_in_0.2.2.2.2.2.2.1, rfl⟩
theorem d_X8_in_10 : zDj m_X8_in 10 (.ifCond .gt) 13 17 := ⟨7, eg_X8_in_0.2.2.2.2.2.2.2, rfl, by decide⟩
theorem d_X8_in_13 : zD m_X8_in 13 (.iconst 1) 1 14 := ⟨eg_X8_in_8.1, rfl⟩
theorem d_X8_in_14 : zDj m_X8_in 14 (.goto) 17 18 := ⟨4, eg_X8_in_8.2.1, rfl, by decide⟩
theorem d_X8_in_17 : zD m_X8_in 17 (.iconst 0) 1 18 := ⟨eg_X8_in_8.2.2.1, rfl⟩
theorem d_X8_in_18 : decode (zcc m_X8_in) 18 = .ok (.ireturn, 1) := eg_X8_in_8.2.2.2
set_option maxRecDepth 20000 in
theorem eg_X8_flag_0 : decode (zcc m_X8_flag) 0 = .ok (.iload_n 0, 1) ∧ decode (zcc m_X8_flag) 1 = .ok (.ifCond .eq (7), 3) ∧ decode (zcc m_X8_flag) 4 = .ok (.iconst 1, 1) ∧ decode (zcc m_X8_flag) 5 = .ok (.goto (4), 3) ∧ decode (zcc m_X8_flag) 8 = .ok (.iconst 0, 1) ∧ decode (zcc m_X8_flag) 9 = .ok (.ireturn, 1) := by decide +kernel
theorem d_X8_flag_0 : zD m_X8_flag 0 (.iload_n 0) 1 1 := ⟨eg_X8_flag_0.1, rfl⟩
theorem d_X8_flag_1 : zDj m_X8_flag 1 (.ifCond .eq) 4 8 := ⟨7, eg_X8_flag_0.2.1, rfl, by decide⟩
theorem d_X8_flag_4 : zD m_X8_flag 4 (.iconst 1) 1 5 := ⟨eg_X8_flag_0.2.2.1, rfl⟩
theorem d_X8_flag_5 : zDj m_X8_flag 5 (.goto) 8 9 := ⟨4, eg_X8_flag_0.2.2.2.1, rfl, by decide⟩
theorem d_X8_flag_8 : zD m_X8_flag 8 (.iconst 0) 1 9 := ⟨eg_X8_flag_0.2.2.2.2.1, rfl⟩
theorem d_X8_flag_9 : decode (zcc m_X8_flag) 9 = .ok (.ireturn, 1) := eg_X8_flag_0.2.2.2.2.2
set_option maxRecDepth 20000 in
theorem eg_X8_less_0 : decode (zcc m_X8_less) 0 = .ok (.iload_n 0, 1) ∧ decode (zcc m_X8_less) 1 = .ok (.iload_n 1, 1) ∧ decode (zcc m_X8_less) 2 = .ok (.if_icmp .ge (7), 3) ∧ decode (zcc m_X8_less) 5 = .ok (.iload_n 0, 1) ∧ decode (zcc m_X8_less) 6 = .ok (.goto (4), 3) ∧ decode (zcc m_X8_less) 9 = .ok (.iload_n 1, 1) ∧ decode (zcc m_X8_less) 10 = .ok (.ireturn, 1) := by decide +kernel
theorem d_X8_less_0 : zD m_X8_less 0 (.iload_n 0) 1 1 := ⟨eg_X8_less_0.1, rfl⟩
theorem d_X8_less_1 : zD m_X8_less 1 (.iload_n 1) 1 2 := ⟨eg_X8_less_0.2.1, rfl⟩
theorem d_X8_less_2 : zDj m_X8_less 2 (.if_icmp .ge) 5 9 := ⟨7, eg_X8_less_0.2.2.1, rfl, by decide⟩
theorem d_X8_less_5 : zD m_X8_less 5 (.iload_n 0) 1 6 := ⟨eg_X8_less_0.2.2.2.1, rfl⟩
theorem d_X8_less_6 : zDj m_X8_less 6 (.goto) 9 10 := ⟨4, eg_X8_less_0.2.2.2.2.1, rfl, by decide⟩
theorem d_X8_less_9 : zD m_X8_less 9 (.iload_n 1) 1 10 := ⟨eg_X8_less_0.2.2.2.2.2.1, rfl⟩
theorem d_X8_less_10 : decode (zcc m_X8_less) 10 = .ok (.ireturn, 1) := eg_X8_less_0.2.2.2.2.2.2
set_option maxRecDepth 20000 in
theorem eg_X8_firstDraft_0 : decode (zcc m_X8_firstDraft) 0 = .ok (.iconst 0, 1) ∧ decode (zcc m_X8_firstDraft) 1 = .ok (.istore_n 1, 1) ∧ decode (zcc m_X8_firstDraft) 2 = .ok (.iload_n 1, 1) ∧ decode (zcc m_X8_firstDraft) 3 = .ok (.bipush 48, 2) ∧ decode (zcc m_X8_firstDraft) 5 = .ok (.if_icmp .ge (30), 3) ∧ decode (zcc m_X8_firstDraft) 8 = .ok (.aload_n 0, 1) ∧ decode (zcc m_X8_firstDraft) 9 = .ok (.getfield 36, 3) ∧ decode (zcc m_X8_firstDraft) 12 = .ok (.iload_n 1, 1) := by decide +kernel
set_option maxRecDepth 20000 in
theorem eg_X8_firstDraft_8 : decode (zcc m_X8_firstDraft) 13 = .ok (.iconst 0, 1) ∧ decode (zcc m_X8_firstDraft) 14 = .ok (.iastore, 1) ∧ decode (zcc m_X8_firstDraft) 15 = .ok (.aload_n 0, 1) ∧ decode (zcc m_X8_firstDraft) 16 = .ok (.getfield 39, 3) ∧ decode (zcc m_X8_firstDraft) 19 = .ok (.iload_n 1, 1) ∧ decode (zcc m_X8_firstDraft) 20 = .ok (.iconst 0, 1) ∧ decode (zcc m_X8_firstDraft) 21 = .ok (.iastore, 1) ∧ decode (zcc m_X8_firstDraft) 22 = .ok (.aload_n 0, 1) := by decide +kernel
set_option maxRecDepth 20000 in
theorem eg_X8_firstDraft_16 : decode (zcc m_X8_firstDraft) 23 = .ok (.getfield 42, 3) ∧ decode (zcc m_X8_firstDraft) 26 = .ok (.iload_n 1, 1) ∧ decode (zcc m_X8_firstDraft) 27 = .ok (.iconst 0, 1) ∧ decode (zcc m_X8_firstDraft) 28 = .ok (.iastore, 1) ∧ decode (zcc m_X8_firstDraft) 29 = .ok (.iinc 1 1, 3) ∧ decode (zcc m_X8_firstDraft) 32 = .ok (.goto (-30), 3) ∧ decode (zcc m_X8_firstDraft) 35 = .ok (.iconst 0, 1) ∧ decode (zcc m_X8_firstDraft) 36 = .ok (.istore_n 1, 1) := by decide +kernel
set_option maxRecDepth 20000 in
theorem eg_X8_firstDraft_24 : decode (zcc m_X8_firstDraft) 37 = .ok (.iload_n 1, 1) ∧ decode (zcc m_X8_firstDraft) 38 = .ok (.bipush 7, 2) ∧ decode (zcc m_X8_firstDraft) 40 = .ok (.if_icmp .ge (50), 3) ∧ decode (zcc m_X8_firstDraft) 43 = .ok (.aload_n 0, 1) ∧ decode (zcc m_X8_firstDraft) 44 = .ok (.getfield 33, 3) ∧ decode (zcc m_X8_firstDraft) 47 = .ok (.iload_n 1, 1) ∧ decode (zcc m_X8_firstDraft) 48 = .ok (.iload_n 1, 1) ∧ decode (zcc m_X8_firstDraft) 49 = .ok (.ifCond .ne (9), 3) := by decide +kernel
set_option maxRecDepth 20000 in
theorem eg_X8_firstDraft_32 : decode (zcc m_X8_firstDraft) 52 = .ok (.sipush 200, 3) ∧ decode (zcc m_X8_firstDraft) 55 = .ok (.goto (28), 3) ∧ decode (zcc m_X8_firstDraft) 58 = .ok (.iload_n 1, 1) ∧ decode (zcc m_X8_firstDraft) 59 = .ok (.iconst 4, 1) ∧ decode (zcc m_X8_firstDraft) 60 = .ok (.if_icmp .eq (8), 3) ∧ decode (zcc m_X8_firstDraft) 63 = .ok (.iload_n 1, 1) ∧ decode (zcc m_X8_firstDraft) 64 = .ok (.iconst 5, 1) ∧ decode (zcc m_X8_firstDraft) 65 = .ok (.if_icmp .ne (7), 3) := by decide +kernel
set_option maxRecDepth 20000 in
theorem eg_X8_firstDraft_40 : decode (zcc m_X8_firstDraft) 68 = .ok (.iconst 1, 1) ∧ decode (zcc m_X8_firstDraft) 69 = .ok (.goto (14), 3) ∧ decode (zcc m_X8_firstDraft) 72 = .ok (.iload_n 1, 1) ∧ decode (zcc m_X8_firstDraft) 73 = .ok (.bipush 6, 2) ∧ decode (zcc m_X8_firstDraft) 75 = .ok (.if_icmp .ne (7), 3) ∧ decode (zcc m_X8_firstDraft) 78 = .ok (.iconst 3, 1) ∧ decode (zcc m_X8_firstDraft) 79 = .ok (.goto (4), 3) ∧ decode (zcc m_X8_firstDraft) 82 = .ok (.iconst 0, 1) := by decide +kernel
set_option maxRecDepth 20000 in
theorem eg_X8_firstDraft_48 : decode (zcc m_X8_firstDraft) 83 = .ok (.iastore, 1) ∧ decode (zcc m_X8_firstDraft) 84 = .ok (.iinc 1 1, 3) ∧ decode (zcc m_X8_firstDraft) 87 = .ok (.goto (-50), 3) ∧ decode (zcc m_X8_firstDraft) 90 = .ok (.aload_n 0, 1) ∧ decode (zcc m_X8_firstDraft) 91 = .ok (.iconst 0, 1) ∧ decode (zcc m_X8_firstDraft) 92 = .ok (.putfield 78, 3) ∧ decode (zcc m_X8_firstDraft) 95 = .ok (.aload_n 0, 1) ∧ decode (zcc m_X8_firstDraft) 96 = .ok (.iconst 0, 1) := by decide +kernel
set_option maxRecDepth 20000 in
theorem eg_X8_firstDraft_56 : decode (zcc m_X8_firstDraft) 97 = .ok (.putfield 82, 3) ∧ decode (zcc m_X8_firstDraft) 100 = .ok (.aload_n 0, 1) ∧ decode (zcc m_X8_firstDraft) 101 = .ok (.iconst 0, 1) ∧ decode (zcc m_X8_firstDraft) 102 = .ok (.putfield 85, 3) ∧ decode (zcc m_X8_firstDraft) 105 = .ok (.return_, 1) := by decide +kernel
theorem d_X8_firstDraft_0 : zD m_X8_firstDraft 0 (.iconst 0) 1 1 := ⟨eg_X8_firstDraft_0.1, rfl⟩
theorem d_X8_firstDraft_1 : zD m_X8_firstDraft 1 (.istore_n 1) 1 2 := ⟨eg_X8_firstDraft_0.2.1, rfl⟩
theorem d_X8_firstDraft_2 : zD m_X8_firstDraft 2 (.iload_n 1) 1 3 := ⟨eg_X8_firstDraft_0.2.2.1, rfl⟩
theorem d_X8_firstDraft_3 : zD m_X8_firstDraft 3 (.bipush 48) 2 5 := ⟨eg_X8_firstDraft_0.2.2.2.1, rfl⟩
theorem d_X8_firstDraft_5 : zDj m_X8_firstDraft 5 (.if_icmp .ge) 8 35 := ⟨30, eg_X8_firstDraft_0.2.2.2.2.1, rfl, by decide⟩
theorem d_X8_firstDraft_8 : zD m_X8_firstDraft 8 (.aload_n 0) 1 9 := ⟨eg_X8_firstDraft_0.2.2.2.2.2.1, rfl⟩
theorem d_X8_firstDraft_9 : zD m_X8_firstDraft 9 (.getfield 36) 3 12 := ⟨eg_X8_firstDraft_0.2.2.2.2.2.2.1, rfl⟩
theorem d_X8_firstDraft_12 : zD m_X8_firstDraft 12 (.iload_n 1) 1 13 := ⟨eg_X8_firstDraft_0.2.2.2.2.2.2.2, rfl⟩
theorem d_X8_firstDraft_13 : zD m_X8_firstDraft 13 (.iconst 0) 1 14 := ⟨eg_X8_firstDraft_8.1, rfl⟩
theorem d_X8_firstDraft_14 : zD m_X8_firstDraft 14 (.iastore) 1 15 := ⟨eg_X8_firstDraft_8.2.1, rfl⟩
theorem d_X8_firstDraft_15 : zD m_X8_firstDraft 15 (.aload_n 0) 1 16 := ⟨eg_X8_firstDraft_8.2.2.1, rfl⟩
theorem d_X8_firstDraft_16 : zD m_X8_firstDraft 16 (.getfield 39) 3 19 := ⟨eg_X8_firstDraft_8.2.2.2.1, rfl⟩
theorem d_X8_firstDraft_19 : zD m_X8_firstDraft 19 (.iload_n 1) 1 20 := ⟨eg_X8_firstDraft_8.2.2.2.2.1, rfl⟩
theorem d_X8_firstDraft_20 : zD m_X8_firstDraft 20 (.iconst 0) 1 21 := ⟨eg_X8_firstDraft_8.2.2.2.2.2.1, rfl⟩
theorem d_X8_firstDraft_21 : zD m_X8_firstDraft 21 (.iastore) 1 22 := ⟨eg_X8_firstDraft_8.2.2.2.2.2.2.1, rfl⟩
theorem d_X8_firstDraft_22 : zD m_X8_firstDraft 22 (.aload_n 0) 1 23 := ⟨eg_X8_firstDraft_8.2.2.2.2.2.2.2, rfl⟩
theorem d_X8_firstDraft_23 : zD m_X8_firstDraft 23 (.getfield 42) 3 26 := ⟨eg_X8_firstDraft_16.1, rfl⟩
theorem d_X8_firstDraft_26 : zD m_X8_firstDraft 26 (.iload_n 1) 1 27 := ⟨eg_X8_firstDraft_16.2.1, rfl⟩
theorem d_X8_firstDraft_27 : zD m_X8_firstDraft 27 (.iconst 0) 1 28 := ⟨eg_X8_firstDraft_16.2.2.1, rfl⟩
theorem d_X8_firstDraft_28 : zD m_X8_firstDraft 28 (.iastore) 1 29 := ⟨eg_X8_firstDraft_16.2.2.2.1, rfl⟩
theorem d_X8_firstDraft_29 : zD m_X8_firstDraft 29 (.iinc 1 1) 3 32 := ⟨eg_X8_firstDraft_16.2.2.2.2.1, rfl⟩
theorem d_X8_firstDraft_32 : zDj m_X8_firstDraft 32 (.goto) 35 2 := ⟨-30, eg_X8_firstDraft_16.2.2.2.2.2.1, rfl, by decide⟩
theorem d_X8_firstDraft_35 : zD m_X8_firstDraft 35 (.iconst 0) 1 36 := ⟨eg_X8_firstDraft_16.2.2.2.2.2.2.1, rfl⟩
theorem d_X8_firstDraft_36 : zD m_X8_firstDraft 36 (.istore_n 1) 1 37 := ⟨eg_X8_firstDraft_16.2.2.2.2.2.2.2, rfl⟩
theorem d_X8_firstDraft_37 : zD m_X8_firstDraft 37 (.iload_n 1) 1 38 := ⟨eg_X8_firstDraft_24.1, rfl⟩
theorem d_X8_firstDraft_38 : zD m_X8_firstDraft 38 (.bipush 7) 2 40 := ⟨eg_X8_firstDraft_24.2.1, rfl⟩
theorem d_X8_firstDraft_40 : zDj m_X8_firstDraft 40 (.if_icmp .ge) 43 90 := ⟨50, eg_X8_firstDraft_24.2.2.1, rfl, by decide⟩
theorem d_X8_firstDraft_43 : zD m_X8_firstDraft 43 (.aload_n 0) 1 44 := ⟨eg_X8_firstDraft_24.2.2.2.1, rfl⟩
theorem d_X8_firstDraft_44 : zD m_X8_firstDraft 44 (.getfield 33) 3 47 := ⟨eg_X8_firstDraft_24.2.2.2.2.1, rfl⟩
theorem d_X8_firstDraft_47 : zD m_X8_firstDraft 47 (.iload_n 1) 1 48 := ⟨eg_X8_firstDraft_24.2.2.2.2.2.1, rfl⟩
theorem d_X8_firstDraft_48 : zD m_X8_firstDraft 48 (.iload_n 1) 1 49 := ⟨eg_X8_firstDraft_24.2.2.2.2.2.2.1, rfl⟩
theorem d_X8_firstDraft_49 : zDj m_X8_firstDraft 49 (.ifCond .ne) 52 58 := ⟨9, eg_X8_firstDraft_24.2.2.2.2.2.2.2, rfl, by decide⟩
theorem d_X8_firstDraft_52 : zD m_X8_firstDraft 52 (.sipush 200) 3 55 := ⟨eg_X8_firstDraft_32.1, rfl⟩
theorem d_X8_firstDraft_55 : zDj m_X8_firstDraft 55 (.goto) 58 83 := ⟨28, eg_X8_firstDraft_32.2.1, rfl, by decide⟩
theorem d_X8_firstDraft_58 : zD m_X8_firstDraft 58 (.iload_n 1) 1 59 := ⟨eg_X8_firstDraft_32.2.2.1, rfl⟩
theorem d_X8_firstDraft_59 : zD m_X8_firstDraft 59 (.iconst 4) 1 60 := ⟨eg_X8_firstDraft_32.2.2.2.1, rfl⟩
theorem d_X8_firstDraft_60 : zDj m_X8_firstDraft 60 (.if_icmp .eq) 63 68 := ⟨8, eg_X8_firstDraft_32.2.2.2.2.1, rfl, by decide⟩
theorem d_X8_firstDraft_63 : zD m_X8_firstDraft 63 (.iload_n 1) 1 64 := ⟨eg_X8_firstDraft_32.2.2.2.2.2.1, rfl⟩
theorem d_X8_firstDraft_64 : zD m_X8_firstDraft 64 (.iconst 5) 1 65 := ⟨eg_X8_firstDraft_32.2.2.2.2.2.2.1, rfl⟩
theorem d_X8_firstDraft_65 : zDj m_X8_firstDraft 65 (.if_icmp .ne) 68 72 := ⟨7, eg_X8_firstDraft_32.2.2.2.2.2.2.2, rfl, by decide⟩
theorem d_X8_firstDraft_68 : zD m_X8_firstDraft 68 (.iconst 1) 1 69 := ⟨eg_X8_firstDraft_40.1, rfl⟩
theorem d_X8_firstDraft_69 : zDj m_X8_firstDraft 69 (.goto) 72 83 := ⟨14, eg_X8_firstDraft_40.2.1, rfl, by decide⟩
theorem d_X8_firstDraft_72 : zD m_X8_firstDraft 72 (.iload_n 1) 1 73 := ⟨eg_X8_firstDraft_40.2.2.1, rfl⟩
theorem d_X8_firstDraft_73 : zD m_X8_firstDraft 73 (.bipush 6) 2 75 := ⟨eg_X8_firstDraft_40.2.2.2.1, rfl⟩
theorem d_X8_firstDraft_75 : zDj m_X8_firstDraft 75 (.if_icmp .ne) 78 82 := ⟨7, eg_X8_firstDraft_40.2.2.2.2.1, rfl, by decide⟩
theorem d_X8_firstDraft_78 : zD m_X8_firstDraft 78 (.iconst 3) 1 79 := ⟨eg_X8_firstDraft_40.2.2.2.2.2.1, rfl⟩
theorem d_X8_firstDraft_79 : zDj m_X8_firstDraft 79 (.goto) 82 83 := ⟨4, eg_X8_firstDraft_40.2.2.2.2.2.2.1, rfl, by decide⟩
theorem d_X8_firstDraft_82 : zD m_X8_firstDraft 82 (.iconst 0) 1 83 := ⟨eg_X8_firstDraft_40.2.2.2.2.2.2.2, rfl⟩
theorem d_X8_firstDraft_83 : zD m_X8_firstDraft 83 (.iastore) 1 84 := ⟨eg_X8_firstDraft_48.1, rfl⟩
theorem d_X8_firstDraft_84 : zD m_X8_firstDraft 84 (.iinc 1 1) 3 87 := ⟨eg_X8_firstDraft_48.2.1, rfl⟩
theorem d_X8_firstDraft_87 : zDj m_X8_firstDraft 87 (.goto) 90 37 := ⟨-50, eg_X8_firstDraft_48.2.2.1, rfl, by decide⟩
theorem d_X8_firstDraft_90 : zD m_X8_firstDraft 90 (.aload_n 0) 1 91 := ⟨eg_X8_firstDraft_48.2.2.2.1, rfl⟩
theorem d_X8_firstDraft_91 : zD m_X8_firstDraft 91 (.iconst 0) 1 92 := ⟨eg_X8_firstDraft_48.2.2.2.2.1, rfl⟩
theorem d_X8_firstDraft_92 : zD m_X8_firstDraft 92 (.putfield 78) 3 95 := ⟨eg_X8_firstDraft_48.2.2.2.2.2.1, rfl⟩
theorem d_X8_firstDraft_95 : zD m_X8_firstDraft 95 (.aload_n 0) 1 96 := ⟨eg_X8_firstDraft_48.2.2.2.2.2.2.1, rfl⟩
theorem d_X8_firstDraft_96 : zD m_X8_firstDraft 96 (.iconst 0) 1 97 := ⟨eg_X8_firstDraft_48.2.2.2.2.2.2.2, rfl⟩
theorem d_X8_firstDraft_97 : zD m_X8_firstDraft 97 (.putfield 82) 3 100 := ⟨eg_X8_firstDraft_56.1, rfl⟩
theorem d_X8_firstDraft_100 : zD m_X8_firstDraft 100 (.aload_n 0) 1 101 := ⟨eg_X8_firstDraft_56.2.1, rfl⟩
theorem d_X8_firstDraft_101 : zD m_X8_firstDraft 101 (.iconst 0) 1 102 := ⟨eg_X8_firstDraft_56.2.2.1, rfl⟩
theorem d_X8_firstDraft_102 : zD m_X8_firstDraft 102 (.putfield 85) 3 105 := ⟨eg_X8_firstDraft_56.2.2.2.1, rfl⟩
theorem d_X8_firstDraft_105 : decode (zcc m_X8_firstDraft) 105 = .ok (.return_, 1) := eg_X8_firstDraft_56.2.2.2.2
set_option maxRecDepth 20000 in
theorem eg_X8_keepDraft_0 : decode (zcc m_X8_keepDraft) 0 = .ok (.iconst 0, 1) ∧ decode (zcc m_X8_keepDraft) 1 = .ok (.istore_n 1, 1) ∧ decode (zcc m_X8_keepDraft) 2 = .ok (.iload_n 1, 1) ∧ decode (zcc m_X8_keepDraft) 3 = .ok (.sipush 160, 3) ∧ decode (zcc m_X8_keepDraft) 6 = .ok (.if_icmp .ge (42), 3) ∧ decode (zcc m_X8_keepDraft) 9 = .ok (.aload_n 0, 1) ∧ decode (zcc m_X8_keepDraft) 10 = .ok (.getfield 7, 3) ∧ decode (zcc m_X8_keepDraft) 13 = .ok (.iload_n 1, 1) := by decide +kernel
set_option maxRecDepth 20000 in
theorem eg_X8_keepDraft_8 : decode (zcc m_X8_keepDraft) 14 = .ok (.iload_n 1, 1) ∧ decode (zcc m_X8_keepDraft) 15 = .ok (.i2l, 1) ∧ decode (zcc m_X8_keepDraft) 16 = .ok (.ldc2_w 88, 3) ∧ decode (zcc m_X8_keepDraft) 19 = .ok (.ldc2_w 90, 3) ∧ decode (zcc m_X8_keepDraft) 22 = .ok (.invokestatic 92, 3) ∧ decode (zcc m_X8_keepDraft) 25 = .ok (.ifCond .eq (15), 3) ∧ decode (zcc m_X8_keepDraft) 28 = .ok (.aload_n 0, 1) ∧ decode (zcc m_X8_keepDraft) 29 = .ok (.getfield 36, 3) := by decide +kernel
set_option maxRecDepth 20000 in
theorem eg_X8_keepDraft_16 : decode (zcc m_X8_keepDraft) 32 = .ok (.iload_n 1, 1) ∧ decode (zcc m_X8_keepDraft) 33 = .ok (.bipush 104, 2) ∧ decode (zcc m_X8_keepDraft) 35 = .ok (.isub, 1) ∧ decode (zcc m_X8_keepDraft) 36 = .ok (.iaload, 1) ∧ decode (zcc m_X8_keepDraft) 37 = .ok (.goto (4), 3) ∧ decode (zcc m_X8_keepDraft) 40 = .ok (.iconst 0, 1) ∧ decode (zcc m_X8_keepDraft) 41 = .ok (.iastore, 1) ∧ decode (zcc m_X8_keepDraft) 42 = .ok (.iinc 1 1, 3) := by decide +kernel
set_option maxRecDepth 20000 in
theorem eg_X8_keepDraft_24 : decode (zcc m_X8_keepDraft) 45 = .ok (.goto (-43), 3) ∧ decode (zcc m_X8_keepDraft) 48 = .ok (.aload_n 0, 1) ∧ decode (zcc m_X8_keepDraft) 49 = .ok (.invokevirtual 96, 3) ∧ decode (zcc m_X8_keepDraft) 52 = .ok (.iconst 0, 1) ∧ decode (zcc m_X8_keepDraft) 53 = .ok (.istore_n 1, 1) ∧ decode (zcc m_X8_keepDraft) 54 = .ok (.iload_n 1, 1) ∧ decode (zcc m_X8_keepDraft) 55 = .ok (.bipush 48, 2) ∧ decode (zcc m_X8_keepDraft) 57 = .ok (.if_icmp .ge (33), 3) := by decide +kernel
set_option maxRecDepth 20000 in
theorem eg_X8_keepDraft_32 : decode (zcc m_X8_keepDraft) 60 = .ok (.aload_n 0, 1) ∧ decode (zcc m_X8_keepDraft) 61 = .ok (.getfield 24, 3) ∧ decode (zcc m_X8_keepDraft) 64 = .ok (.iload_n 1, 1) ∧ decode (zcc m_X8_keepDraft) 65 = .ok (.aload_n 0, 1) ∧ decode (zcc m_X8_keepDraft) 66 = .ok (.getfield 39, 3) ∧ decode (zcc m_X8_keepDraft) 69 = .ok (.iload_n 1, 1) ∧ decode (zcc m_X8_keepDraft) 70 = .ok (.iaload, 1) ∧ decode (zcc m_X8_keepDraft) 71 = .ok (.iastore, 1) := by decide +kernel
set_option maxRecDepth 20000 in
theorem eg_X8_keepDraft_40 : decode (zcc m_X8_keepDraft) 72 = .ok (.aload_n 0, 1) ∧ decode (zcc m_X8_keepDraft) 73 = .ok (.getfield 27, 3) ∧ decode (zcc m_X8_keepDraft) 76 = .ok (.iload_n 1, 1) ∧ decode (zcc m_X8_keepDraft) 77 = .ok (.aload_n 0, 1) ∧ decode (zcc m_X8_keepDraft) 78 = .ok (.getfield 42, 3) ∧ decode (zcc m_X8_keepDraft) 81 = .ok (.iload_n 1, 1) ∧ decode (zcc m_X8_keepDraft) 82 = .ok (.iaload, 1) ∧ decode (zcc m_X8_keepDraft) 83 = .ok (.iastore, 1) := by decide +kernel
set_option maxRecDepth 20000 in
theorem eg_X8_keepDraft_48 : decode (zcc m_X8_keepDraft) 84 = .ok (.iinc 1 1, 3) ∧ decode (zcc m_X8_keepDraft) 87 = .ok (.goto (-33), 3) ∧ decode (zcc m_X8_keepDraft) 90 = .ok (.iconst 0, 1) ∧ decode (zcc m_X8_keepDraft) 91 = .ok (.istore_n 1, 1) ∧ decode (zcc m_X8_keepDraft) 92 = .ok (.iload_n 1, 1) ∧ decode (zcc m_X8_keepDraft) 93 = .ok (.bipush 7, 2) ∧ decode (zcc m_X8_keepDraft) 95 = .ok (.if_icmp .ge (21), 3) ∧ decode (zcc m_X8_keepDraft) 98 = .ok (.aload_n 0, 1) := by decide +kernel
set_option maxRecDepth 20000 in
theorem eg_X8_keepDraft_56 : decode (zcc m_X8_keepDraft) 99 = .ok (.getfield 21, 3) ∧ decode (zcc m_X8_keepDraft) 102 = .ok (.iload_n 1, 1) ∧ decode (zcc m_X8_keepDraft) 103 = .ok (.aload_n 0, 1) ∧ decode (zcc m_X8_keepDraft) 104 = .ok (.getfield 33, 3) ∧ decode (zcc m_X8_keepDraft) 107 = .ok (.iload_n 1, 1) ∧ decode (zcc m_X8_keepDraft) 108 = .ok (.iaload, 1) ∧ decode (zcc m_X8_keepDraft) 109 = .ok (.iastore, 1) ∧ decode (zcc m_X8_keepDraft) 110 = .ok (.iinc 1 1, 3) := by decide +kernel
set_option maxRecDepth 20000 in
theorem eg_X8_keepDraft_64 : decode (zcc m_X8_keepDraft) 113 = .ok (.goto (-21), 3) ∧ decode (zcc m_X8_keepDraft) 116 = .ok (.aload_n 0, 1) ∧ decode (zcc m_X8_keepDraft) 117 = .ok (.aload_n 0, 1) ∧ decode (zcc m_X8_keepDraft) 118 = .ok (.getfield 78, 3) ∧ decode (zcc m_X8_keepDraft) 121 = .ok (.putfield 99, 3) ∧ decode (zcc m_X8_keepDraft) 124 = .ok (.iconst 0, 1) ∧ decode (zcc m_X8_keepDraft) 125 = .ok (.istore_n 1, 1) ∧ decode (zcc m_X8_keepDraft) 126 = .ok (.iload_n 1, 1) := by decide +kernel
set_option maxRecDepth 20000 in
theorem eg_X8_keepDraft_72 : decode (zcc m_X8_keepDraft) 127 = .ok (.bipush 12, 2) ∧ decode (zcc m_X8_keepDraft) 129 = .ok (.if_icmp .ge (21), 3) ∧ decode (zcc m_X8_keepDraft) 132 = .ok (.aload_n 0, 1) ∧ decode (zcc m_X8_keepDraft) 133 = .ok (.getfield 30, 3) ∧ decode (zcc m_X8_keepDraft) 136 = .ok (.iload_n 1, 1) ∧ decode (zcc m_X8_keepDraft) 137 = .ok (.aload_n 0, 1) ∧ decode (zcc m_X8_keepDraft) 138 = .ok (.getfield 45, 3) ∧ decode (zcc m_X8_keepDraft) 141 = .ok (.iload_n 1, 1) := by decide +kernel
set_option maxRecDepth 20000 in
theorem eg_X8_keepDraft_80 : decode (zcc m_X8_keepDraft) 142 = .ok (.iaload, 1) ∧ decode (zcc m_X8_keepDraft) 143 = .ok (.iastore, 1) ∧ decode (zcc m_X8_keepDraft) 144 = .ok (.iinc 1 1, 3) ∧ decode (zcc m_X8_keepDraft) 147 = .ok (.goto (-21), 3) ∧ decode (zcc m_X8_keepDraft) 150 = .ok (.aload_n 0, 1) ∧ decode (zcc m_X8_keepDraft) 151 = .ok (.getfield 17, 3) ∧ decode (zcc m_X8_keepDraft) 154 = .ok (.iconst 0, 1) ∧ decode (zcc m_X8_keepDraft) 155 = .ok (.iconst 0, 1) := by decide +kernel
set_option maxRecDepth 20000 in
theorem eg_X8_keepDraft_88 : decode (zcc m_X8_keepDraft) 156 = .ok (.bastore, 1) ∧ decode (zcc m_X8_keepDraft) 157 = .ok (.aload_n 0, 1) ∧ decode (zcc m_X8_keepDraft) 158 = .ok (.getfield 17, 3) ∧ decode (zcc m_X8_keepDraft) 161 = .ok (.iconst 1, 1) ∧ decode (zcc m_X8_keepDraft) 162 = .ok (.iconst 0, 1) ∧ decode (zcc m_X8_keepDraft) 163 = .ok (.bastore, 1) ∧ decode (zcc m_X8_keepDraft) 164 = .ok (.return_, 1) := by decide +kernel
theorem d_X8_keepDraft_0 : zD m_X8_keepDraft 0 (.iconst 0) 1 1 := ⟨eg_X8_keepDraft_0.1, rfl⟩
theorem d_X8_keepDraft_1 : zD m_X8_keepDraft 1 (.istore_n 1) 1 2 := ⟨eg_X8_keepDraft_0.2.1, rfl⟩
theorem d_X8_keepDraft_2 : zD m_X8_keepDraft 2 (.iload_n 1) 1 3 := ⟨eg_X8_keepDraft_0.2.2.1, rfl⟩
theorem d_X8_keepDraft_3 : zD m_X8_keepDraft 3 (.sipush 160) 3 6 := ⟨eg_X8_keepDraft_0.2.2.2.1, rfl⟩
theorem d_X8_keepDraft_6 : zDj m_X8_keepDraft 6 (.if_icmp .ge) 9 48 := ⟨42, eg_X8_keepDraft_0.2.2.2.2.1, rfl, by decide⟩
theorem d_X8_keepDraft_9 : zD m_X8_keepDraft 9 (.aload_n 0) 1 10 := ⟨eg_X8_keepDraft_0.2.2.2.2.2.1, rfl⟩
theorem d_X8_keepDraft_10 : zD m_X8_keepDraft 10 (.getfield 7) 3 13 := ⟨eg_X8_keepDraft_0.2.2.2.2.2.2.1, rfl⟩
theorem d_X8_keepDraft_13 : zD m_X8_keepDraft 13 (.iload_n 1) 1 14 := ⟨eg_X8_keepDraft_0.2.2.2.2.2.2.2, rfl⟩
theorem d_X8_keepDraft_14 : zD m_X8_keepDraft 14 (.iload_n 1) 1 15 := ⟨eg_X8_keepDraft_8.1, rfl⟩
theorem d_X8_keepDraft_15 : zD m_X8_keepDraft 15 (.i2l) 1 16 := ⟨eg_X8_keepDraft_8.2.1, rfl⟩
theorem d_X8_keepDraft_16 : zD m_X8_keepDraft 16 (.ldc2_w 88) 3 19 := ⟨eg_X8_keepDraft_8.2.2.1, rfl⟩
theorem d_X8_keepDraft_19 : zD m_X8_keepDraft 19 (.ldc2_w 90) 3 22 := ⟨eg_X8_keepDraft_8.2.2.2.1, rfl⟩
theorem d_X8_keepDraft_22 : zD m_X8_keepDraft 22 (.invokestatic 92) 3 25 := ⟨eg_X8_keepDraft_8.2.2.2.2.1, rfl⟩
theorem d_X8_keepDraft_25 : zDj m_X8_keepDraft 25 (.ifCond .eq) 28 40 := ⟨15, eg_X8_keepDraft_8.2.2.2.2.2.1, rfl, by decide⟩
theorem d_X8_keepDraft_28 : zD m_X8_keepDraft 28 (.aload_n 0) 1 29 := ⟨eg_X8_keepDraft_8.2.2.2.2.2.2.1, rfl⟩
theorem d_X8_keepDraft_29 : zD m_X8_keepDraft 29 (.getfield 36) 3 32 := ⟨eg_X8_keepDraft_8.2.2.2.2.2.2.2, rfl⟩
theorem d_X8_keepDraft_32 : zD m_X8_keepDraft 32 (.iload_n 1) 1 33 := ⟨eg_X8_keepDraft_16.1, rfl⟩
theorem d_X8_keepDraft_33 : zD m_X8_keepDraft 33 (.bipush 104) 2 35 := ⟨eg_X8_keepDraft_16.2.1, rfl⟩
theorem d_X8_keepDraft_35 : zD m_X8_keepDraft 35 (.isub) 1 36 := ⟨eg_X8_keepDraft_16.2.2.1, rfl⟩
theorem d_X8_keepDraft_36 : zD m_X8_keepDraft 36 (.iaload) 1 37 := ⟨eg_X8_keepDraft_16.2.2.2.1, rfl⟩
theorem d_X8_keepDraft_37 : zDj m_X8_keepDraft 37 (.goto) 40 41 := ⟨4, eg_X8_keepDraft_16.2.2.2.2.1, rfl, by decide⟩
theorem d_X8_keepDraft_40 : zD m_X8_keepDraft 40 (.iconst 0) 1 41 := ⟨eg_X8_keepDraft_16.2.2.2.2.2.1, rfl⟩
theorem d_X8_keepDraft_41 : zD m_X8_keepDraft 41 (.iastore) 1 42 := ⟨eg_X8_keepDraft_16.2.2.2.2.2.2.1, rfl⟩
theorem d_X8_keepDraft_42 : zD m_X8_keepDraft 42 (.iinc 1 1) 3 45 := ⟨eg_X8_keepDraft_16.2.2.2.2.2.2.2, rfl⟩
theorem d_X8_keepDraft_45 : zDj m_X8_keepDraft 45 (.goto) 48 2 := ⟨-43, eg_X8_keepDraft_24.1, rfl, by decide⟩
theorem d_X8_keepDraft_48 : zD m_X8_keepDraft 48 (.aload_n 0) 1 49 := ⟨eg_X8_keepDraft_24.2.1, rfl⟩
theorem d_X8_keepDraft_49 : zD m_X8_keepDraft 49 (.invokevirtual 96) 3 52 := ⟨eg_X8_keepDraft_24.2.2.1, rfl⟩
theorem d_X8_keepDraft_52 : zD m_X8_keepDraft 52 (.iconst 0) 1 53 := ⟨eg_X8_keepDraft_24.2.2.2.1, rfl⟩
theorem d_X8_keepDraft_53 : zD m_X8_keepDraft 53 (.istore_n 1) 1 54 := ⟨eg_X8_keepDraft_24.2.2.2.2.1, rfl⟩
theorem d_X8_keepDraft_54 : zD m_X8_keepDraft 54 (.iload_n 1) 1 55 := ⟨eg_X8_keepDraft_24.2.2.2.2.2.1, rfl⟩
theorem d_X8_keepDraft_55 : zD m_X8_keepDraft 55 (.bipush 48) 2 57 := ⟨eg_X8_keepDraft_24.2.2.2.2.2.2.1, rfl⟩
theorem d_X8_keepDraft_57 : zDj m_X8_keepDraft 57 (.if_icmp .ge) 60 90 := ⟨33, eg_X8_keepDraft_24.2.2.2.2.2.2.2, rfl, by decide⟩
theorem d_X8_keepDraft_60 : zD m_X8_keepDraft 60 (.aload_n 0) 1 61 := ⟨eg_X8_keepDraft_32.1, rfl⟩
theorem d_X8_keepDraft_61 : zD m_X8_keepDraft 61 (.getfield 24) 3 64 := ⟨eg_X8_keepDraft_32.2.1, rfl⟩
theorem d_X8_keepDraft_64 : zD m_X8_keepDraft 64 (.iload_n 1) 1 65 := ⟨eg_X8_keepDraft_32.2.2.1, rfl⟩
theorem d_X8_keepDraft_65 : zD m_X8_keepDraft 65 (.aload_n 0) 1 66 := ⟨eg_X8_keepDraft_32.2.2.2.1, rfl⟩
theorem d_X8_keepDraft_66 : zD m_X8_keepDraft 66 (.getfield 39) 3 69 := ⟨eg_X8_keepDraft_32.2.2.2.2.1, rfl⟩
theorem d_X8_keepDraft_69 : zD m_X8_keepDraft 69 (.iload_n 1) 1 70 := ⟨eg_X8_keepDraft_32.2.2.2.2.2.1, rfl⟩
theorem d_X8_keepDraft_70 : zD m_X8_keepDraft 70 (.iaload) 1 71 := ⟨eg_X8_keepDraft_32.2.2.2.2.2.2.1, rfl⟩
theorem d_X8_keepDraft_71 : zD m_X8_keepDraft 71 (.iastore) 1 72 := ⟨eg_X8_keepDraft_32.2.2.2.2.2.2.2, rfl⟩
theorem d_X8_keepDraft_72 : zD m_X8_keepDraft 72 (.aload_n 0) 1 73 := ⟨eg_X8_keepDraft_40.1, rfl⟩
theorem d_X8_keepDraft_73 : zD m_X8_keepDraft 73 (.getfield 27) 3 76 := ⟨eg_X8_keepDraft_40.2.1, rfl⟩
theorem d_X8_keepDraft_76 : zD m_X8_keepDraft 76 (.iload_n 1) 1 77 := ⟨eg_X8_keepDraft_40.2.2.1, rfl⟩
theorem d_X8_keepDraft_77 : zD m_X8_keepDraft 77 (.aload_n 0) 1 78 := ⟨eg_X8_keepDraft_40.2.2.2.1, rfl⟩
theorem d_X8_keepDraft_78 : zD m_X8_keepDraft 78 (.getfield 42) 3 81 := ⟨eg_X8_keepDraft_40.2.2.2.2.1, rfl⟩
theorem d_X8_keepDraft_81 : zD m_X8_keepDraft 81 (.iload_n 1) 1 82 := ⟨eg_X8_keepDraft_40.2.2.2.2.2.1, rfl⟩
theorem d_X8_keepDraft_82 : zD m_X8_keepDraft 82 (.iaload) 1 83 := ⟨eg_X8_keepDraft_40.2.2.2.2.2.2.1, rfl⟩
theorem d_X8_keepDraft_83 : zD m_X8_keepDraft 83 (.iastore) 1 84 := ⟨eg_X8_keepDraft_40.2.2.2.2.2.2.2, rfl⟩
theorem d_X8_keepDraft_84 : zD m_X8_keepDraft 84 (.iinc 1 1) 3 87 := ⟨eg_X8_keepDraft_48.1, rfl⟩
theorem d_X8_keepDraft_87 : zDj m_X8_keepDraft 87 (.goto) 90 54 := ⟨-33, eg_X8_keepDraft_48.2.1, rfl, by decide⟩
theorem d_X8_keepDraft_90 : zD m_X8_keepDraft 90 (.iconst 0) 1 91 := ⟨eg_X8_keepDraft_48.2.2.1, rfl⟩
theorem d_X8_keepDraft_91 : zD m_X8_keepDraft 91 (.istore_n 1) 1 92 := ⟨eg_X8_keepDraft_48.2.2.2.1, rfl⟩
theorem d_X8_keepDraft_92 : zD m_X8_keepDraft 92 (.iload_n 1) 1 93 := ⟨eg_X8_keepDraft_48.2.2.2.2.1, rfl⟩
theorem d_X8_keepDraft_93 : zD m_X8_keepDraft 93 (.bipush 7) 2 95 := ⟨eg_X8_keepDraft_48.2.2.2.2.2.1, rfl⟩
theorem d_X8_keepDraft_95 : zDj m_X8_keepDraft 95 (.if_icmp .ge) 98 116 := ⟨21, eg_X8_keepDraft_48.2.2.2.2.2.2.1, rfl, by decide⟩
theorem d_X8_keepDraft_98 : zD m_X8_keepDraft 98 (.aload_n 0) 1 99 := ⟨eg_X8_keepDraft_48.2.2.2.2.2.2.2, rfl⟩
theorem d_X8_keepDraft_99 : zD m_X8_keepDraft 99 (.getfield 21) 3 102 := ⟨eg_X8_keepDraft_56.1, rfl⟩
theorem d_X8_keepDraft_102 : zD m_X8_keepDraft 102 (.iload_n 1) 1 103 := ⟨eg_X8_keepDraft_56.2.1, rfl⟩
theorem d_X8_keepDraft_103 : zD m_X8_keepDraft 103 (.aload_n 0) 1 104 := ⟨eg_X8_keepDraft_56.2.2.1, rfl⟩
theorem d_X8_keepDraft_104 : zD m_X8_keepDraft 104 (.getfield 33) 3 107 := ⟨eg_X8_keepDraft_56.2.2.2.1, rfl⟩
theorem d_X8_keepDraft_107 : zD m_X8_keepDraft 107 (.iload_n 1) 1 108 := ⟨eg_X8_keepDraft_56.2.2.2.2.1, rfl⟩
theorem d_X8_keepDraft_108 : zD m_X8_keepDraft 108 (.iaload) 1 109 := ⟨eg_X8_keepDraft_56.2.2.2.2.2.1, rfl⟩
theorem d_X8_keepDraft_109 : zD m_X8_keepDraft 109 (.iastore) 1 110 := ⟨eg_X8_keepDraft_56.2.2.2.2.2.2.1, rfl⟩
theorem d_X8_keepDraft_110 : zD m_X8_keepDraft 110 (.iinc 1 1) 3 113 := ⟨eg_X8_keepDraft_56.2.2.2.2.2.2.2, rfl⟩
theorem d_X8_keepDraft_113 : zDj m_X8_keepDraft 113 (.goto) 116 92 := ⟨-21, eg_X8_keepDraft_64.1, rfl, by decide⟩
theorem d_X8_keepDraft_116 : zD m_X8_keepDraft 116 (.aload_n 0) 1 117 := ⟨eg_X8_keepDraft_64.2.1, rfl⟩
theorem d_X8_keepDraft_117 : zD m_X8_keepDraft 117 (.aload_n 0) 1 118 := ⟨eg_X8_keepDraft_64.2.2.1, rfl⟩
theorem d_X8_keepDraft_118 : zD m_X8_keepDraft 118 (.getfield 78) 3 121 := ⟨eg_X8_keepDraft_64.2.2.2.1, rfl⟩
theorem d_X8_keepDraft_121 : zD m_X8_keepDraft 121 (.putfield 99) 3 124 := ⟨eg_X8_keepDraft_64.2.2.2.2.1, rfl⟩
theorem d_X8_keepDraft_124 : zD m_X8_keepDraft 124 (.iconst 0) 1 125 := ⟨eg_X8_keepDraft_64.2.2.2.2.2.1, rfl⟩
theorem d_X8_keepDraft_125 : zD m_X8_keepDraft 125 (.istore_n 1) 1 126 := ⟨eg_X8_keepDraft_64.2.2.2.2.2.2.1, rfl⟩
theorem d_X8_keepDraft_126 : zD m_X8_keepDraft 126 (.iload_n 1) 1 127 := ⟨eg_X8_keepDraft_64.2.2.2.2.2.2.2, rfl⟩
theorem d_X8_keepDraft_127 : zD m_X8_keepDraft 127 (.bipush 12) 2 129 := ⟨eg_X8_keepDraft_72.1, rfl⟩
theorem d_X8_keepDraft_129 : zDj m_X8_keepDraft 129 (.if_icmp .ge) 132 150 := ⟨21, eg_X8_keepDraft_72.2.1, rfl, by decide⟩
theorem d_X8_keepDraft_132 : zD m_X8_keepDraft 132 (.aload_n 0) 1 133 := ⟨eg_X8_keepDraft_72.2.2.1, rfl⟩
theorem d_X8_keepDraft_133 : zD m_X8_keepDraft 133 (.getfield 30) 3 136 := ⟨eg_X8_keepDraft_72.2.2.2.1, rfl⟩
theorem d_X8_keepDraft_136 : zD m_X8_keepDraft 136 (.iload_n 1) 1 137 := ⟨eg_X8_keepDraft_72.2.2.2.2.1, rfl⟩
theorem d_X8_keepDraft_137 : zD m_X8_keepDraft 137 (.aload_n 0) 1 138 := ⟨eg_X8_keepDraft_72.2.2.2.2.2.1, rfl⟩
theorem d_X8_keepDraft_138 : zD m_X8_keepDraft 138 (.getfield 45) 3 141 := ⟨eg_X8_keepDraft_72.2.2.2.2.2.2.1, rfl⟩
theorem d_X8_keepDraft_141 : zD m_X8_keepDraft 141 (.iload_n 1) 1 142 := ⟨eg_X8_keepDraft_72.2.2.2.2.2.2.2, rfl⟩
theorem d_X8_keepDraft_142 : zD m_X8_keepDraft 142 (.iaload) 1 143 := ⟨eg_X8_keepDraft_80.1, rfl⟩
theorem d_X8_keepDraft_143 : zD m_X8_keepDraft 143 (.iastore) 1 144 := ⟨eg_X8_keepDraft_80.2.1, rfl⟩
theorem d_X8_keepDraft_144 : zD m_X8_keepDraft 144 (.iinc 1 1) 3 147 := ⟨eg_X8_keepDraft_80.2.2.1, rfl⟩
theorem d_X8_keepDraft_147 : zDj m_X8_keepDraft 147 (.goto) 150 126 := ⟨-21, eg_X8_keepDraft_80.2.2.2.1, rfl, by decide⟩
theorem d_X8_keepDraft_150 : zD m_X8_keepDraft 150 (.aload_n 0) 1 151 := ⟨eg_X8_keepDraft_80.2.2.2.2.1, rfl⟩
theorem d_X8_keepDraft_151 : zD m_X8_keepDraft 151 (.getfield 17) 3 154 := ⟨eg_X8_keepDraft_80.2.2.2.2.2.1, rfl⟩
theorem d_X8_keepDraft_154 : zD m_X8_keepDraft 154 (.iconst 0) 1 155 := ⟨eg_X8_keepDraft_80.2.2.2.2.2.2.1, rfl⟩
theorem d_X8_keepDraft_155 : zD m_X8_keepDraft 155 (.iconst 0) 1 156 := ⟨eg_X8_keepDraft_80.2.2.2.2.2.2.2, rfl⟩
theorem d_X8_keepDraft_156 : zD m_X8_keepDraft 156 (.bastore) 1 157 := ⟨eg_X8_keepDraft_88.1, rfl⟩
theorem d_X8_keepDraft_157 : zD m_X8_keepDraft 157 (.aload_n 0) 1 158 := ⟨eg_X8_keepDraft_88.2.1, rfl⟩
theorem d_X8_keepDraft_158 : zD m_X8_keepDraft 158 (.getfield 17) 3 161 := ⟨eg_X8_keepDraft_88.2.2.1, rfl⟩
theorem d_X8_keepDraft_161 : zD m_X8_keepDraft 161 (.iconst 1) 1 162 := ⟨eg_X8_keepDraft_88.2.2.2.1, rfl⟩
theorem d_X8_keepDraft_162 : zD m_X8_keepDraft 162 (.iconst 0) 1 163 := ⟨eg_X8_keepDraft_88.2.2.2.2.1, rfl⟩
theorem d_X8_keepDraft_163 : zD m_X8_keepDraft 163 (.bastore) 1 164 := ⟨eg_X8_keepDraft_88.2.2.2.2.2.1, rfl⟩
theorem d_X8_keepDraft_164 : decode (zcc m_X8_keepDraft) 164 = .ok (.return_, 1) := eg_X8_keepDraft_88.2.2.2.2.2.2
set_option maxRecDepth 20000 in
theorem eg_X8_feed_0 : decode (zcc m_X8_feed) 0 = .ok (.aload_n 0, 1) ∧ decode (zcc m_X8_feed) 1 = .ok (.getfield 102, 3) ∧ decode (zcc m_X8_feed) 4 = .ok (.bipush 8, 2) ∧ decode (zcc m_X8_feed) 6 = .ok (.iadd, 1) ∧ decode (zcc m_X8_feed) 7 = .ok (.sipush 400, 3) ∧ decode (zcc m_X8_feed) 10 = .ok (.if_icmp .le (6), 3) ∧ decode (zcc m_X8_feed) 13 = .ok (.bipush (-3), 2) ∧ decode (zcc m_X8_feed) 15 = .ok (.ireturn, 1) := by decide +kernel
set_option maxRecDepth 20000 in
theorem eg_X8_feed_8 : decode (zcc m_X8_feed) 16 = .ok (.bipush 56, 2) ∧ decode (zcc m_X8_feed) 18 = .ok (.istore_n 3, 1) ∧ decode (zcc m_X8_feed) 19 = .ok (.iload_n 3, 1) ∧ decode (zcc m_X8_feed) 20 = .ok (.ifCond .lt (36), 3) ∧ decode (zcc m_X8_feed) 23 = .ok (.aload_n 0, 1) ∧ decode (zcc m_X8_feed) 24 = .ok (.getfield 48, 3) ∧ decode (zcc m_X8_feed) 27 = .ok (.aload_n 0, 1) ∧ decode (zcc m_X8_feed) 28 = .ok (.getfield 102, 3) := by decide +kernel
set_option maxRecDepth 20000 in
theorem eg_X8_feed_16 : decode (zcc m_X8_feed) 31 = .ok (.lload_n 1, 1) ∧ decode (zcc m_X8_feed) 32 = .ok (.iload_n 3, 1) ∧ decode (zcc m_X8_feed) 33 = .ok (.lshr, 1) ∧ decode (zcc m_X8_feed) 34 = .ok (.ldc2_w 105, 3) ∧ decode (zcc m_X8_feed) 37 = .ok (.land, 1) ∧ decode (zcc m_X8_feed) 38 = .ok (.l2i, 1) ∧ decode (zcc m_X8_feed) 39 = .ok (.iastore, 1) ∧ decode (zcc m_X8_feed) 40 = .ok (.aload_n 0, 1) := by decide +kernel
set_option maxRecDepth 20000 in
theorem eg_X8_feed_24 : decode (zcc m_X8_feed) 41 = .ok (.dup, 1) ∧ decode (zcc m_X8_feed) 42 = .ok (.getfield 102, 3) ∧ decode (zcc m_X8_feed) 45 = .ok (.iconst 1, 1) ∧ decode (zcc m_X8_feed) 46 = .ok (.iadd, 1) ∧ decode (zcc m_X8_feed) 47 = .ok (.putfield 102, 3) ∧ decode (zcc m_X8_feed) 50 = .ok (.iinc 3 (-8), 3) ∧ decode (zcc m_X8_feed) 53 = .ok (.goto (-34), 3) ∧ decode (zcc m_X8_feed) 56 = .ok (.aload_n 0, 1) := by decide +kernel
set_option maxRecDepth 20000 in
theorem eg_X8_feed_32 : decode (zcc m_X8_feed) 57 = .ok (.getfield 102, 3) ∧ decode (zcc m_X8_feed) 60 = .ok (.ireturn, 1) := by decide +kernel
theorem d_X8_feed_0 : zD m_X8_feed 0 (.aload_n 0) 1 1 := ⟨eg_X8_feed_0.1, rfl⟩
theorem d_X8_feed_1 : zD m_X8_feed 1 (.getfield 102) 3 4 := ⟨eg_X8_feed_0.2.1, rfl⟩
theorem d_X8_feed_4 : zD m_X8_feed 4 (.bipush 8) 2 6 := ⟨eg_X8_feed_0.2.2.1, rfl⟩
theorem d_X8_feed_6 : zD m_X8_feed 6 (.iadd) 1 7 := ⟨eg_X8_feed_0.2.2.2.1, rfl⟩
theorem d_X8_feed_7 : zD m_X8_feed 7 (.sipush 400) 3 10 := ⟨eg_X8_feed_0.2.2.2.2.1, rfl⟩
theorem d_X8_feed_10 : zDj m_X8_feed 10 (.if_icmp .le) 13 16 := ⟨6, eg_X8_feed_0.2.2.2.2.2.1, rfl, by decide⟩
theorem d_X8_feed_13 : zD m_X8_feed 13 (.bipush (-3)) 2 15 := ⟨eg_X8_feed_0.2.2.2.2.2.2.1, rfl⟩
theorem d_X8_feed_15 : decode (zcc m_X8_feed) 15 = .ok (.ireturn, 1) := eg_X8_feed_0.2.2.2.2.2.2.2
theorem d_X8_feed_16 : zD m_X8_feed 16 (.bipush 56) 2 18 := ⟨eg_X8_feed_8.1, rfl⟩
theorem d_X8_feed_18 : zD m_X8_feed 18 (.istore_n 3) 1 19 := ⟨eg_X8_feed_8.2.1, rfl⟩
theorem d_X8_feed_19 : zD m_X8_feed 19 (.iload_n 3) 1 20 := ⟨eg_X8_feed_8.2.2.1, rfl⟩
theorem d_X8_feed_20 : zDj m_X8_feed 20 (.ifCond .lt) 23 56 := ⟨36, eg_X8_feed_8.2.2.2.1, rfl, by decide⟩
theorem d_X8_feed_23 : zD m_X8_feed 23 (.aload_n 0) 1 24 := ⟨eg_X8_feed_8.2.2.2.2.1, rfl⟩
theorem d_X8_feed_24 : zD m_X8_feed 24 (.getfield 48) 3 27 := ⟨eg_X8_feed_8.2.2.2.2.2.1, rfl⟩
theorem d_X8_feed_27 : zD m_X8_feed 27 (.aload_n 0) 1 28 := ⟨eg_X8_feed_8.2.2.2.2.2.2.1, rfl⟩
theorem d_X8_feed_28 : zD m_X8_feed 28 (.getfield 102) 3 31 := ⟨eg_X8_feed_8.2.2.2.2.2.2.2, rfl⟩
theorem d_X8_feed_31 : zD m_X8_feed 31 (.lload_n 1) 1 32 := ⟨eg_X8_feed_16.1, rfl⟩
theorem d_X8_feed_32 : zD m_X8_feed 32 (.iload_n 3) 1 33 := ⟨eg_X8_feed_16.2.1, rfl⟩
theorem d_X8_feed_33 : zD m_X8_feed 33 (.lshr) 1 34 := ⟨eg_X8_feed_16.2.2.1, rfl⟩
theorem d_X8_feed_34 : zD m_X8_feed 34 (.ldc2_w 105) 3 37 := ⟨eg_X8_feed_16.2.2.2.1, rfl⟩
theorem d_X8_feed_37 : zD m_X8_feed 37 (.land) 1 38 := ⟨eg_X8_feed_16.2.2.2.2.1, rfl⟩
theorem d_X8_feed_38 : zD m_X8_feed 38 (.l2i) 1 39 := ⟨eg_X8_feed_16.2.2.2.2.2.1, rfl⟩
theorem d_X8_feed_39 : zD m_X8_feed 39 (.iastore) 1 40 := ⟨eg_X8_feed_16.2.2.2.2.2.2.1, rfl⟩
theorem d_X8_feed_40 : zD m_X8_feed 40 (.aload_n 0) 1 41 := ⟨eg_X8_feed_16.2.2.2.2.2.2.2, rfl⟩
theorem d_X8_feed_41 : zD m_X8_feed 41 (.dup) 1 42 := ⟨eg_X8_feed_24.1, rfl⟩
theorem d_X8_feed_42 : zD m_X8_feed 42 (.getfield 102) 3 45 := ⟨eg_X8_feed_24.2.1, rfl⟩
theorem d_X8_feed_45 : zD m_X8_feed 45 (.iconst 1) 1 46 := ⟨eg_X8_feed_24.2.2.1, rfl⟩
theorem d_X8_feed_46 : zD m_X8_feed 46 (.iadd) 1 47 := ⟨eg_X8_feed_24.2.2.2.1, rfl⟩
theorem d_X8_feed_47 : zD m_X8_feed 47 (.putfield 102) 3 50 := ⟨eg_X8_feed_24.2.2.2.2.1, rfl⟩
theorem d_X8_feed_50 : zD m_X8_feed 50 (.iinc 3 (-8)) 3 53 := ⟨eg_X8_feed_24.2.2.2.2.2.1, rfl⟩
theorem d_X8_feed_53 : zDj m_X8_feed 53 (.goto) 56 19 := ⟨-34, eg_X8_feed_24.2.2.2.2.2.2.1, rfl, by decide⟩
theorem d_X8_feed_56 : zD m_X8_feed 56 (.aload_n 0) 1 57 := ⟨eg_X8_feed_24.2.2.2.2.2.2.2, rfl⟩
theorem d_X8_feed_57 : zD m_X8_feed 57 (.getfield 102) 3 60 := ⟨eg_X8_feed_32.1, rfl⟩
theorem d_X8_feed_60 : decode (zcc m_X8_feed) 60 = .ok (.ireturn, 1) := eg_X8_feed_32.2
set_option maxRecDepth 20000 in
theorem eg_X8_end_0 : decode (zcc m_X8_end) 0 = .ok (.iload_n 1, 1) ∧ decode (zcc m_X8_end) 1 = .ok (.i2l, 1) ∧ decode (zcc m_X8_end) 2 = .ok (.lconst 0, 1) ∧ decode (zcc m_X8_end) 3 = .ok (.aload_n 0, 1) ∧ decode (zcc m_X8_end) 4 = .ok (.getfield 102, 3) ∧ decode (zcc m_X8_end) 7 = .ok (.i2l, 1) ∧ decode (zcc m_X8_end) 8 = .ok (.invokestatic 92, 3) ∧ decode (zcc m_X8_end) 11 = .ok (.ifCond .ne (5), 3) := by decide +kernel
set_option maxRecDepth 20000 in
theorem eg_X8_end_8 : decode (zcc m_X8_end) 14 = .ok (.iconst (-1), 1) ∧ decode (zcc m_X8_end) 15 = .ok (.ireturn, 1) ∧ decode (zcc m_X8_end) 16 = .ok (.aload_n 0, 1) ∧ decode (zcc m_X8_end) 17 = .ok (.getfield 102, 3) ∧ decode (zcc m_X8_end) 20 = .ok (.istore_n 2, 1) ∧ decode (zcc m_X8_end) 21 = .ok (.aload_n 0, 1) ∧ decode (zcc m_X8_end) 22 = .ok (.iload_n 1, 1) ∧ decode (zcc m_X8_end) 23 = .ok (.putfield 102, 3) := by decide +kernel
set_option maxRecDepth 20000 in
theorem eg_X8_end_16 : decode (zcc m_X8_end) 26 = .ok (.iload_n 2, 1) ∧ decode (zcc m_X8_end) 27 = .ok (.ireturn, 1) := by decide +kernel
theorem d_X8_end_0 : zD m_X8_end 0 (.iload_n 1) 1 1 := ⟨eg_X8_end_0.1, rfl⟩
theorem d_X8_end_1 : zD m_X8_end 1 (.i2l) 1 2 := ⟨eg_X8_end_0.2.1, rfl⟩
theorem d_X8_end_2 : zD m_X8_end 2 (.lconst 0) 1 3 := ⟨eg_X8_end_0.2.2.1, rfl⟩
theorem d_X8_end_3 : zD m_X8_end 3 (.aload_n 0) 1 4 := ⟨eg_X8_end_0.2.2.2.1, rfl⟩
theorem d_X8_end_4 : zD m_X8_end 4 (.getfield 102) 3 7 := ⟨eg_X8_end_0.2.2.2.2.1, rfl⟩
theorem d_X8_end_7 : zD m_X8_end 7 (.i2l) 1 8 := ⟨eg_X8_end_0.2.2.2.2.2.1, rfl⟩
theorem d_X8_end_8 : zD m_X8_end 8 (.invokestatic 92) 3 11 := ⟨eg_X8_end_0.2.2.2.2.2.2.1, rfl⟩
theorem d_X8_end_11 : zDj m_X8_end 11 (.ifCond .ne) 14 16 := ⟨5, eg_X8_end_0.2.2.2.2.2.2.2, rfl, by decide⟩
theorem d_X8_end_14 : zD m_X8_end 14 (.iconst (-1)) 1 15 := ⟨eg_X8_end_8.1, rfl⟩
theorem d_X8_end_15 : decode (zcc m_X8_end) 15 = .ok (.ireturn, 1) := eg_X8_end_8.2.1
theorem d_X8_end_16 : zD m_X8_end 16 (.aload_n 0) 1 17 := ⟨eg_X8_end_8.2.2.1, rfl⟩
theorem d_X8_end_17 : zD m_X8_end 17 (.getfield 102) 3 20 := ⟨eg_X8_end_8.2.2.2.1, rfl⟩
theorem d_X8_end_20 : zD m_X8_end 20 (.istore_n 2) 1 21 := ⟨eg_X8_end_8.2.2.2.2.1, rfl⟩
theorem d_X8_end_21 : zD m_X8_end 21 (.aload_n 0) 1 22 := ⟨eg_X8_end_8.2.2.2.2.2.1, rfl⟩
theorem d_X8_end_22 : zD m_X8_end 22 (.iload_n 1) 1 23 := ⟨eg_X8_end_8.2.2.2.2.2.2.1, rfl⟩
theorem d_X8_end_23 : zD m_X8_end 23 (.putfield 102) 3 26 := ⟨eg_X8_end_8.2.2.2.2.2.2.2, rfl⟩
theorem d_X8_end_26 : zD m_X8_end 26 (.iload_n 2) 1 27 := ⟨eg_X8_end_16.1, rfl⟩
theorem d_X8_end_27 : decode (zcc m_X8_end) 27 = .ok (.ireturn, 1) := eg_X8_end_16.2
set_option maxRecDepth 20000 in
theorem eg_X8_needs_0 : decode (zcc m_X8_needs) 0 = .ok (.iload_n 1, 1) ∧ decode (zcc m_X8_needs) 1 = .ok (.ifCond .ne (23), 3) ∧ decode (zcc m_X8_needs) 4 = .ok (.aload_n 0, 1) ∧ decode (zcc m_X8_needs) 5 = .ok (.getfield 107, 3) ∧ decode (zcc m_X8_needs) 8 = .ok (.ifCond .ne (16), 3) ∧ decode (zcc m_X8_needs) 11 = .ok (.aload_n 0, 1) ∧ decode (zcc m_X8_needs) 12 = .ok (.iload_n 2, 1) ∧ decode (zcc m_X8_needs) 13 = .ok (.putfield 107, 3) := by decide +kernel
set_option maxRecDepth 20000 in
theorem eg_X8_needs_8 : decode (zcc m_X8_needs) 16 = .ok (.aload_n 0, 1) ∧ decode (zcc m_X8_needs) 17 = .ok (.aload_n 0, 1) ∧ decode (zcc m_X8_needs) 18 = .ok (.getfield 110, 3) ∧ decode (zcc m_X8_needs) 21 = .ok (.putfield 113, 3) ∧ decode (zcc m_X8_needs) 24 = .ok (.return_, 1) := by decide +kernel
theorem d_X8_needs_0 : zD m_X8_needs 0 (.iload_n 1) 1 1 := ⟨eg_X8_needs_0.1, rfl⟩
theorem d_X8_needs_1 : zDj m_X8_needs 1 (.ifCond .ne) 4 24 := ⟨23, eg_X8_needs_0.2.1, rfl, by decide⟩
theorem d_X8_needs_4 : zD m_X8_needs 4 (.aload_n 0) 1 5 := ⟨eg_X8_needs_0.2.2.1, rfl⟩
theorem d_X8_needs_5 : zD m_X8_needs 5 (.getfield 107) 3 8 := ⟨eg_X8_needs_0.2.2.2.1, rfl⟩
theorem d_X8_needs_8 : zDj m_X8_needs 8 (.ifCond .ne) 11 24 := ⟨16, eg_X8_needs_0.2.2.2.2.1, rfl, by decide⟩
theorem d_X8_needs_11 : zD m_X8_needs 11 (.aload_n 0) 1 12 := ⟨eg_X8_needs_0.2.2.2.2.2.1, rfl⟩
theorem d_X8_needs_12 : zD m_X8_needs 12 (.iload_n 2) 1 13 := ⟨eg_X8_needs_0.2.2.2.2.2.2.1, rfl⟩
theorem d_X8_needs_13 : zD m_X8_needs 13 (.putfield 107) 3 16 := ⟨eg_X8_needs_0.2.2.2.2.2.2.2, rfl⟩
theorem d_X8_needs_16 : zD m_X8_needs 16 (.aload_n 0) 1 17 := ⟨eg_X8_needs_8.1, rfl⟩
theorem d_X8_needs_17 : zD m_X8_needs 17 (.aload_n 0) 1 18 := ⟨eg_X8_needs_8.2.1, rfl⟩
theorem d_X8_needs_18 : zD m_X8_needs 18 (.getfield 110) 3 21 := ⟨eg_X8_needs_8.2.2.1, rfl⟩
theorem d_X8_needs_21 : zD m_X8_needs 21 (.putfield 113) 3 24 := ⟨eg_X8_needs_8.2.2.2.1, rfl⟩
theorem d_X8_needs_24 : decode (zcc m_X8_needs) 24 = .ok (.return_, 1) := eg_X8_needs_8.2.2.2.2
set_option maxRecDepth 20000 in
theorem eg_X8_look_0 : decode (zcc m_X8_look) 0 = .ok (.iload_n 1, 1) ∧ decode (zcc m_X8_look) 1 = .ok (.aload_n 0, 1) ∧ decode (zcc m_X8_look) 2 = .ok (.getfield 102, 3) ∧ decode (zcc m_X8_look) 5 = .ok (.if_icmp .ge (12), 3) ∧ decode (zcc m_X8_look) 8 = .ok (.aload_n 0, 1) ∧ decode (zcc m_X8_look) 9 = .ok (.getfield 48, 3) ∧ decode (zcc m_X8_look) 12 = .ok (.iload_n 1, 1) ∧ decode (zcc m_X8_look) 13 = .ok (.iaload, 1) := by decide +kernel
set_option maxRecDepth 20000 in
theorem eg_X8_look_8 : decode (zcc m_X8_look) 14 = .ok (.goto (4), 3) ∧ decode (zcc m_X8_look) 17 = .ok (.iconst (-1), 1) ∧ decode (zcc m_X8_look) 18 = .ok (.ireturn, 1) := by decide +kernel
theorem d_X8_look_0 : zD m_X8_look 0 (.iload_n 1) 1 1 := ⟨eg_X8_look_0.1, rfl⟩
theorem d_X8_look_1 : zD m_X8_look 1 (.aload_n 0) 1 2 := ⟨eg_X8_look_0.2.1, rfl⟩
theorem d_X8_look_2 : zD m_X8_look 2 (.getfield 102) 3 5 := ⟨eg_X8_look_0.2.2.1, rfl⟩
theorem d_X8_look_5 : zDj m_X8_look 5 (.if_icmp .ge) 8 17 := ⟨12, eg_X8_look_0.2.2.2.1, rfl, by decide⟩
theorem d_X8_look_8 : zD m_X8_look 8 (.aload_n 0) 1 9 := ⟨eg_X8_look_0.2.2.2.2.1, rfl⟩
theorem d_X8_look_9 : zD m_X8_look 9 (.getfield 48) 3 12 := ⟨eg_X8_look_0.2.2.2.2.2.1, rfl⟩
theorem d_X8_look_12 : zD m_X8_look 12 (.iload_n 1) 1 13 := ⟨eg_X8_look_0.2.2.2.2.2.2.1, rfl⟩
theorem d_X8_look_13 : zD m_X8_look 13 (.iaload) 1 14 := ⟨eg_X8_look_0.2.2.2.2.2.2.2, rfl⟩
theorem d_X8_look_14 : zDj m_X8_look 14 (.goto) 17 18 := ⟨4, eg_X8_look_8.1, rfl, by decide⟩
theorem d_X8_look_17 : zD m_X8_look 17 (.iconst (-1)) 1 18 := ⟨eg_X8_look_8.2.1, rfl⟩
theorem d_X8_look_18 : decode (zcc m_X8_look) 18 = .ok (.ireturn, 1) := eg_X8_look_8.2.2
set_option maxRecDepth 20000 in
theorem eg_X8_is_0 : decode (zcc m_X8_is) 0 = .ok (.aload_n 0, 1) ∧ decode (zcc m_X8_is) 1 = .ok (.getfield 116, 3) ∧ decode (zcc m_X8_is) 4 = .ok (.aload_n 0, 1) ∧ decode (zcc m_X8_is) 5 = .ok (.getfield 110, 3) ∧ decode (zcc m_X8_is) 8 = .ok (.isub, 1) ∧ decode (zcc m_X8_is) 9 = .ok (.iload_n 1, 1) ∧ decode (zcc m_X8_is) 10 = .ok (.if_icmp .ne (68), 3) ∧ decode (zcc m_X8_is) 13 = .ok (.aload_n 0, 1) := by decide +kernel
set_option maxRecDepth 20000 in
theorem eg_X8_is_8 : decode (zcc m_X8_is) 14 = .ok (.aload_n 0, 1) ∧ decode (zcc m_X8_is) 15 = .ok (.getfield 110, 3) ∧ decode (zcc m_X8_is) 18 = .ok (.invokevirtual 119, 3) ∧ decode (zcc m_X8_is) 21 = .ok (.iload_n 2, 1) ∧ decode (zcc m_X8_is) 22 = .ok (.if_icmp .ne (56), 3) ∧ decode (zcc m_X8_is) 25 = .ok (.aload_n 0, 1) ∧ decode (zcc m_X8_is) 26 = .ok (.aload_n 0, 1) ∧ decode (zcc m_X8_is) 27 = .ok (.getfield 110, 3) := by decide +kernel
set_option maxRecDepth 20000 in
theorem eg_X8_is_16 : decode (zcc m_X8_is) 30 = .ok (.iconst 1, 1) ∧ decode (zcc m_X8_is) 31 = .ok (.iadd, 1) ∧ decode (zcc m_X8_is) 32 = .ok (.invokevirtual 119, 3) ∧ decode (zcc m_X8_is) 35 = .ok (.iload_n 3, 1) ∧ decode (zcc m_X8_is) 36 = .ok (.if_icmp .ne (42), 3) ∧ decode (zcc m_X8_is) 39 = .ok (.aload_n 0, 1) ∧ decode (zcc m_X8_is) 40 = .ok (.aload_n 0, 1) ∧ decode (zcc m_X8_is) 41 = .ok (.getfield 110, 3) := by decide +kernel
set_option maxRecDepth 20000 in
theorem eg_X8_is_24 : decode (zcc m_X8_is) 44 = .ok (.iconst 2, 1) ∧ decode (zcc m_X8_is) 45 = .ok (.iadd, 1) ∧ decode (zcc m_X8_is) 46 = .ok (.invokevirtual 119, 3) ∧ decode (zcc m_X8_is) 49 = .ok (.iload 4, 2) ∧ decode (zcc m_X8_is) 51 = .ok (.if_icmp .ne (27), 3) ∧ decode (zcc m_X8_is) 54 = .ok (.iload_n 1, 1) ∧ decode (zcc m_X8_is) 55 = .ok (.iconst 4, 1) ∧ decode (zcc m_X8_is) 56 = .ok (.if_icmp .lt (18), 3) := by decide +kernel
set_option maxRecDepth 20000 in
theorem eg_X8_is_32 : decode (zcc m_X8_is) 59 = .ok (.aload_n 0, 1) ∧ decode (zcc m_X8_is) 60 = .ok (.aload_n 0, 1) ∧ decode (zcc m_X8_is) 61 = .ok (.getfield 110, 3) ∧ decode (zcc m_X8_is) 64 = .ok (.iconst 3, 1) ∧ decode (zcc m_X8_is) 65 = .ok (.iadd, 1) ∧ decode (zcc m_X8_is) 66 = .ok (.invokevirtual 119, 3) ∧ decode (zcc m_X8_is) 69 = .ok (.iload 5, 2) ∧ decode (zcc m_X8_is) 71 = .ok (.if_icmp .ne (7), 3) := by decide +kernel
set_option maxRecDepth 20000 in
theorem eg_X8_is_40 : decode (zcc m_X8_is) 74 = .ok (.iconst 1, 1) ∧ decode (zcc m_X8_is) 75 = .ok (.goto (4), 3) ∧ decode (zcc m_X8_is) 78 = .ok (.iconst 0, 1) ∧ decode (zcc m_X8_is) 79 = .ok (.ireturn, 1) := by decide +kernel
theorem d_X8_is_0 : zD m_X8_is 0 (.aload_n 0) 1 1 := ⟨eg_X8_is_0.1, rfl⟩
theorem d_X8_is_1 : zD m_X8_is 1 (.getfield 116) 3 4 := ⟨eg_X8_is_0.2.1, rfl⟩
theorem d_X8_is_4 : zD m_X8_is 4 (.aload_n 0) 1 5 := ⟨eg_X8_is_0.2.2.1, rfl⟩
theorem d_X8_is_5 : zD m_X8_is 5 (.getfield 110) 3 8 := ⟨eg_X8_is_0.2.2.2.1, rfl⟩
theorem d_X8_is_8 : zD m_X8_is 8 (.isub) 1 9 := ⟨eg_X8_is_0.2.2.2.2.1, rfl⟩
theorem d_X8_is_9 : zD m_X8_is 9 (.iload_n 1) 1 10 := ⟨eg_X8_is_0.2.2.2.2.2.1, rfl⟩
theorem d_X8_is_10 : zDj m_X8_is 10 (.if_icmp .ne) 13 78 := ⟨68, eg_X8_is_0.2.2.2.2.2.2.1, rfl, by decide⟩
theorem d_X8_is_13 : zD m_X8_is 13 (.aload_n 0) 1 14 := ⟨eg_X8_is_0.2.2.2.2.2.2.2, rfl⟩
theorem d_X8_is_14 : zD m_X8_is 14 (.aload_n 0) 1 15 := ⟨eg_X8_is_8.1, rfl⟩
theorem d_X8_is_15 : zD m_X8_is 15 (.getfield 110) 3 18 := ⟨eg_X8_is_8.2.1, rfl⟩
theorem d_X8_is_18 : zD m_X8_is 18 (.invokevirtual 119) 3 21 := ⟨eg_X8_is_8.2.2.1, rfl⟩
theorem d_X8_is_21 : zD m_X8_is 21 (.iload_n 2) 1 22 := ⟨eg_X8_is_8.2.2.2.1, rfl⟩
theorem d_X8_is_22 : zDj m_X8_is 22 (.if_icmp .ne) 25 78 := ⟨56, eg_X8_is_8.2.2.2.2.1, rfl, by decide⟩
theorem d_X8_is_25 : zD m_X8_is 25 (.aload_n 0) 1 26 := ⟨eg_X8_is_8.2.2.2.2.2.1, rfl⟩
theorem d_X8_is_26 : zD m_X8_is 26 (.aload_n 0) 1 27 := ⟨eg_X8_is_8.2.2.2.2.2.2.1, rfl⟩
theorem d_X8_is_27 : zD m_X8_is 27 (.getfield 110) 3 30 := ⟨eg_X8_is_8.2.2.2.2.2.2.2, rfl⟩
theorem d_X8_is_30 : zD m_X8_is 30 (.iconst 1) 1 31 := ⟨eg_X8_is_16.1, rfl⟩
theorem d_X8_is_31 : zD m_X8_is 31 (.iadd) 1 32 := ⟨eg_X8_is_16.2.1, rfl⟩
theorem d_X8_is_32 : zD m_X8_is 32 (.invokevirtual 119) 3 35 := ⟨eg_X8_is_16.2.2.1, rfl⟩
theorem d_X8_is_35 : zD m_X8_is 35 (.iload_n 3) 1 36 := ⟨eg_X8_is_16.2.2.2.1, rfl⟩
theorem d_X8_is_36 : zDj m_X8_is 36 (.if_icmp .ne) 39 78 := ⟨42, eg_X8_is_16.2.2.2.2.1, rfl, by decide⟩
theorem d_X8_is_39 : zD m_X8_is 39 (.aload_n 0) 1 40 := ⟨eg_X8_is_16.2.2.2.2.2.1, rfl⟩
theorem d_X8_is_40 : zD m_X8_is 40 (.aload_n 0) 1 41 := ⟨eg_X8_is_16.2.2.2.2.2.2.1, rfl⟩
theorem d_X8_is_41 : zD m_X8_is 41 (.getfield 110) 3 44 := ⟨eg_X8_is_16.2.2.2.2.2.2.2, rfl⟩
theorem d_X8_is_44 : zD m_X8_is 44 (.iconst 2) 1 45 := ⟨eg_X8_is_24.1, rfl⟩
theorem d_X8_is_45 : zD m_X8_is 45 (.iadd) 1 46 := ⟨eg_X8_is_24.2.1, rfl⟩
theorem d_X8_is_46 : zD m_X8_is 46 (.invokevirtual 119) 3 49 := ⟨eg_X8_is_24.2.2.1, rfl⟩
theorem d_X8_is_49 : zD m_X8_is 49 (.iload 4) 2 51 := ⟨eg_X8_is_24.2.2.2.1, rfl⟩
theorem d_X8_is_51 : zDj m_X8_is 51 (.if_icmp .ne) 54 78 := ⟨27, eg_X8_is_24.2.2.2.2.1, rfl, by decide⟩
theorem d_X8_is_54 : zD m_X8_is 54 (.iload_n 1) 1 55 := ⟨eg_X8_is_24.2.2.2.2.2.1, rfl⟩
theorem d_X8_is_55 : zD m_X8_is 55 (.iconst 4) 1 56 := ⟨eg_X8_is_24.2.2.2.2.2.2.1, rfl⟩
theorem d_X8_is_56 : zDj m_X8_is 56 (.if_icmp .lt) 59 74 := ⟨18, eg_X8_is_24.2.2.2.2.2.2.2, rfl, by decide⟩
theorem d_X8_is_59 : zD m_X8_is 59 (.aload_n 0) 1 60 := ⟨eg_X8_is_32.1, rfl⟩
theorem d_X8_is_60 : zD m_X8_is 60 (.aload_n 0) 1 61 := ⟨eg_X8_is_32.2.1, rfl⟩
theorem d_X8_is_61 : zD m_X8_is 61 (.getfield 110) 3 64 := ⟨eg_X8_is_32.2.2.1, rfl⟩
theorem d_X8_is_64 : zD m_X8_is 64 (.iconst 3) 1 65 := ⟨eg_X8_is_32.2.2.2.1, rfl⟩
theorem d_X8_is_65 : zD m_X8_is 65 (.iadd) 1 66 := ⟨eg_X8_is_32.2.2.2.2.1, rfl⟩
theorem d_X8_is_66 : zD m_X8_is 66 (.invokevirtual 119) 3 69 := ⟨eg_X8_is_32.2.2.2.2.2.1, rfl⟩
theorem d_X8_is_69 : zD m_X8_is 69 (.iload 5) 2 71 := ⟨eg_X8_is_32.2.2.2.2.2.2.1, rfl⟩
theorem d_X8_is_71 : zDj m_X8_is 71 (.if_icmp .ne) 74 78 := ⟨7, eg_X8_is_32.2.2.2.2.2.2.2, rfl, by decide⟩
theorem d_X8_is_74 : zD m_X8_is 74 (.iconst 1) 1 75 := ⟨eg_X8_is_40.1, rfl⟩
theorem d_X8_is_75 : zDj m_X8_is 75 (.goto) 78 79 := ⟨4, eg_X8_is_40.2.1, rfl, by decide⟩
theorem d_X8_is_78 : zD m_X8_is 78 (.iconst 0) 1 79 := ⟨eg_X8_is_40.2.2.1, rfl⟩
theorem d_X8_is_79 : decode (zcc m_X8_is) 79 = .ok (.ireturn, 1) := eg_X8_is_40.2.2.2
set_option maxRecDepth 20000 in
theorem eg_X8_nameNow_0 : decode (zcc m_X8_nameNow) 0 = .ok (.aload_n 0, 1) ∧ decode (zcc m_X8_nameNow) 1 = .ok (.iconst 3, 1) ∧ decode (zcc m_X8_nameNow) 2 = .ok (.bipush 114, 2) ∧ decode (zcc m_X8_nameNow) 4 = .ok (.bipush 111, 2) ∧ decode (zcc m_X8_nameNow) 6 = .ok (.bipush 119, 2) ∧ decode (zcc m_X8_nameNow) 8 = .ok (.iconst 0, 1) ∧ decode (zcc m_X8_nameNow) 9 = .ok (.invokevirtual 123, 3) ∧ decode (zcc m_X8_nameNow) 12 = .ok (.ifCond .eq (5), 3) := by decide +kernel
set_option maxRecDepth 20000 in
theorem eg_X8_nameNow_8 : decode (zcc m_X8_nameNow) 15 = .ok (.iconst 0, 1) ∧ decode (zcc m_X8_nameNow) 16 = .ok (.ireturn, 1) ∧ decode (zcc m_X8_nameNow) 17 = .ok (.aload_n 0, 1) ∧ decode (zcc m_X8_nameNow) 18 = .ok (.iconst 3, 1) ∧ decode (zcc m_X8_nameNow) 19 = .ok (.bipush 104, 2) ∧ decode (zcc m_X8_nameNow) 21 = .ok (.bipush 111, 2) ∧ decode (zcc m_X8_nameNow) 23 = .ok (.bipush 116, 2) ∧ decode (zcc m_X8_nameNow) 25 = .ok (.iconst 0, 1) := by decide +kernel
set_option maxRecDepth 20000 in
theorem eg_X8_nameNow_16 : decode (zcc m_X8_nameNow) 26 = .ok (.invokevirtual 123, 3) ∧ decode (zcc m_X8_nameNow) 29 = .ok (.ifCond .eq (5), 3) ∧ decode (zcc m_X8_nameNow) 32 = .ok (.iconst 1, 1) ∧ decode (zcc m_X8_nameNow) 33 = .ok (.ireturn, 1) ∧ decode (zcc m_X8_nameNow) 34 = .ok (.aload_n 0, 1) ∧ decode (zcc m_X8_nameNow) 35 = .ok (.iconst 4, 1) ∧ decode (zcc m_X8_nameNow) 36 = .ok (.bipush 116, 2) ∧ decode (zcc m_X8_nameNow) 38 = .ok (.bipush 114, 2) := by decide +kernel
set_option maxRecDepth 20000 in
theorem eg_X8_nameNow_24 : decode (zcc m_X8_nameNow) 40 = .ok (.bipush 97, 2) ∧ decode (zcc m_X8_nameNow) 42 = .ok (.bipush 112, 2) ∧ decode (zcc m_X8_nameNow) 44 = .ok (.invokevirtual 123, 3) ∧ decode (zcc m_X8_nameNow) 47 = .ok (.ifCond .eq (5), 3) ∧ decode (zcc m_X8_nameNow) 50 = .ok (.iconst 2, 1) ∧ decode (zcc m_X8_nameNow) 51 = .ok (.ireturn, 1) ∧ decode (zcc m_X8_nameNow) 52 = .ok (.aload_n 0, 1) ∧ decode (zcc m_X8_nameNow) 53 = .ok (.iconst 3, 1) := by decide +kernel
set_option maxRecDepth 20000 in
theorem eg_X8_nameNow_32 : decode (zcc m_X8_nameNow) 54 = .ok (.bipush 99, 2) ∧ decode (zcc m_X8_nameNow) 56 = .ok (.bipush 97, 2) ∧ decode (zcc m_X8_nameNow) 58 = .ok (.bipush 112, 2) ∧ decode (zcc m_X8_nameNow) 60 = .ok (.iconst 0, 1) ∧ decode (zcc m_X8_nameNow) 61 = .ok (.invokevirtual 123, 3) ∧ decode (zcc m_X8_nameNow) 64 = .ok (.ifCond .eq (5), 3) ∧ decode (zcc m_X8_nameNow) 67 = .ok (.iconst 3, 1) ∧ decode (zcc m_X8_nameNow) 68 = .ok (.ireturn, 1) := by decide +kernel
set_option maxRecDepth 20000 in
theorem eg_X8_nameNow_40 : decode (zcc m_X8_nameNow) 69 = .ok (.aload_n 0, 1) ∧ decode (zcc m_X8_nameNow) 70 = .ok (.iconst 4, 1) ∧ decode (zcc m_X8_nameNow) 71 = .ok (.bipush 100, 2) ∧ decode (zcc m_X8_nameNow) 73 = .ok (.bipush 97, 2) ∧ decode (zcc m_X8_nameNow) 75 = .ok (.bipush 114, 2) ∧ decode (zcc m_X8_nameNow) 77 = .ok (.bipush 107, 2) ∧ decode (zcc m_X8_nameNow) 79 = .ok (.invokevirtual 123, 3) ∧ decode (zcc m_X8_nameNow) 82 = .ok (.ifCond .eq (5), 3) := by decide +kernel
set_option maxRecDepth 20000 in
theorem eg_X8_nameNow_48 : decode (zcc m_X8_nameNow) 85 = .ok (.iconst 4, 1) ∧ decode (zcc m_X8_nameNow) 86 = .ok (.ireturn, 1) ∧ decode (zcc m_X8_nameNow) 87 = .ok (.aload_n 0, 1) ∧ decode (zcc m_X8_nameNow) 88 = .ok (.iconst 5, 1) ∧ decode (zcc m_X8_nameNow) 89 = .ok (.bipush 100, 2) ∧ decode (zcc m_X8_nameNow) 91 = .ok (.bipush 114, 2) ∧ decode (zcc m_X8_nameNow) 93 = .ok (.bipush 97, 2) ∧ decode (zcc m_X8_nameNow) 95 = .ok (.bipush 105, 2) := by decide +kernel
set_option maxRecDepth 20000 in
theorem eg_X8_nameNow_56 : decode (zcc m_X8_nameNow) 97 = .ok (.invokevirtual 123, 3) ∧ decode (zcc m_X8_nameNow) 100 = .ok (.ifCond .eq (20), 3) ∧ decode (zcc m_X8_nameNow) 103 = .ok (.aload_n 0, 1) ∧ decode (zcc m_X8_nameNow) 104 = .ok (.aload_n 0, 1) ∧ decode (zcc m_X8_nameNow) 105 = .ok (.getfield 110, 3) ∧ decode (zcc m_X8_nameNow) 108 = .ok (.iconst 4, 1) ∧ decode (zcc m_X8_nameNow) 109 = .ok (.iadd, 1) ∧ decode (zcc m_X8_nameNow) 110 = .ok (.invokevirtual 119, 3) := by decide +kernel
set_option maxRecDepth 20000 in
theorem eg_X8_nameNow_64 : decode (zcc m_X8_nameNow) 113 = .ok (.bipush 110, 2) ∧ decode (zcc m_X8_nameNow) 115 = .ok (.if_icmp .ne (5), 3) ∧ decode (zcc m_X8_nameNow) 118 = .ok (.iconst 5, 1) ∧ decode (zcc m_X8_nameNow) 119 = .ok (.ireturn, 1) ∧ decode (zcc m_X8_nameNow) 120 = .ok (.aload_n 0, 1) ∧ decode (zcc m_X8_nameNow) 121 = .ok (.iconst 5, 1) ∧ decode (zcc m_X8_nameNow) 122 = .ok (.bipush 115, 2) ∧ decode (zcc m_X8_nameNow) 124 = .ok (.bipush 109, 2) := by decide +kernel
set_option maxRecDepth 20000 in
theorem eg_X8_nameNow_72 : decode (zcc m_X8_nameNow) 126 = .ok (.bipush 101, 2) ∧ decode (zcc m_X8_nameNow) 128 = .ok (.bipush 97, 2) ∧ decode (zcc m_X8_nameNow) 130 = .ok (.invokevirtual 123, 3) ∧ decode (zcc m_X8_nameNow) 133 = .ok (.ifCond .eq (21), 3) ∧ decode (zcc m_X8_nameNow) 136 = .ok (.aload_n 0, 1) ∧ decode (zcc m_X8_nameNow) 137 = .ok (.aload_n 0, 1) ∧ decode (zcc m_X8_nameNow) 138 = .ok (.getfield 110, 3) ∧ decode (zcc m_X8_nameNow) 141 = .ok (.iconst 4, 1) := by decide +kernel
set_option maxRecDepth 20000 in
theorem eg_X8_nameNow_80 : decode (zcc m_X8_nameNow) 142 = .ok (.iadd, 1) ∧ decode (zcc m_X8_nameNow) 143 = .ok (.invokevirtual 119, 3) ∧ decode (zcc m_X8_nameNow) 146 = .ok (.bipush 114, 2) ∧ decode (zcc m_X8_nameNow) 148 = .ok (.if_icmp .ne (6), 3) ∧ decode (zcc m_X8_nameNow) 151 = .ok (.bipush 6, 2) ∧ decode (zcc m_X8_nameNow) 153 = .ok (.ireturn, 1) ∧ decode (zcc m_X8_nameNow) 154 = .ok (.aload_n 0, 1) ∧ decode (zcc m_X8_nameNow) 155 = .ok (.iconst 4, 1) := by decide +kernel
set_option maxRecDepth 20000 in
theorem eg_X8_nameNow_88 : decode (zcc m_X8_nameNow) 156 = .ok (.bipush 103, 2) ∧ decode (zcc m_X8_nameNow) 158 = .ok (.bipush 97, 2) ∧ decode (zcc m_X8_nameNow) 160 = .ok (.bipush 105, 2) ∧ decode (zcc m_X8_nameNow) 162 = .ok (.bipush 110, 2) ∧ decode (zcc m_X8_nameNow) 164 = .ok (.invokevirtual 123, 3) ∧ decode (zcc m_X8_nameNow) 167 = .ok (.ifCond .eq (6), 3) ∧ decode (zcc m_X8_nameNow) 170 = .ok (.bipush 7, 2) ∧ decode (zcc m_X8_nameNow) 172 = .ok (.ireturn, 1) := by decide +kernel
set_option maxRecDepth 20000 in
theorem eg_X8_nameNow_96 : decode (zcc m_X8_nameNow) 173 = .ok (.aload_n 0, 1) ∧ decode (zcc m_X8_nameNow) 174 = .ok (.bipush 6, 2) ∧ decode (zcc m_X8_nameNow) 176 = .ok (.bipush 112, 2) ∧ decode (zcc m_X8_nameNow) 178 = .ok (.bipush 104, 2) ∧ decode (zcc m_X8_nameNow) 180 = .ok (.bipush 97, 2) ∧ decode (zcc m_X8_nameNow) 182 = .ok (.bipush 115, 2) ∧ decode (zcc m_X8_nameNow) 184 = .ok (.invokevirtual 123, 3) ∧ decode (zcc m_X8_nameNow) 187 = .ok (.ifCond .eq (36), 3) := by decide +kernel
set_option maxRecDepth 20000 in
theorem eg_X8_nameNow_104 : decode (zcc m_X8_nameNow) 190 = .ok (.aload_n 0, 1) ∧ decode (zcc m_X8_nameNow) 191 = .ok (.aload_n 0, 1) ∧ decode (zcc m_X8_nameNow) 192 = .ok (.getfield 110, 3) ∧ decode (zcc m_X8_nameNow) 195 = .ok (.iconst 4, 1) ∧ decode (zcc m_X8_nameNow) 196 = .ok (.iadd, 1) ∧ decode (zcc m_X8_nameNow) 197 = .ok (.invokevirtual 119, 3) ∧ decode (zcc m_X8_nameNow) 200 = .ok (.bipush 101, 2) ∧ decode (zcc m_X8_nameNow) 202 = .ok (.if_icmp .ne (21), 3) := by decide +kernel
set_option maxRecDepth 20000 in
theorem eg_X8_nameNow_112 : decode (zcc m_X8_nameNow) 205 = .ok (.aload_n 0, 1) ∧ decode (zcc m_X8_nameNow) 206 = .ok (.aload_n 0, 1) ∧ decode (zcc m_X8_nameNow) 207 = .ok (.getfield 110, 3) ∧ decode (zcc m_X8_nameNow) 210 = .ok (.iconst 5, 1) ∧ decode (zcc m_X8_nameNow) 211 = .ok (.iadd, 1) ∧ decode (zcc m_X8_nameNow) 212 = .ok (.invokevirtual 119, 3) ∧ decode (zcc m_X8_nameNow) 215 = .ok (.bipush 115, 2) ∧ decode (zcc m_X8_nameNow) 217 = .ok (.if_icmp .ne (6), 3) := by decide +kernel
set_option maxRecDepth 20000 in
theorem eg_X8_nameNow_120 : decode (zcc m_X8_nameNow) 220 = .ok (.bipush 8, 2) ∧ decode (zcc m_X8_nameNow) 222 = .ok (.ireturn, 1) ∧ decode (zcc m_X8_nameNow) 223 = .ok (.aload_n 0, 1) ∧ decode (zcc m_X8_nameNow) 224 = .ok (.iconst 5, 1) ∧ decode (zcc m_X8_nameNow) 225 = .ok (.bipush 99, 2) ∧ decode (zcc m_X8_nameNow) 227 = .ok (.bipush 108, 2) ∧ decode (zcc m_X8_nameNow) 229 = .ok (.bipush 111, 2) ∧ decode (zcc m_X8_nameNow) 231 = .ok (.bipush 99, 2) := by decide +kernel
set_option maxRecDepth 20000 in
theorem eg_X8_nameNow_128 : decode (zcc m_X8_nameNow) 233 = .ok (.invokevirtual 123, 3) ∧ decode (zcc m_X8_nameNow) 236 = .ok (.ifCond .eq (23), 3) ∧ decode (zcc m_X8_nameNow) 239 = .ok (.aload_n 0, 1) ∧ decode (zcc m_X8_nameNow) 240 = .ok (.aload_n 0, 1) ∧ decode (zcc m_X8_nameNow) 241 = .ok (.getfield 110, 3) ∧ decode (zcc m_X8_nameNow) 244 = .ok (.iconst 4, 1) ∧ decode (zcc m_X8_nameNow) 245 = .ok (.iadd, 1) ∧ decode (zcc m_X8_nameNow) 246 = .ok (.invokevirtual 119, 3) := by decide +kernel
set_option maxRecDepth 20000 in
theorem eg_X8_nameNow_136 : decode (zcc m_X8_nameNow) 249 = .ok (.bipush 107, 2) ∧ decode (zcc m_X8_nameNow) 251 = .ok (.if_icmp .ne (8), 3) ∧ decode (zcc m_X8_nameNow) 254 = .ok (.bipush 9, 2) ∧ decode (zcc m_X8_nameNow) 256 = .ok (.goto (5), 3) ∧ decode (zcc m_X8_nameNow) 259 = .ok (.bipush (-4), 2) ∧ decode (zcc m_X8_nameNow) 261 = .ok (.ireturn, 1) := by decide +kernel
theorem d_X8_nameNow_0 : zD m_X8_nameNow 0 (.aload_n 0) 1 1 := ⟨eg_X8_nameNow_0.1, rfl⟩
theorem d_X8_nameNow_1 : zD m_X8_nameNow 1 (.iconst 3) 1 2 := ⟨eg_X8_nameNow_0.2.1, rfl⟩
theorem d_X8_nameNow_2 : zD m_X8_nameNow 2 (.bipush 114) 2 4 := ⟨eg_X8_nameNow_0.2.2.1, rfl⟩
theorem d_X8_nameNow_4 : zD m_X8_nameNow 4 (.bipush 111) 2 6 := ⟨eg_X8_nameNow_0.2.2.2.1, rfl⟩
theorem d_X8_nameNow_6 : zD m_X8_nameNow 6 (.bipush 119) 2 8 := ⟨eg_X8_nameNow_0.2.2.2.2.1, rfl⟩
theorem d_X8_nameNow_8 : zD m_X8_nameNow 8 (.iconst 0) 1 9 := ⟨eg_X8_nameNow_0.2.2.2.2.2.1, rfl⟩
theorem d_X8_nameNow_9 : zD m_X8_nameNow 9 (.invokevirtual 123) 3 12 := ⟨eg_X8_nameNow_0.2.2.2.2.2.2.1, rfl⟩
theorem d_X8_nameNow_12 : zDj m_X8_nameNow 12 (.ifCond .eq) 15 17 := ⟨5, eg_X8_nameNow_0.2.2.2.2.2.2.2, rfl, by decide⟩
theorem d_X8_nameNow_15 : zD m_X8_nameNow 15 (.iconst 0) 1 16 := ⟨eg_X8_nameNow_8.1, rfl⟩
theorem d_X8_nameNow_16 : decode (zcc m_X8_nameNow) 16 = .ok (.ireturn, 1) := eg_X8_nameNow_8.2.1
theorem d_X8_nameNow_17 : zD m_X8_nameNow 17 (.aload_n 0) 1 18 := ⟨eg_X8_nameNow_8.2.2.1, rfl⟩
theorem d_X8_nameNow_18 : zD m_X8_nameNow 18 (.iconst 3) 1 19 := ⟨eg_X8_nameNow_8.2.2.2.1, rfl⟩
theorem d_X8_nameNow_19 : zD m_X8_nameNow 19 (.bipush 104) 2 21 := ⟨eg_X8_nameNow_8.2.2.2.2.1, rfl⟩
theorem d_X8_nameNow_21 : zD m_X8_nameNow 21 (.bipush 111) 2 23 := ⟨eg_X8_nameNow_8.2.2.2.2.2.1, rfl⟩
theorem d_X8_nameNow_23 : zD m_X8_nameNow 23 (.bipush 116) 2 25 := ⟨eg_X8_nameNow_8.2.2.2.2.2.2.1, rfl⟩
theorem d_X8_nameNow_25 : zD m_X8_nameNow 25 (.iconst 0) 1 26 := ⟨eg_X8_nameNow_8.2.2.2.2.2.2.2, rfl⟩
theorem d_X8_nameNow_26 : zD m_X8_nameNow 26 (.invokevirtual 123) 3 29 := ⟨eg_X8_nameNow_16.1, rfl⟩
theorem d_X8_nameNow_29 : zDj m_X8_nameNow 29 (.ifCond .eq) 32 34 := ⟨5, eg_X8_nameNow_16.2.1, rfl, by decide⟩
theorem d_X8_nameNow_32 : zD m_X8_nameNow 32 (.iconst 1) 1 33 := ⟨eg_X8_nameNow_16.2.2.1, rfl⟩
theorem d_X8_nameNow_33 : decode (zcc m_X8_nameNow) 33 = .ok (.ireturn, 1) := eg_X8_nameNow_16.2.2.2.1
theorem d_X8_nameNow_34 : zD m_X8_nameNow 34 (.aload_n 0) 1 35 := ⟨eg_X8_nameNow_16.2.2.2.2.1, rfl⟩
theorem d_X8_nameNow_35 : zD m_X8_nameNow 35 (.iconst 4) 1 36 := ⟨eg_X8_nameNow_16.2.2.2.2.2.1, rfl⟩
theorem d_X8_nameNow_36 : zD m_X8_nameNow 36 (.bipush 116) 2 38 := ⟨eg_X8_nameNow_16.2.2.2.2.2.2.1, rfl⟩
theorem d_X8_nameNow_38 : zD m_X8_nameNow 38 (.bipush 114) 2 40 := ⟨eg_X8_nameNow_16.2.2.2.2.2.2.2, rfl⟩
theorem d_X8_nameNow_40 : zD m_X8_nameNow 40 (.bipush 97) 2 42 := ⟨eg_X8_nameNow_24.1, rfl⟩
theorem d_X8_nameNow_42 : zD m_X8_nameNow 42 (.bipush 112) 2 44 := ⟨eg_X8_nameNow_24.2.1, rfl⟩
theorem d_X8_nameNow_44 : zD m_X8_nameNow 44 (.invokevirtual 123) 3 47 := ⟨eg_X8_nameNow_24.2.2.1, rfl⟩
theorem d_X8_nameNow_47 : zDj m_X8_nameNow 47 (.ifCond .eq) 50 52 := ⟨5, eg_X8_nameNow_24.2.2.2.1, rfl, by decide⟩
theorem d_X8_nameNow_50 : zD m_X8_nameNow 50 (.iconst 2) 1 51 := ⟨eg_X8_nameNow_24.2.2.2.2.1, rfl⟩
theorem d_X8_nameNow_51 : decode (zcc m_X8_nameNow) 51 = .ok (.ireturn, 1) := eg_X8_nameNow_24.2.2.2.2.2.1
theorem d_X8_nameNow_52 : zD m_X8_nameNow 52 (.aload_n 0) 1 53 := ⟨eg_X8_nameNow_24.2.2.2.2.2.2.1, rfl⟩
theorem d_X8_nameNow_53 : zD m_X8_nameNow 53 (.iconst 3) 1 54 := ⟨eg_X8_nameNow_24.2.2.2.2.2.2.2, rfl⟩
theorem d_X8_nameNow_54 : zD m_X8_nameNow 54 (.bipush 99) 2 56 := ⟨eg_X8_nameNow_32.1, rfl⟩
theorem d_X8_nameNow_56 : zD m_X8_nameNow 56 (.bipush 97) 2 58 := ⟨eg_X8_nameNow_32.2.1, rfl⟩
theorem d_X8_nameNow_58 : zD m_X8_nameNow 58 (.bipush 112) 2 60 := ⟨eg_X8_nameNow_32.2.2.1, rfl⟩
theorem d_X8_nameNow_60 : zD m_X8_nameNow 60 (.iconst 0) 1 61 := ⟨eg_X8_nameNow_32.2.2.2.1, rfl⟩
theorem d_X8_nameNow_61 : zD m_X8_nameNow 61 (.invokevirtual 123) 3 64 := ⟨eg_X8_nameNow_32.2.2.2.2.1, rfl⟩
theorem d_X8_nameNow_64 : zDj m_X8_nameNow 64 (.ifCond .eq) 67 69 := ⟨5, eg_X8_nameNow_32.2.2.2.2.2.1, rfl, by decide⟩
theorem d_X8_nameNow_67 : zD m_X8_nameNow 67 (.iconst 3) 1 68 := ⟨eg_X8_nameNow_32.2.2.2.2.2.2.1, rfl⟩
theorem d_X8_nameNow_68 : decode (zcc m_X8_nameNow) 68 = .ok (.ireturn, 1) := eg_X8_nameNow_32.2.2.2.2.2.2.2
theorem d_X8_nameNow_69 : zD m_X8_nameNow 69 (.aload_n 0) 1 70 := ⟨eg_X8_nameNow_40.1, rfl⟩
theorem d_X8_nameNow_70 : zD m_X8_nameNow 70 (.iconst 4) 1 71 := ⟨eg_X8_nameNow_40.2.1, rfl⟩
theorem d_X8_nameNow_71 : zD m_X8_nameNow 71 (.bipush 100) 2 73 := ⟨eg_X8_nameNow_40.2.2.1, rfl⟩
theorem d_X8_nameNow_73 : zD m_X8_nameNow 73 (.bipush 97) 2 75 := ⟨eg_X8_nameNow_40.2.2.2.1, rfl⟩
theorem d_X8_nameNow_75 : zD m_X8_nameNow 75 (.bipush 114) 2 77 := ⟨eg_X8_nameNow_40.2.2.2.2.1, rfl⟩
theorem d_X8_nameNow_77 : zD m_X8_nameNow 77 (.bipush 107) 2 79 := ⟨eg_X8_nameNow_40.2.2.2.2.2.1, rfl⟩
theorem d_X8_nameNow_79 : zD m_X8_nameNow 79 (.invokevirtual 123) 3 82 := ⟨eg_X8_nameNow_40.2.2.2.2.2.2.1, rfl⟩
theorem d_X8_nameNow_82 : zDj m_X8_nameNow 82 (.ifCond .eq) 85 87 := ⟨5, eg_X8_nameNow_40.2.2.2.2.2.2.2, rfl, by decide⟩
theorem d_X8_nameNow_85 : zD m_X8_nameNow 85 (.iconst 4) 1 86 := ⟨eg_X8_nameNow_48.1, rfl⟩
theorem d_X8_nameNow_86 : decode (zcc m_X8_nameNow) 86 = .ok (.ireturn, 1) := eg_X8_nameNow_48.2.1
theorem d_X8_nameNow_87 : zD m_X8_nameNow 87 (.aload_n 0) 1 88 := ⟨eg_X8_nameNow_48.2.2.1, rfl⟩
theorem d_X8_nameNow_88 : zD m_X8_nameNow 88 (.iconst 5) 1 89 := ⟨eg_X8_nameNow_48.2.2.2.1, rfl⟩
theorem d_X8_nameNow_89 : zD m_X8_nameNow 89 (.bipush 100) 2 91 := ⟨eg_X8_nameNow_48.2.2.2.2.1, rfl⟩
theorem d_X8_nameNow_91 : zD m_X8_nameNow 91 (.bipush 114) 2 93 := ⟨eg_X8_nameNow_48.2.2.2.2.2.1, rfl⟩
theorem d_X8_nameNow_93 : zD m_X8_nameNow 93 (.bipush 97) 2 95 := ⟨eg_X8_nameNow_48.2.2.2.2.2.2.1, rfl⟩
theorem d_X8_nameNow_95 : zD m_X8_nameNow 95 (.bipush 105) 2 97 := ⟨eg_X8_nameNow_48.2.2.2.2.2.2.2, rfl⟩
theorem d_X8_nameNow_97 : zD m_X8_nameNow 97 (.invokevirtual 123) 3 100 := ⟨eg_X8_nameNow_56.1, rfl⟩
theorem d_X8_nameNow_100 : zDj m_X8_nameNow 100 (.ifCond .eq) 103 120 := ⟨20, eg_X8_nameNow_56.2.1, rfl, by decide⟩
theorem d_X8_nameNow_103 : zD m_X8_nameNow 103 (.aload_n 0) 1 104 := ⟨eg_X8_nameNow_56.2.2.1, rfl⟩
theorem d_X8_nameNow_104 : zD m_X8_nameNow 104 (.aload_n 0) 1 105 := ⟨eg_X8_nameNow_56.2.2.2.1, rfl⟩
theorem d_X8_nameNow_105 : zD m_X8_nameNow 105 (.getfield 110) 3 108 := ⟨eg_X8_nameNow_56.2.2.2.2.1, rfl⟩
theorem d_X8_nameNow_108 : zD m_X8_nameNow 108 (.iconst 4) 1 109 := ⟨eg_X8_nameNow_56.2.2.2.2.2.1, rfl⟩
theorem d_X8_nameNow_109 : zD m_X8_nameNow 109 (.iadd) 1 110 := ⟨eg_X8_nameNow_56.2.2.2.2.2.2.1, rfl⟩
theorem d_X8_nameNow_110 : zD m_X8_nameNow 110 (.invokevirtual 119) 3 113 := ⟨eg_X8_nameNow_56.2.2.2.2.2.2.2, rfl⟩
theorem d_X8_nameNow_113 : zD m_X8_nameNow 113 (.bipush 110) 2 115 := ⟨eg_X8_nameNow_64.1, rfl⟩
theorem d_X8_nameNow_115 : zDj m_X8_nameNow 115 (.if_icmp .ne) 118 120 := ⟨5, eg_X8_nameNow_64.2.1, rfl, by decide⟩
theorem d_X8_nameNow_118 : zD m_X8_nameNow 118 (.iconst 5) 1 119 := ⟨eg_X8_nameNow_64.2.2.1, rfl⟩
theorem d_X8_nameNow_119 : decode (zcc m_X8_nameNow) 119 = .ok (.ireturn, 1) := eg_X8_nameNow_64.2.2.2.1
theorem d_X8_nameNow_120 : zD m_X8_nameNow 120 (.aload_n 0) 1 121 := ⟨eg_X8_nameNow_64.2.2.2.2.1, rfl⟩
theorem d_X8_nameNow_121 : zD m_X8_nameNow 121 (.iconst 5) 1 122 := ⟨eg_X8_nameNow_64.2.2.2.2.2.1, rfl⟩
theorem d_X8_nameNow_122 : zD m_X8_nameNow 122 (.bipush 115) 2 124 := ⟨eg_X8_nameNow_64.2.2.2.2.2.2.1, rfl⟩
theorem d_X8_nameNow_124 : zD m_X8_nameNow 124 (.bipush 109) 2 126 := ⟨eg_X8_nameNow_64.2.2.2.2.2.2.2, rfl⟩
theorem d_X8_nameNow_126 : zD m_X8_nameNow 126 (.bipush 101) 2 128 := ⟨eg_X8_nameNow_72.1, rfl⟩
theorem d_X8_nameNow_128 : zD m_X8_nameNow 128 (.bipush 97) 2 130 := ⟨eg_X8_nameNow_72.2.1, rfl⟩
theorem d_X8_nameNow_130 : zD m_X8_nameNow 130 (.invokevirtual 123) 3 133 := ⟨eg_X8_nameNow_72.2.2.1, rfl⟩
theorem d_X8_nameNow_133 : zDj m_X8_nameNow 133 (.ifCond .eq) 136 154 := ⟨21, eg_X8_nameNow_72.2.2.2.1, rfl, by decide⟩
theorem d_X8_nameNow_136 : zD m_X8_nameNow 136 (.aload_n 0) 1 137 := ⟨eg_X8_nameNow_72.2.2.2.2.1, rfl⟩
theorem d_X8_nameNow_137 : zD m_X8_nameNow 137 (.aload_n 0) 1 138 := ⟨eg_X8_nameNow_72.2.2.2.2.2.1, rfl⟩
theorem d_X8_nameNow_138 : zD m_X8_nameNow 138 (.getfield 110) 3 141 := ⟨eg_X8_nameNow_72.2.2.2.2.2.2.1, rfl⟩
theorem d_X8_nameNow_141 : zD m_X8_nameNow 141 (.iconst 4) 1 142 := ⟨eg_X8_nameNow_72.2.2.2.2.2.2.2, rfl⟩
theorem d_X8_nameNow_142 : zD m_X8_nameNow 142 (.iadd) 1 143 := ⟨eg_X8_nameNow_80.1, rfl⟩
theorem d_X8_nameNow_143 : zD m_X8_nameNow 143 (.invokevirtual 119) 3 146 := ⟨eg_X8_nameNow_80.2.1, rfl⟩
theorem d_X8_nameNow_146 : zD m_X8_nameNow 146 (.bipush 114) 2 148 := ⟨eg_X8_nameNow_80.2.2.1, rfl⟩
theorem d_X8_nameNow_148 : zDj m_X8_nameNow 148 (.if_icmp .ne) 151 154 := ⟨6, eg_X8_nameNow_80.2.2.2.1, rfl, by decide⟩
theorem d_X8_nameNow_151 : zD m_X8_nameNow 151 (.bipush 6) 2 153 := ⟨eg_X8_nameNow_80.2.2.2.2.1, rfl⟩
theorem d_X8_nameNow_153 : decode (zcc m_X8_nameNow) 153 = .ok (.ireturn, 1) := eg_X8_nameNow_80.2.2.2.2.2.1
theorem d_X8_nameNow_154 : zD m_X8_nameNow 154 (.aload_n 0) 1 155 := ⟨eg_X8_nameNow_80.2.2.2.2.2.2.1, rfl⟩
theorem d_X8_nameNow_155 : zD m_X8_nameNow 155 (.iconst 4) 1 156 := ⟨eg_X8_nameNow_80.2.2.2.2.2.2.2, rfl⟩
theorem d_X8_nameNow_156 : zD m_X8_nameNow 156 (.bipush 103) 2 158 := ⟨eg_X8_nameNow_88.1, rfl⟩
theorem d_X8_nameNow_158 : zD m_X8_nameNow 158 (.bipush 97) 2 160 := ⟨eg_X8_nameNow_88.2.1, rfl⟩
theorem d_X8_nameNow_160 : zD m_X8_nameNow 160 (.bipush 105) 2 162 := ⟨eg_X8_nameNow_88.2.2.1, rfl⟩
theorem d_X8_nameNow_162 : zD m_X8_nameNow 162 (.bipush 110) 2 164 := ⟨eg_X8_nameNow_88.2.2.2.1, rfl⟩
theorem d_X8_nameNow_164 : zD m_X8_nameNow 164 (.invokevirtual 123) 3 167 := ⟨eg_X8_nameNow_88.2.2.2.2.1, rfl⟩
theorem d_X8_nameNow_167 : zDj m_X8_nameNow 167 (.ifCond .eq) 170 173 := ⟨6, eg_X8_nameNow_88.2.2.2.2.2.1, rfl, by decide⟩
theorem d_X8_nameNow_170 : zD m_X8_nameNow 170 (.bipush 7) 2 172 := ⟨eg_X8_nameNow_88.2.2.2.2.2.2.1, rfl⟩
theorem d_X8_nameNow_172 : decode (zcc m_X8_nameNow) 172 = .ok (.ireturn, 1) := eg_X8_nameNow_88.2.2.2.2.2.2.2
theorem d_X8_nameNow_173 : zD m_X8_nameNow 173 (.aload_n 0) 1 174 := ⟨eg_X8_nameNow_96.1, rfl⟩
theorem d_X8_nameNow_174 : zD m_X8_nameNow 174 (.bipush 6) 2 176 := ⟨eg_X8_nameNow_96.2.1, rfl⟩
theorem d_X8_nameNow_176 : zD m_X8_nameNow 176 (.bipush 112) 2 178 := ⟨eg_X8_nameNow_96.2.2.1, rfl⟩
theorem d_X8_nameNow_178 : zD m_X8_nameNow 178 (.bipush 104) 2 180 := ⟨eg_X8_nameNow_96.2.2.2.1, rfl⟩
theorem d_X8_nameNow_180 : zD m_X8_nameNow 180 (.bipush 97) 2 182 := ⟨eg_X8_nameNow_96.2.2.2.2.1, rfl⟩
theorem d_X8_nameNow_182 : zD m_X8_nameNow 182 (.bipush 115) 2 184 := ⟨eg_X8_nameNow_96.2.2.2.2.2.1, rfl⟩
theorem d_X8_nameNow_184 : zD m_X8_nameNow 184 (.invokevirtual 123) 3 187 := ⟨eg_X8_nameNow_96.2.2.2.2.2.2.1, rfl⟩
theorem d_X8_nameNow_187 : zDj m_X8_nameNow 187 (.ifCond .eq) 190 223 := ⟨36, eg_X8_nameNow_96.2.2.2.2.2.2.2, rfl, by decide⟩
theorem d_X8_nameNow_190 : zD m_X8_nameNow 190 (.aload_n 0) 1 191 := ⟨eg_X8_nameNow_104.1, rfl⟩
theorem d_X8_nameNow_191 : zD m_X8_nameNow 191 (.aload_n 0) 1 192 := ⟨eg_X8_nameNow_104.2.1, rfl⟩
theorem d_X8_nameNow_192 : zD m_X8_nameNow 192 (.getfield 110) 3 195 := ⟨eg_X8_nameNow_104.2.2.1, rfl⟩
theorem d_X8_nameNow_195 : zD m_X8_nameNow 195 (.iconst 4) 1 196 := ⟨eg_X8_nameNow_104.2.2.2.1, rfl⟩
theorem d_X8_nameNow_196 : zD m_X8_nameNow 196 (.iadd) 1 197 := ⟨eg_X8_nameNow_104.2.2.2.2.1, rfl⟩
theorem d_X8_nameNow_197 : zD m_X8_nameNow 197 (.invokevirtual 119) 3 200 := ⟨eg_X8_nameNow_104.2.2.2.2.2.1, rfl⟩
theorem d_X8_nameNow_200 : zD m_X8_nameNow 200 (.bipush 101) 2 202 := ⟨eg_X8_nameNow_104.2.2.2.2.2.2.1, rfl⟩
theorem d_X8_nameNow_202 : zDj m_X8_nameNow 202 (.if_icmp .ne) 205 223 := ⟨21, eg_X8_nameNow_104.2.2.2.2.2.2.2, rfl, by decide⟩
theorem d_X8_nameNow_205 : zD m_X8_nameNow 205 (.aload_n 0) 1 206 := ⟨eg_X8_nameNow_112.1, rfl⟩
theorem d_X8_nameNow_206 : zD m_X8_nameNow 206 (.aload_n 0) 1 207 := ⟨eg_X8_nameNow_112.2.1, rfl⟩
theorem d_X8_nameNow_207 : zD m_X8_nameNow 207 (.getfield 110) 3 210 := ⟨eg_X8_nameNow_112.2.2.1, rfl⟩
theorem d_X8_nameNow_210 : zD m_X8_nameNow 210 (.iconst 5) 1 211 := ⟨eg_X8_nameNow_112.2.2.2.1, rfl⟩
theorem d_X8_nameNow_211 : zD m_X8_nameNow 211 (.iadd) 1 212 := ⟨eg_X8_nameNow_112.2.2.2.2.1, rfl⟩
theorem d_X8_nameNow_212 : zD m_X8_nameNow 212 (.invokevirtual 119) 3 215 := ⟨eg_X8_nameNow_112.2.2.2.2.2.1, rfl⟩
theorem d_X8_nameNow_215 : zD m_X8_nameNow 215 (.bipush 115) 2 217 := ⟨eg_X8_nameNow_112.2.2.2.2.2.2.1, rfl⟩
theorem d_X8_nameNow_217 : zDj m_X8_nameNow 217 (.if_icmp .ne) 220 223 := ⟨6, eg_X8_nameNow_112.2.2.2.2.2.2.2, rfl, by decide⟩
theorem d_X8_nameNow_220 : zD m_X8_nameNow 220 (.bipush 8) 2 222 := ⟨eg_X8_nameNow_120.1, rfl⟩
theorem d_X8_nameNow_222 : decode (zcc m_X8_nameNow) 222 = .ok (.ireturn, 1) := eg_X8_nameNow_120.2.1
theorem d_X8_nameNow_223 : zD m_X8_nameNow 223 (.aload_n 0) 1 224 := ⟨eg_X8_nameNow_120.2.2.1, rfl⟩
theorem d_X8_nameNow_224 : zD m_X8_nameNow 224 (.iconst 5) 1 225 := ⟨eg_X8_nameNow_120.2.2.2.1, rfl⟩
theorem d_X8_nameNow_225 : zD m_X8_nameNow 225 (.bipush 99) 2 227 := ⟨eg_X8_nameNow_120.2.2.2.2.1, rfl⟩
theorem d_X8_nameNow_227 : zD m_X8_nameNow 227 (.bipush 108) 2 229 := ⟨eg_X8_nameNow_120.2.2.2.2.2.1, rfl⟩
theorem d_X8_nameNow_229 : zD m_X8_nameNow 229 (.bipush 111) 2 231 := ⟨eg_X8_nameNow_120.2.2.2.2.2.2.1, rfl⟩
theorem d_X8_nameNow_231 : zD m_X8_nameNow 231 (.bipush 99) 2 233 := ⟨eg_X8_nameNow_120.2.2.2.2.2.2.2, rfl⟩
theorem d_X8_nameNow_233 : zD m_X8_nameNow 233 (.invokevirtual 123) 3 236 := ⟨eg_X8_nameNow_128.1, rfl⟩
theorem d_X8_nameNow_236 : zDj m_X8_nameNow 236 (.ifCond .eq) 239 259 := ⟨23, eg_X8_nameNow_128.2.1, rfl, by decide⟩
theorem d_X8_nameNow_239 : zD m_X8_nameNow 239 (.aload_n 0) 1 240 := ⟨eg_X8_nameNow_128.2.2.1, rfl⟩
theorem d_X8_nameNow_240 : zD m_X8_nameNow 240 (.aload_n 0) 1 241 := ⟨eg_X8_nameNow_128.2.2.2.1, rfl⟩
theorem d_X8_nameNow_241 : zD m_X8_nameNow 241 (.getfield 110) 3 244 := ⟨eg_X8_nameNow_128.2.2.2.2.1, rfl⟩
theorem d_X8_nameNow_244 : zD m_X8_nameNow 244 (.iconst 4) 1 245 := ⟨eg_X8_nameNow_128.2.2.2.2.2.1, rfl⟩
theorem d_X8_nameNow_245 : zD m_X8_nameNow 245 (.iadd) 1 246 := ⟨eg_X8_nameNow_128.2.2.2.2.2.2.1, rfl⟩
theorem d_X8_nameNow_246 : zD m_X8_nameNow 246 (.invokevirtual 119) 3 249 := ⟨eg_X8_nameNow_128.2.2.2.2.2.2.2, rfl⟩
theorem d_X8_nameNow_249 : zD m_X8_nameNow 249 (.bipush 107) 2 251 := ⟨eg_X8_nameNow_136.1, rfl⟩
theorem d_X8_nameNow_251 : zDj m_X8_nameNow 251 (.if_icmp .ne) 254 259 := ⟨8, eg_X8_nameNow_136.2.1, rfl, by decide⟩
theorem d_X8_nameNow_254 : zD m_X8_nameNow 254 (.bipush 9) 2 256 := ⟨eg_X8_nameNow_136.2.2.1, rfl⟩
theorem d_X8_nameNow_256 : zDj m_X8_nameNow 256 (.goto) 259 261 := ⟨5, eg_X8_nameNow_136.2.2.2.1, rfl, by decide⟩
theorem d_X8_nameNow_259 : zD m_X8_nameNow 259 (.bipush (-4)) 2 261 := ⟨eg_X8_nameNow_136.2.2.2.2.1, rfl⟩
theorem d_X8_nameNow_261 : decode (zcc m_X8_nameNow) 261 = .ok (.ireturn, 1) := eg_X8_nameNow_136.2.2.2.2.2
set_option maxRecDepth 20000 in
theorem eg_X8_next_0 : decode (zcc m_X8_next) 0 = .ok (.aload_n 0, 1) ∧ decode (zcc m_X8_next) 1 = .ok (.getfield 107, 3) ∧ decode (zcc m_X8_next) 4 = .ok (.ifCond .le (4), 3) ∧ decode (zcc m_X8_next) 7 = .ok (.return_, 1) ∧ decode (zcc m_X8_next) 8 = .ok (.aload_n 0, 1) ∧ decode (zcc m_X8_next) 9 = .ok (.aload_n 0, 1) ∧ decode (zcc m_X8_next) 10 = .ok (.getfield 116, 3) ∧ decode (zcc m_X8_next) 13 = .ok (.invokevirtual 119, 3) := by decide +kernel
set_option maxRecDepth 20000 in
theorem eg_X8_next_8 : decode (zcc m_X8_next) 16 = .ok (.bipush 32, 2) ∧ decode (zcc m_X8_next) 18 = .ok (.if_icmp .ne (16), 3) ∧ decode (zcc m_X8_next) 21 = .ok (.aload_n 0, 1) ∧ decode (zcc m_X8_next) 22 = .ok (.dup, 1) ∧ decode (zcc m_X8_next) 23 = .ok (.getfield 116, 3) ∧ decode (zcc m_X8_next) 26 = .ok (.iconst 1, 1) ∧ decode (zcc m_X8_next) 27 = .ok (.iadd, 1) ∧ decode (zcc m_X8_next) 28 = .ok (.putfield 116, 3) := by decide +kernel
set_option maxRecDepth 20000 in
theorem eg_X8_next_16 : decode (zcc m_X8_next) 31 = .ok (.goto (-23), 3) ∧ decode (zcc m_X8_next) 34 = .ok (.aload_n 0, 1) ∧ decode (zcc m_X8_next) 35 = .ok (.aload_n 0, 1) ∧ decode (zcc m_X8_next) 36 = .ok (.getfield 116, 3) ∧ decode (zcc m_X8_next) 39 = .ok (.putfield 110, 3) ∧ decode (zcc m_X8_next) 42 = .ok (.aload_n 0, 1) ∧ decode (zcc m_X8_next) 43 = .ok (.aload_n 0, 1) ∧ decode (zcc m_X8_next) 44 = .ok (.getfield 116, 3) := by decide +kernel
set_option maxRecDepth 20000 in
theorem eg_X8_next_24 : decode (zcc m_X8_next) 47 = .ok (.invokevirtual 119, 3) ∧ decode (zcc m_X8_next) 50 = .ok (.istore_n 1, 1) ∧ decode (zcc m_X8_next) 51 = .ok (.iload_n 1, 1) ∧ decode (zcc m_X8_next) 52 = .ok (.ifCond .ge (11), 3) ∧ decode (zcc m_X8_next) 55 = .ok (.aload_n 0, 1) ∧ decode (zcc m_X8_next) 56 = .ok (.iconst 0, 1) ∧ decode (zcc m_X8_next) 57 = .ok (.putfield 127, 3) ∧ decode (zcc m_X8_next) 60 = .ok (.goto (214), 3) := by decide +kernel
set_option maxRecDepth 20000 in
theorem eg_X8_next_32 : decode (zcc m_X8_next) 63 = .ok (.iload_n 1, 1) ∧ decode (zcc m_X8_next) 64 = .ok (.i2l, 1) ∧ decode (zcc m_X8_next) 65 = .ok (.ldc2_w 130, 3) ∧ decode (zcc m_X8_next) 68 = .ok (.ldc2_w 132, 3) ∧ decode (zcc m_X8_next) 71 = .ok (.invokestatic 92, 3) ∧ decode (zcc m_X8_next) 74 = .ok (.ifCond .eq (42), 3) ∧ decode (zcc m_X8_next) 77 = .ok (.aload_n 0, 1) ∧ decode (zcc m_X8_next) 78 = .ok (.iconst 1, 1) := by decide +kernel
set_option maxRecDepth 20000 in
theorem eg_X8_next_40 : decode (zcc m_X8_next) 79 = .ok (.putfield 127, 3) ∧ decode (zcc m_X8_next) 82 = .ok (.aload_n 0, 1) ∧ decode (zcc m_X8_next) 83 = .ok (.aload_n 0, 1) ∧ decode (zcc m_X8_next) 84 = .ok (.getfield 116, 3) ∧ decode (zcc m_X8_next) 87 = .ok (.invokevirtual 119, 3) ∧ decode (zcc m_X8_next) 90 = .ok (.i2l, 1) ∧ decode (zcc m_X8_next) 91 = .ok (.ldc2_w 130, 3) ∧ decode (zcc m_X8_next) 94 = .ok (.ldc2_w 132, 3) := by decide +kernel
set_option maxRecDepth 20000 in
theorem eg_X8_next_48 : decode (zcc m_X8_next) 97 = .ok (.invokestatic 92, 3) ∧ decode (zcc m_X8_next) 100 = .ok (.ifCond .eq (174), 3) ∧ decode (zcc m_X8_next) 103 = .ok (.aload_n 0, 1) ∧ decode (zcc m_X8_next) 104 = .ok (.dup, 1) ∧ decode (zcc m_X8_next) 105 = .ok (.getfield 116, 3) ∧ decode (zcc m_X8_next) 108 = .ok (.iconst 1, 1) ∧ decode (zcc m_X8_next) 109 = .ok (.iadd, 1) ∧ decode (zcc m_X8_next) 110 = .ok (.putfield 116, 3) := by decide +kernel
set_option maxRecDepth 20000 in
theorem eg_X8_next_56 : decode (zcc m_X8_next) 113 = .ok (.goto (-31), 3) ∧ decode (zcc m_X8_next) 116 = .ok (.iload_n 1, 1) ∧ decode (zcc m_X8_next) 117 = .ok (.i2l, 1) ∧ decode (zcc m_X8_next) 118 = .ok (.ldc2_w 134, 3) ∧ decode (zcc m_X8_next) 121 = .ok (.ldc2_w 136, 3) ∧ decode (zcc m_X8_next) 124 = .ok (.invokestatic 92, 3) ∧ decode (zcc m_X8_next) 127 = .ok (.ifCond .eq (116), 3) ∧ decode (zcc m_X8_next) 130 = .ok (.aload_n 0, 1) := by decide +kernel
set_option maxRecDepth 20000 in
theorem eg_X8_next_64 : decode (zcc m_X8_next) 131 = .ok (.iconst 2, 1) ∧ decode (zcc m_X8_next) 132 = .ok (.putfield 127, 3) ∧ decode (zcc m_X8_next) 135 = .ok (.aload_n 0, 1) ∧ decode (zcc m_X8_next) 136 = .ok (.iconst 0, 1) ∧ decode (zcc m_X8_next) 137 = .ok (.putfield 138, 3) ∧ decode (zcc m_X8_next) 140 = .ok (.aload_n 0, 1) ∧ decode (zcc m_X8_next) 141 = .ok (.aload_n 0, 1) ∧ decode (zcc m_X8_next) 142 = .ok (.getfield 116, 3) := by decide +kernel
set_option maxRecDepth 20000 in
theorem eg_X8_next_72 : decode (zcc m_X8_next) 145 = .ok (.invokevirtual 119, 3) ∧ decode (zcc m_X8_next) 148 = .ok (.i2l, 1) ∧ decode (zcc m_X8_next) 149 = .ok (.ldc2_w 134, 3) ∧ decode (zcc m_X8_next) 152 = .ok (.ldc2_w 136, 3) ∧ decode (zcc m_X8_next) 155 = .ok (.invokestatic 92, 3) ∧ decode (zcc m_X8_next) 158 = .ok (.ifCond .eq (59), 3) ∧ decode (zcc m_X8_next) 161 = .ok (.aload_n 0, 1) ∧ decode (zcc m_X8_next) 162 = .ok (.aload_n 0, 1) := by decide +kernel
set_option maxRecDepth 20000 in
theorem eg_X8_next_80 : decode (zcc m_X8_next) 163 = .ok (.getfield 116, 3) ∧ decode (zcc m_X8_next) 166 = .ok (.aload_n 0, 1) ∧ decode (zcc m_X8_next) 167 = .ok (.getfield 110, 3) ∧ decode (zcc m_X8_next) 170 = .ok (.isub, 1) ∧ decode (zcc m_X8_next) 171 = .ok (.iconst 3, 1) ∧ decode (zcc m_X8_next) 172 = .ok (.if_icmp .ge (25), 3) ∧ decode (zcc m_X8_next) 175 = .ok (.bipush 10, 2) ∧ decode (zcc m_X8_next) 177 = .ok (.aload_n 0, 1) := by decide +kernel
set_option maxRecDepth 20000 in
theorem eg_X8_next_88 : decode (zcc m_X8_next) 178 = .ok (.getfield 138, 3) ∧ decode (zcc m_X8_next) 181 = .ok (.imul, 1) ∧ decode (zcc m_X8_next) 182 = .ok (.aload_n 0, 1) ∧ decode (zcc m_X8_next) 183 = .ok (.aload_n 0, 1) ∧ decode (zcc m_X8_next) 184 = .ok (.getfield 116, 3) ∧ decode (zcc m_X8_next) 187 = .ok (.invokevirtual 119, 3) ∧ decode (zcc m_X8_next) 190 = .ok (.iadd, 1) ∧ decode (zcc m_X8_next) 191 = .ok (.bipush 48, 2) := by decide +kernel
set_option maxRecDepth 20000 in
theorem eg_X8_next_96 : decode (zcc m_X8_next) 193 = .ok (.isub, 1) ∧ decode (zcc m_X8_next) 194 = .ok (.goto (7), 3) ∧ decode (zcc m_X8_next) 197 = .ok (.aload_n 0, 1) ∧ decode (zcc m_X8_next) 198 = .ok (.getfield 138, 3) ∧ decode (zcc m_X8_next) 201 = .ok (.putfield 138, 3) ∧ decode (zcc m_X8_next) 204 = .ok (.aload_n 0, 1) ∧ decode (zcc m_X8_next) 205 = .ok (.dup, 1) ∧ decode (zcc m_X8_next) 206 = .ok (.getfield 116, 3) := by decide +kernel
set_option maxRecDepth 20000 in
theorem eg_X8_next_104 : decode (zcc m_X8_next) 209 = .ok (.iconst 1, 1) ∧ decode (zcc m_X8_next) 210 = .ok (.iadd, 1) ∧ decode (zcc m_X8_next) 211 = .ok (.putfield 116, 3) ∧ decode (zcc m_X8_next) 214 = .ok (.goto (-74), 3) ∧ decode (zcc m_X8_next) 217 = .ok (.aload_n 0, 1) ∧ decode (zcc m_X8_next) 218 = .ok (.aload_n 0, 1) ∧ decode (zcc m_X8_next) 219 = .ok (.getfield 116, 3) ∧ decode (zcc m_X8_next) 222 = .ok (.aload_n 0, 1) := by decide +kernel
set_option maxRecDepth 20000 in
theorem eg_X8_next_112 : decode (zcc m_X8_next) 223 = .ok (.getfield 110, 3) ∧ decode (zcc m_X8_next) 226 = .ok (.isub, 1) ∧ decode (zcc m_X8_next) 227 = .ok (.iconst 3, 1) ∧ decode (zcc m_X8_next) 228 = .ok (.if_icmp .gt (7), 3) ∧ decode (zcc m_X8_next) 231 = .ok (.iconst 1, 1) ∧ decode (zcc m_X8_next) 232 = .ok (.goto (4), 3) ∧ decode (zcc m_X8_next) 235 = .ok (.iconst 0, 1) ∧ decode (zcc m_X8_next) 236 = .ok (.iconst 1, 1) := by decide +kernel
set_option maxRecDepth 20000 in
theorem eg_X8_next_120 : decode (zcc m_X8_next) 237 = .ok (.invokevirtual 141, 3) ∧ decode (zcc m_X8_next) 240 = .ok (.goto (34), 3) ∧ decode (zcc m_X8_next) 243 = .ok (.aload_n 0, 1) ∧ decode (zcc m_X8_next) 244 = .ok (.iconst 3, 1) ∧ decode (zcc m_X8_next) 245 = .ok (.putfield 127, 3) ∧ decode (zcc m_X8_next) 248 = .ok (.aload_n 0, 1) ∧ decode (zcc m_X8_next) 249 = .ok (.iload_n 1, 1) ∧ decode (zcc m_X8_next) 250 = .ok (.bipush 59, 2) := by decide +kernel
set_option maxRecDepth 20000 in
theorem eg_X8_next_128 : decode (zcc m_X8_next) 252 = .ok (.if_icmp .ne (7), 3) ∧ decode (zcc m_X8_next) 255 = .ok (.iconst 1, 1) ∧ decode (zcc m_X8_next) 256 = .ok (.goto (4), 3) ∧ decode (zcc m_X8_next) 259 = .ok (.iconst 0, 1) ∧ decode (zcc m_X8_next) 260 = .ok (.iconst 1, 1) ∧ decode (zcc m_X8_next) 261 = .ok (.invokevirtual 141, 3) ∧ decode (zcc m_X8_next) 264 = .ok (.aload_n 0, 1) ∧ decode (zcc m_X8_next) 265 = .ok (.dup, 1) := by decide +kernel
set_option maxRecDepth 20000 in
theorem eg_X8_next_136 : decode (zcc m_X8_next) 266 = .ok (.getfield 116, 3) ∧ decode (zcc m_X8_next) 269 = .ok (.iconst 1, 1) ∧ decode (zcc m_X8_next) 270 = .ok (.iadd, 1) ∧ decode (zcc m_X8_next) 271 = .ok (.putfield 116, 3) ∧ decode (zcc m_X8_next) 274 = .ok (.return_, 1) := by decide +kernel
theorem d_X8_next_0 : zD m_X8_next 0 (.aload_n 0) 1 1 := ⟨eg_X8_next_0.1, rfl⟩
theorem d_X8_next_1 : zD m_X8_next 1 (.getfield 107) 3 4 := ⟨eg_X8_next_0.2.1, rfl⟩
theorem d_X8_next_4 : zDj m_X8_next 4 (.ifCond .le) 7 8 := ⟨4, eg_X8_next_0.2.2.1, rfl, by decide⟩
theorem d_X8_next_7 : decode (zcc m_X8_next) 7 = .ok (.return_, 1) := eg_X8_next_0.2.2.2.1
theorem d_X8_next_8 : zD m_X8_next 8 (.aload_n 0) 1 9 := ⟨eg_X8_next_0.2.2.2.2.1, rfl⟩
theorem d_X8_next_9 : zD m_X8_next 9 (.aload_n 0) 1 10 := ⟨eg_X8_next_0.2.2.2.2.2.1, rfl⟩
theorem d_X8_next_10 : zD m_X8_next 10 (.getfield 116) 3 13 := ⟨eg_X8_next_0.2.2.2.2.2.2.1, rfl⟩
theorem d_X8_next_13 : zD m_X8_next 13 (.invokevirtual 119) 3 16 := ⟨eg_X8_next_0.2.2.2.2.2.2.2, rfl⟩
theorem d_X8_next_16 : zD m_X8_next 16 (.bipush 32) 2 18 := ⟨eg_X8_next_8.1, rfl⟩
theorem d_X8_next_18 : zDj m_X8_next 18 (.if_icmp .ne) 21 34 := ⟨16, eg_X8_next_8.2.1, rfl, by decide⟩
theorem d_X8_next_21 : zD m_X8_next 21 (.aload_n 0) 1 22 := ⟨eg_X8_next_8.2.2.1, rfl⟩
theorem d_X8_next_22 : zD m_X8_next 22 (.dup) 1 23 := ⟨eg_X8_next_8.2.2.2.1, rfl⟩
theorem d_X8_next_23 : zD m_X8_next 23 (.getfield 116) 3 26 := ⟨eg_X8_next_8.2.2.2.2.1, rfl⟩
theorem d_X8_next_26 : zD m_X8_next 26 (.iconst 1) 1 27 := ⟨eg_X8_next_8.2.2.2.2.2.1, rfl⟩
theorem d_X8_next_27 : zD m_X8_next 27 (.iadd) 1 28 := ⟨eg_X8_next_8.2.2.2.2.2.2.1, rfl⟩
theorem d_X8_next_28 : zD m_X8_next 28 (.putfield 116) 3 31 := ⟨eg_X8_next_8.2.2.2.2.2.2.2, rfl⟩
theorem d_X8_next_31 : zDj m_X8_next 31 (.goto) 34 8 := ⟨-23, eg_X8_next_16.1, rfl, by decide⟩
theorem d_X8_next_34 : zD m_X8_next 34 (.aload_n 0) 1 35 := ⟨eg_X8_next_16.2.1, rfl⟩
theorem d_X8_next_35 : zD m_X8_next 35 (.aload_n 0) 1 36 := ⟨eg_X8_next_16.2.2.1, rfl⟩
theorem d_X8_next_36 : zD m_X8_next 36 (.getfield 116) 3 39 := ⟨eg_X8_next_16.2.2.2.1, rfl⟩
theorem d_X8_next_39 : zD m_X8_next 39 (.putfield 110) 3 42 := ⟨eg_X8_next_16.2.2.2.2.1, rfl⟩
theorem d_X8_next_42 : zD m_X8_next 42 (.aload_n 0) 1 43 := ⟨eg_X8_next_16.2.2.2.2.2.1, rfl⟩
theorem d_X8_next_43 : zD m_X8_next 43 (.aload_n 0) 1 44 := ⟨eg_X8_next_16.2.2.2.2.2.2.1, rfl⟩
theorem d_X8_next_44 : zD m_X8_next 44 (.getfield 116) 3 47 := ⟨eg_X8_next_16.2.2.2.2.2.2.2, rfl⟩
theorem d_X8_next_47 : zD m_X8_next 47 (.invokevirtual 119) 3 50 := ⟨eg_X8_next_24.1, rfl⟩
theorem d_X8_next_50 : zD m_X8_next 50 (.istore_n 1) 1 51 := ⟨eg_X8_next_24.2.1, rfl⟩
theorem d_X8_next_51 : zD m_X8_next 51 (.iload_n 1) 1 52 := ⟨eg_X8_next_24.2.2.1, rfl⟩
theorem d_X8_next_52 : zDj m_X8_next 52 (.ifCond .ge) 55 63 := ⟨11, eg_X8_next_24.2.2.2.1, rfl, by decide⟩
theorem d_X8_next_55 : zD m_X8_next 55 (.aload_n 0) 1 56 := ⟨eg_X8_next_24.2.2.2.2.1, rfl⟩
theorem d_X8_next_56 : zD m_X8_next 56 (.iconst 0) 1 57 := ⟨eg_X8_next_24.2.2.2.2.2.1, rfl⟩
theorem d_X8_next_57 : zD m_X8_next 57 (.putfield 127) 3 60 := ⟨eg_X8_next_24.2.2.2.2.2.2.1, rfl⟩
theorem d_X8_next_60 : zDj m_X8_next 60 (.goto) 63 274 := ⟨214, eg_X8_next_24.2.2.2.2.2.2.2, rfl, by decide⟩
theorem d_X8_next_63 : zD m_X8_next 63 (.iload_n 1) 1 64 := ⟨eg_X8_next_32.1, rfl⟩
theorem d_X8_next_64 : zD m_X8_next 64 (.i2l) 1 65 := ⟨eg_X8_next_32.2.1, rfl⟩
theorem d_X8_next_65 : zD m_X8_next 65 (.ldc2_w 130) 3 68 := ⟨eg_X8_next_32.2.2.1, rfl⟩
theorem d_X8_next_68 : zD m_X8_next 68 (.ldc2_w 132) 3 71 := ⟨eg_X8_next_32.2.2.2.1, rfl⟩
theorem d_X8_next_71 : zD m_X8_next 71 (.invokestatic 92) 3 74 := ⟨eg_X8_next_32.2.2.2.2.1, rfl⟩
theorem d_X8_next_74 : zDj m_X8_next 74 (.ifCond .eq) 77 116 := ⟨42, eg_X8_next_32.2.2.2.2.2.1, rfl, by decide⟩
theorem d_X8_next_77 : zD m_X8_next 77 (.aload_n 0) 1 78 := ⟨eg_X8_next_32.2.2.2.2.2.2.1, rfl⟩
theorem d_X8_next_78 : zD m_X8_next 78 (.iconst 1) 1 79 := ⟨eg_X8_next_32.2.2.2.2.2.2.2, rfl⟩
theorem d_X8_next_79 : zD m_X8_next 79 (.putfield 127) 3 82 := ⟨eg_X8_next_40.1, rfl⟩
theorem d_X8_next_82 : zD m_X8_next 82 (.aload_n 0) 1 83 := ⟨eg_X8_next_40.2.1, rfl⟩
theorem d_X8_next_83 : zD m_X8_next 83 (.aload_n 0) 1 84 := ⟨eg_X8_next_40.2.2.1, rfl⟩
theorem d_X8_next_84 : zD m_X8_next 84 (.getfield 116) 3 87 := ⟨eg_X8_next_40.2.2.2.1, rfl⟩
theorem d_X8_next_87 : zD m_X8_next 87 (.invokevirtual 119) 3 90 := ⟨eg_X8_next_40.2.2.2.2.1, rfl⟩
theorem d_X8_next_90 : zD m_X8_next 90 (.i2l) 1 91 := ⟨eg_X8_next_40.2.2.2.2.2.1, rfl⟩
theorem d_X8_next_91 : zD m_X8_next 91 (.ldc2_w 130) 3 94 := ⟨eg_X8_next_40.2.2.2.2.2.2.1, rfl⟩
theorem d_X8_next_94 : zD m_X8_next 94 (.ldc2_w 132) 3 97 := ⟨eg_X8_next_40.2.2.2.2.2.2.2, rfl⟩
theorem d_X8_next_97 : zD m_X8_next 97 (.invokestatic 92) 3 100 := ⟨eg_X8_next_48.1, rfl⟩
theorem d_X8_next_100 : zDj m_X8_next 100 (.ifCond .eq) 103 274 := ⟨174, eg_X8_next_48.2.1, rfl, by decide⟩
theorem d_X8_next_103 : zD m_X8_next 103 (.aload_n 0) 1 104 := ⟨eg_X8_next_48.2.2.1, rfl⟩
theorem d_X8_next_104 : zD m_X8_next 104 (.dup) 1 105 := ⟨eg_X8_next_48.2.2.2.1, rfl⟩
theorem d_X8_next_105 : zD m_X8_next 105 (.getfield 116) 3 108 := ⟨eg_X8_next_48.2.2.2.2.1, rfl⟩
theorem d_X8_next_108 : zD m_X8_next 108 (.iconst 1) 1 109 := ⟨eg_X8_next_48.2.2.2.2.2.1, rfl⟩
theorem d_X8_next_109 : zD m_X8_next 109 (.iadd) 1 110 := ⟨eg_X8_next_48.2.2.2.2.2.2.1, rfl⟩
theorem d_X8_next_110 : zD m_X8_next 110 (.putfield 116) 3 113 := ⟨eg_X8_next_48.2.2.2.2.2.2.2, rfl⟩
theorem d_X8_next_113 : zDj m_X8_next 113 (.goto) 116 82 := ⟨-31, eg_X8_next_56.1, rfl, by decide⟩
theorem d_X8_next_116 : zD m_X8_next 116 (.iload_n 1) 1 117 := ⟨eg_X8_next_56.2.1, rfl⟩
theorem d_X8_next_117 : zD m_X8_next 117 (.i2l) 1 118 := ⟨eg_X8_next_56.2.2.1, rfl⟩
theorem d_X8_next_118 : zD m_X8_next 118 (.ldc2_w 134) 3 121 := ⟨eg_X8_next_56.2.2.2.1, rfl⟩
theorem d_X8_next_121 : zD m_X8_next 121 (.ldc2_w 136) 3 124 := ⟨eg_X8_next_56.2.2.2.2.1, rfl⟩
theorem d_X8_next_124 : zD m_X8_next 124 (.invokestatic 92) 3 127 := ⟨eg_X8_next_56.2.2.2.2.2.1, rfl⟩
theorem d_X8_next_127 : zDj m_X8_next 127 (.ifCond .eq) 130 243 := ⟨116, eg_X8_next_56.2.2.2.2.2.2.1, rfl, by decide⟩
theorem d_X8_next_130 : zD m_X8_next 130 (.aload_n 0) 1 131 := ⟨eg_X8_next_56.2.2.2.2.2.2.2, rfl⟩
theorem d_X8_next_131 : zD m_X8_next 131 (.iconst 2) 1 132 := ⟨eg_X8_next_64.1, rfl⟩
theorem d_X8_next_132 : zD m_X8_next 132 (.putfield 127) 3 135 := ⟨eg_X8_next_64.2.1, rfl⟩
theorem d_X8_next_135 : zD m_X8_next 135 (.aload_n 0) 1 136 := ⟨eg_X8_next_64.2.2.1, rfl⟩
theorem d_X8_next_136 : zD m_X8_next 136 (.iconst 0) 1 137 := ⟨eg_X8_next_64.2.2.2.1, rfl⟩
theorem d_X8_next_137 : zD m_X8_next 137 (.putfield 138) 3 140 := ⟨eg_X8_next_64.2.2.2.2.1, rfl⟩
theorem d_X8_next_140 : zD m_X8_next 140 (.aload_n 0) 1 141 := ⟨eg_X8_next_64.2.2.2.2.2.1, rfl⟩
theorem d_X8_next_141 : zD m_X8_next 141 (.aload_n 0) 1 142 := ⟨eg_X8_next_64.2.2.2.2.2.2.1, rfl⟩
theorem d_X8_next_142 : zD m_X8_next 142 (.getfield 116) 3 145 := ⟨eg_X8_next_64.2.2.2.2.2.2.2, rfl⟩
theorem d_X8_next_145 : zD m_X8_next 145 (.invokevirtual 119) 3 148 := ⟨eg_X8_next_72.1, rfl⟩
theorem d_X8_next_148 : zD m_X8_next 148 (.i2l) 1 149 := ⟨eg_X8_next_72.2.1, rfl⟩
theorem d_X8_next_149 : zD m_X8_next 149 (.ldc2_w 134) 3 152 := ⟨eg_X8_next_72.2.2.1, rfl⟩
theorem d_X8_next_152 : zD m_X8_next 152 (.ldc2_w 136) 3 155 := ⟨eg_X8_next_72.2.2.2.1, rfl⟩
theorem d_X8_next_155 : zD m_X8_next 155 (.invokestatic 92) 3 158 := ⟨eg_X8_next_72.2.2.2.2.1, rfl⟩
theorem d_X8_next_158 : zDj m_X8_next 158 (.ifCond .eq) 161 217 := ⟨59, eg_X8_next_72.2.2.2.2.2.1, rfl, by decide⟩
theorem d_X8_next_161 : zD m_X8_next 161 (.aload_n 0) 1 162 := ⟨eg_X8_next_72.2.2.2.2.2.2.1, rfl⟩
theorem d_X8_next_162 : zD m_X8_next 162 (.aload_n 0) 1 163 := ⟨eg_X8_next_72.2.2.2.2.2.2.2, rfl⟩
theorem d_X8_next_163 : zD m_X8_next 163 (.getfield 116) 3 166 := ⟨eg_X8_next_80.1, rfl⟩
theorem d_X8_next_166 : zD m_X8_next 166 (.aload_n 0) 1 167 := ⟨eg_X8_next_80.2.1, rfl⟩
theorem d_X8_next_167 : zD m_X8_next 167 (.getfield 110) 3 170 := ⟨eg_X8_next_80.2.2.1, rfl⟩
theorem d_X8_next_170 : zD m_X8_next 170 (.isub) 1 171 := ⟨eg_X8_next_80.2.2.2.1, rfl⟩
theorem d_X8_next_171 : zD m_X8_next 171 (.iconst 3) 1 172 := ⟨eg_X8_next_80.2.2.2.2.1, rfl⟩
theorem d_X8_next_172 : zDj m_X8_next 172 (.if_icmp .ge) 175 197 := ⟨25, eg_X8_next_80.2.2.2.2.2.1, rfl, by decide⟩
theorem d_X8_next_175 : zD m_X8_next 175 (.bipush 10) 2 177 := ⟨eg_X8_next_80.2.2.2.2.2.2.1, rfl⟩
theorem d_X8_next_177 : zD m_X8_next 177 (.aload_n 0) 1 178 := ⟨eg_X8_next_80.2.2.2.2.2.2.2, rfl⟩
theorem d_X8_next_178 : zD m_X8_next 178 (.getfield 138) 3 181 := ⟨eg_X8_next_88.1, rfl⟩
theorem d_X8_next_181 : zD m_X8_next 181 (.imul) 1 182 := ⟨eg_X8_next_88.2.1, rfl⟩
theorem d_X8_next_182 : zD m_X8_next 182 (.aload_n 0) 1 183 := ⟨eg_X8_next_88.2.2.1, rfl⟩
theorem d_X8_next_183 : zD m_X8_next 183 (.aload_n 0) 1 184 := ⟨eg_X8_next_88.2.2.2.1, rfl⟩
theorem d_X8_next_184 : zD m_X8_next 184 (.getfield 116) 3 187 := ⟨eg_X8_next_88.2.2.2.2.1, rfl⟩
theorem d_X8_next_187 : zD m_X8_next 187 (.invokevirtual 119) 3 190 := ⟨eg_X8_next_88.2.2.2.2.2.1, rfl⟩
theorem d_X8_next_190 : zD m_X8_next 190 (.iadd) 1 191 := ⟨eg_X8_next_88.2.2.2.2.2.2.1, rfl⟩
theorem d_X8_next_191 : zD m_X8_next 191 (.bipush 48) 2 193 := ⟨eg_X8_next_88.2.2.2.2.2.2.2, rfl⟩
theorem d_X8_next_193 : zD m_X8_next 193 (.isub) 1 194 := ⟨eg_X8_next_96.1, rfl⟩
theorem d_X8_next_194 : zDj m_X8_next 194 (.goto) 197 201 := ⟨7, eg_X8_next_96.2.1, rfl, by decide⟩
theorem d_X8_next_197 : zD m_X8_next 197 (.aload_n 0) 1 198 := ⟨eg_X8_next_96.2.2.1, rfl⟩
theorem d_X8_next_198 : zD m_X8_next 198 (.getfield 138) 3 201 := ⟨eg_X8_next_96.2.2.2.1, rfl⟩
theorem d_X8_next_201 : zD m_X8_next 201 (.putfield 138) 3 204 := ⟨eg_X8_next_96.2.2.2.2.1, rfl⟩
theorem d_X8_next_204 : zD m_X8_next 204 (.aload_n 0) 1 205 := ⟨eg_X8_next_96.2.2.2.2.2.1, rfl⟩
theorem d_X8_next_205 : zD m_X8_next 205 (.dup) 1 206 := ⟨eg_X8_next_96.2.2.2.2.2.2.1, rfl⟩
theorem d_X8_next_206 : zD m_X8_next 206 (.getfield 116) 3 209 := ⟨eg_X8_next_96.2.2.2.2.2.2.2, rfl⟩
theorem d_X8_next_209 : zD m_X8_next 209 (.iconst 1) 1 210 := ⟨eg_X8_next_104.1, rfl⟩
theorem d_X8_next_210 : zD m_X8_next 210 (.iadd) 1 211 := ⟨eg_X8_next_104.2.1, rfl⟩
theorem d_X8_next_211 : zD m_X8_next 211 (.putfield 116) 3 214 := ⟨eg_X8_next_104.2.2.1, rfl⟩
theorem d_X8_next_214 : zDj m_X8_next 214 (.goto) 217 140 := ⟨-74, eg_X8_next_104.2.2.2.1, rfl, by decide⟩
theorem d_X8_next_217 : zD m_X8_next 217 (.aload_n 0) 1 218 := ⟨eg_X8_next_104.2.2.2.2.1, rfl⟩
theorem d_X8_next_218 : zD m_X8_next 218 (.aload_n 0) 1 219 := ⟨eg_X8_next_104.2.2.2.2.2.1, rfl⟩
theorem d_X8_next_219 : zD m_X8_next 219 (.getfield 116) 3 222 := ⟨eg_X8_next_104.2.2.2.2.2.2.1, rfl⟩
theorem d_X8_next_222 : zD m_X8_next 222 (.aload_n 0) 1 223 := ⟨eg_X8_next_104.2.2.2.2.2.2.2, rfl⟩
theorem d_X8_next_223 : zD m_X8_next 223 (.getfield 110) 3 226 := ⟨eg_X8_next_112.1, rfl⟩
theorem d_X8_next_226 : zD m_X8_next 226 (.isub) 1 227 := ⟨eg_X8_next_112.2.1, rfl⟩
theorem d_X8_next_227 : zD m_X8_next 227 (.iconst 3) 1 228 := ⟨eg_X8_next_112.2.2.1, rfl⟩
theorem d_X8_next_228 : zDj m_X8_next 228 (.if_icmp .gt) 231 235 := ⟨7, eg_X8_next_112.2.2.2.1, rfl, by decide⟩
theorem d_X8_next_231 : zD m_X8_next 231 (.iconst 1) 1 232 := ⟨eg_X8_next_112.2.2.2.2.1, rfl⟩
theorem d_X8_next_232 : zDj m_X8_next 232 (.goto) 235 236 := ⟨4, eg_X8_next_112.2.2.2.2.2.1, rfl, by decide⟩
theorem d_X8_next_235 : zD m_X8_next 235 (.iconst 0) 1 236 := ⟨eg_X8_next_112.2.2.2.2.2.2.1, rfl⟩
theorem d_X8_next_236 : zD m_X8_next 236 (.iconst 1) 1 237 := ⟨eg_X8_next_112.2.2.2.2.2.2.2, rfl⟩
theorem d_X8_next_237 : zD m_X8_next 237 (.invokevirtual 141) 3 240 := ⟨eg_X8_next_120.1, rfl⟩
theorem d_X8_next_240 : zDj m_X8_next 240 (.goto) 243 274 := ⟨34, eg_X8_next_120.2.1, rfl, by decide⟩
theorem d_X8_next_243 : zD m_X8_next 243 (.aload_n 0) 1 244 := ⟨eg_X8_next_120.2.2.1, rfl⟩
theorem d_X8_next_244 : zD m_X8_next 244 (.iconst 3) 1 245 := ⟨eg_X8_next_120.2.2.2.1, rfl⟩
theorem d_X8_next_245 : zD m_X8_next 245 (.putfield 127) 3 248 := ⟨eg_X8_next_120.2.2.2.2.1, rfl⟩
theorem d_X8_next_248 : zD m_X8_next 248 (.aload_n 0) 1 249 := ⟨eg_X8_next_120.2.2.2.2.2.1, rfl⟩
theorem d_X8_next_249 : zD m_X8_next 249 (.iload_n 1) 1 250 := ⟨eg_X8_next_120.2.2.2.2.2.2.1, rfl⟩
theorem d_X8_next_250 : zD m_X8_next 250 (.bipush 59) 2 252 := ⟨eg_X8_next_120.2.2.2.2.2.2.2, rfl⟩
theorem d_X8_next_252 : zDj m_X8_next 252 (.if_icmp .ne) 255 259 := ⟨7, eg_X8_next_128.1, rfl, by decide⟩
theorem d_X8_next_255 : zD m_X8_next 255 (.iconst 1) 1 256 := ⟨eg_X8_next_128.2.1, rfl⟩
theorem d_X8_next_256 : zDj m_X8_next 256 (.goto) 259 260 := ⟨4, eg_X8_next_128.2.2.1, rfl, by decide⟩
theorem d_X8_next_259 : zD m_X8_next 259 (.iconst 0) 1 260 := ⟨eg_X8_next_128.2.2.2.1, rfl⟩
theorem d_X8_next_260 : zD m_X8_next 260 (.iconst 1) 1 261 := ⟨eg_X8_next_128.2.2.2.2.1, rfl⟩
theorem d_X8_next_261 : zD m_X8_next 261 (.invokevirtual 141) 3 264 := ⟨eg_X8_next_128.2.2.2.2.2.1, rfl⟩
theorem d_X8_next_264 : zD m_X8_next 264 (.aload_n 0) 1 265 := ⟨eg_X8_next_128.2.2.2.2.2.2.1, rfl⟩
theorem d_X8_next_265 : zD m_X8_next 265 (.dup) 1 266 := ⟨eg_X8_next_128.2.2.2.2.2.2.2, rfl⟩
theorem d_X8_next_266 : zD m_X8_next 266 (.getfield 116) 3 269 := ⟨eg_X8_next_136.1, rfl⟩
theorem d_X8_next_269 : zD m_X8_next 269 (.iconst 1) 1 270 := ⟨eg_X8_next_136.2.1, rfl⟩
theorem d_X8_next_270 : zD m_X8_next 270 (.iadd) 1 271 := ⟨eg_X8_next_136.2.2.1, rfl⟩
theorem d_X8_next_271 : zD m_X8_next 271 (.putfield 116) 3 274 := ⟨eg_X8_next_136.2.2.2.1, rfl⟩
theorem d_X8_next_274 : decode (zcc m_X8_next) 274 = .ok (.return_, 1) := eg_X8_next_136.2.2.2.2
set_option maxRecDepth 20000 in
theorem eg_X8_isNumber_0 : decode (zcc m_X8_isNumber) 0 = .ok (.aload_n 0, 1) ∧ decode (zcc m_X8_isNumber) 1 = .ok (.getfield 107, 3) ∧ decode (zcc m_X8_isNumber) 4 = .ok (.ifCond .ne (21), 3) ∧ decode (zcc m_X8_isNumber) 7 = .ok (.aload_n 0, 1) ∧ decode (zcc m_X8_isNumber) 8 = .ok (.aload_n 0, 1) ∧ decode (zcc m_X8_isNumber) 9 = .ok (.getfield 127, 3) ∧ decode (zcc m_X8_isNumber) 12 = .ok (.iconst 2, 1) ∧ decode (zcc m_X8_isNumber) 13 = .ok (.if_icmp .ne (7), 3) := by decide +kernel
set_option maxRecDepth 20000 in
theorem eg_X8_isNumber_8 : decode (zcc m_X8_isNumber) 16 = .ok (.iconst 1, 1) ∧ decode (zcc m_X8_isNumber) 17 = .ok (.goto (4), 3) ∧ decode (zcc m_X8_isNumber) 20 = .ok (.iconst 0, 1) ∧ decode (zcc m_X8_isNumber) 21 = .ok (.iconst 2, 1) ∧ decode (zcc m_X8_isNumber) 22 = .ok (.invokevirtual 141, 3) ∧ decode (zcc m_X8_isNumber) 25 = .ok (.aload_n 0, 1) ∧ decode (zcc m_X8_isNumber) 26 = .ok (.getfield 107, 3) ∧ decode (zcc m_X8_isNumber) 29 = .ok (.ifCond .ne (20), 3) := by decide +kernel
set_option maxRecDepth 20000 in
theorem eg_X8_isNumber_16 : decode (zcc m_X8_isNumber) 32 = .ok (.aload_n 0, 1) ∧ decode (zcc m_X8_isNumber) 33 = .ok (.aload_n 0, 1) ∧ decode (zcc m_X8_isNumber) 34 = .ok (.getfield 138, 3) ∧ decode (zcc m_X8_isNumber) 37 = .ok (.i2l, 1) ∧ decode (zcc m_X8_isNumber) 38 = .ok (.iload_n 1, 1) ∧ decode (zcc m_X8_isNumber) 39 = .ok (.i2l, 1) ∧ decode (zcc m_X8_isNumber) 40 = .ok (.iload_n 2, 1) ∧ decode (zcc m_X8_isNumber) 41 = .ok (.i2l, 1) := by decide +kernel
set_option maxRecDepth 20000 in
theorem eg_X8_isNumber_24 : decode (zcc m_X8_isNumber) 42 = .ok (.invokestatic 92, 3) ∧ decode (zcc m_X8_isNumber) 45 = .ok (.iconst 3, 1) ∧ decode (zcc m_X8_isNumber) 46 = .ok (.invokevirtual 141, 3) ∧ decode (zcc m_X8_isNumber) 49 = .ok (.return_, 1) := by decide +kernel
theorem d_X8_isNumber_0 : zD m_X8_isNumber 0 (.aload_n 0) 1 1 := ⟨eg_X8_isNumber_0.1, rfl⟩
theorem d_X8_isNumber_1 : zD m_X8_isNumber 1 (.getfield 107) 3 4 := ⟨eg_X8_isNumber_0.2.1, rfl⟩
theorem d_X8_isNumber_4 : zDj m_X8_isNumber 4 (.ifCond .ne) 7 25 := ⟨21, eg_X8_isNumber_0.2.2.1, rfl, by decide⟩
theorem d_X8_isNumber_7 : zD m_X8_isNumber 7 (.aload_n 0) 1 8 := ⟨eg_X8_isNumber_0.2.2.2.1, rfl⟩
theorem d_X8_isNumber_8 : zD m_X8_isNumber 8 (.aload_n 0) 1 9 := ⟨eg_X8_isNumber_0.2.2.2.2.1, rfl⟩
theorem d_X8_isNumber_9 : zD m_X8_isNumber 9 (.getfield 127) 3 12 := ⟨eg_X8_isNumber_0.2.2.2.2.2.1, rfl⟩
theorem d_X8_isNumber_12 : zD m_X8_isNumber 12 (.iconst 2) 1 13 := ⟨eg_X8_isNumber_0.2.2.2.2.2.2.1, rfl⟩
theorem d_X8_isNumber_13 : zDj m_X8_isNumber 13 (.if_icmp .ne) 16 20 := ⟨7, eg_X8_isNumber_0.2.2.2.2.2.2.2, rfl, by decide⟩
theorem d_X8_isNumber_16 : zD m_X8_isNumber 16 (.iconst 1) 1 17 := ⟨eg_X8_isNumber_8.1, rfl⟩
theorem d_X8_isNumber_17 : zDj m_X8_isNumber 17 (.goto) 20 21 := ⟨4, eg_X8_isNumber_8.2.1, rfl, by decide⟩
theorem d_X8_isNumber_20 : zD m_X8_isNumber 20 (.iconst 0) 1 21 := ⟨eg_X8_isNumber_8.2.2.1, rfl⟩
theorem d_X8_isNumber_21 : zD m_X8_isNumber 21 (.iconst 2) 1 22 := ⟨eg_X8_isNumber_8.2.2.2.1, rfl⟩
theorem d_X8_isNumber_22 : zD m_X8_isNumber 22 (.invokevirtual 141) 3 25 := ⟨eg_X8_isNumber_8.2.2.2.2.1, rfl⟩
theorem d_X8_isNumber_25 : zD m_X8_isNumber 25 (.aload_n 0) 1 26 := ⟨eg_X8_isNumber_8.2.2.2.2.2.1, rfl⟩
theorem d_X8_isNumber_26 : zD m_X8_isNumber 26 (.getfield 107) 3 29 := ⟨eg_X8_isNumber_8.2.2.2.2.2.2.1, rfl⟩
theorem d_X8_isNumber_29 : zDj m_X8_isNumber 29 (.ifCond .ne) 32 49 := ⟨20, eg_X8_isNumber_8.2.2.2.2.2.2.2, rfl, by decide⟩
theorem d_X8_isNumber_32 : zD m_X8_isNumber 32 (.aload_n 0) 1 33 := ⟨eg_X8_isNumber_16.1, rfl⟩
theorem d_X8_isNumber_33 : zD m_X8_isNumber 33 (.aload_n 0) 1 34 := ⟨eg_X8_isNumber_16.2.1, rfl⟩
theorem d_X8_isNumber_34 : zD m_X8_isNumber 34 (.getfield 138) 3 37 := ⟨eg_X8_isNumber_16.2.2.1, rfl⟩
theorem d_X8_isNumber_37 : zD m_X8_isNumber 37 (.i2l) 1 38 := ⟨eg_X8_isNumber_16.2.2.2.1, rfl⟩
theorem d_X8_isNumber_38 : zD m_X8_isNumber 38 (.iload_n 1) 1 39 := ⟨eg_X8_isNumber_16.2.2.2.2.1, rfl⟩
theorem d_X8_isNumber_39 : zD m_X8_isNumber 39 (.i2l) 1 40 := ⟨eg_X8_isNumber_16.2.2.2.2.2.1, rfl⟩
theorem d_X8_isNumber_40 : zD m_X8_isNumber 40 (.iload_n 2) 1 41 := ⟨eg_X8_isNumber_16.2.2.2.2.2.2.1, rfl⟩
theorem d_X8_isNumber_41 : zD m_X8_isNumber 41 (.i2l) 1 42 := ⟨eg_X8_isNumber_16.2.2.2.2.2.2.2, rfl⟩
theorem d_X8_isNumber_42 : zD m_X8_isNumber 42 (.invokestatic 92) 3 45 := ⟨eg_X8_isNumber_24.1, rfl⟩
theorem d_X8_isNumber_45 : zD m_X8_isNumber 45 (.iconst 3) 1 46 := ⟨eg_X8_isNumber_24.2.1, rfl⟩
theorem d_X8_isNumber_46 : zD m_X8_isNumber 46 (.invokevirtual 141) 3 49 := ⟨eg_X8_isNumber_24.2.2.1, rfl⟩
theorem d_X8_isNumber_49 : decode (zcc m_X8_isNumber) 49 = .ok (.return_, 1) := eg_X8_isNumber_24.2.2.2
set_option maxRecDepth 20000 in
theorem eg_X8_readNumber_0 : decode (zcc m_X8_readNumber) 0 = .ok (.aload_n 0, 1) ∧ decode (zcc m_X8_readNumber) 1 = .ok (.iload_n 1, 1) ∧ decode (zcc m_X8_readNumber) 2 = .ok (.iload_n 2, 1) ∧ decode (zcc m_X8_readNumber) 3 = .ok (.invokevirtual 145, 3) ∧ decode (zcc m_X8_readNumber) 6 = .ok (.aload_n 0, 1) ∧ decode (zcc m_X8_readNumber) 7 = .ok (.getfield 138, 3) ∧ decode (zcc m_X8_readNumber) 10 = .ok (.istore_n 3, 1) ∧ decode (zcc m_X8_readNumber) 11 = .ok (.aload_n 0, 1) := by decide +kernel
set_option maxRecDepth 20000 in
theorem eg_X8_readNumber_8 : decode (zcc m_X8_readNumber) 12 = .ok (.invokevirtual 149, 3) ∧ decode (zcc m_X8_readNumber) 15 = .ok (.iload_n 3, 1) ∧ decode (zcc m_X8_readNumber) 16 = .ok (.ireturn, 1) := by decide +kernel
theorem d_X8_readNumber_0 : zD m_X8_readNumber 0 (.aload_n 0) 1 1 := ⟨eg_X8_readNumber_0.1, rfl⟩
theorem d_X8_readNumber_1 : zD m_X8_readNumber 1 (.iload_n 1) 1 2 := ⟨eg_X8_readNumber_0.2.1, rfl⟩
theorem d_X8_readNumber_2 : zD m_X8_readNumber 2 (.iload_n 2) 1 3 := ⟨eg_X8_readNumber_0.2.2.1, rfl⟩
theorem d_X8_readNumber_3 : zD m_X8_readNumber 3 (.invokevirtual 145) 3 6 := ⟨eg_X8_readNumber_0.2.2.2.1, rfl⟩
theorem d_X8_readNumber_6 : zD m_X8_readNumber 6 (.aload_n 0) 1 7 := ⟨eg_X8_readNumber_0.2.2.2.2.1, rfl⟩
theorem d_X8_readNumber_7 : zD m_X8_readNumber 7 (.getfield 138) 3 10 := ⟨eg_X8_readNumber_0.2.2.2.2.2.1, rfl⟩
theorem d_X8_readNumber_10 : zD m_X8_readNumber 10 (.istore_n 3) 1 11 := ⟨eg_X8_readNumber_0.2.2.2.2.2.2.1, rfl⟩
theorem d_X8_readNumber_11 : zD m_X8_readNumber 11 (.aload_n 0) 1 12 := ⟨eg_X8_readNumber_0.2.2.2.2.2.2.2, rfl⟩
theorem d_X8_readNumber_12 : zD m_X8_readNumber 12 (.invokevirtual 149) 3 15 := ⟨eg_X8_readNumber_8.1, rfl⟩
theorem d_X8_readNumber_15 : zD m_X8_readNumber 15 (.iload_n 3) 1 16 := ⟨eg_X8_readNumber_8.2.1, rfl⟩
theorem d_X8_readNumber_16 : decode (zcc m_X8_readNumber) 16 = .ok (.ireturn, 1) := eg_X8_readNumber_8.2.2
set_option maxRecDepth 20000 in
theorem eg_X8_readRow_0 : decode (zcc m_X8_readRow) 0 = .ok (.iconst 0, 1) ∧ decode (zcc m_X8_readRow) 1 = .ok (.istore_n 1, 1) ∧ decode (zcc m_X8_readRow) 2 = .ok (.iload_n 1, 1) ∧ decode (zcc m_X8_readRow) 3 = .ok (.bipush 8, 2) ∧ decode (zcc m_X8_readRow) 5 = .ok (.if_icmp .ge (37), 3) ∧ decode (zcc m_X8_readRow) 8 = .ok (.aload_n 0, 1) ∧ decode (zcc m_X8_readRow) 9 = .ok (.getfield 107, 3) ∧ decode (zcc m_X8_readRow) 12 = .ok (.ifCond .ne (30), 3) := by decide +kernel
set_option maxRecDepth 20000 in
theorem eg_X8_readRow_8 : decode (zcc m_X8_readRow) 15 = .ok (.aload_n 0, 1) ∧ decode (zcc m_X8_readRow) 16 = .ok (.getfield 36, 3) ∧ decode (zcc m_X8_readRow) 19 = .ok (.bipush 8, 2) ∧ decode (zcc m_X8_readRow) 21 = .ok (.aload_n 0, 1) ∧ decode (zcc m_X8_readRow) 22 = .ok (.getfield 82, 3) ∧ decode (zcc m_X8_readRow) 25 = .ok (.imul, 1) ∧ decode (zcc m_X8_readRow) 26 = .ok (.iload_n 1, 1) ∧ decode (zcc m_X8_readRow) 27 = .ok (.iadd, 1) := by decide +kernel
set_option maxRecDepth 20000 in
theorem eg_X8_readRow_16 : decode (zcc m_X8_readRow) 28 = .ok (.aload_n 0, 1) ∧ decode (zcc m_X8_readRow) 29 = .ok (.iconst 0, 1) ∧ decode (zcc m_X8_readRow) 30 = .ok (.bipush 99, 2) ∧ decode (zcc m_X8_readRow) 32 = .ok (.invokevirtual 152, 3) ∧ decode (zcc m_X8_readRow) 35 = .ok (.iastore, 1) ∧ decode (zcc m_X8_readRow) 36 = .ok (.iinc 1 1, 3) ∧ decode (zcc m_X8_readRow) 39 = .ok (.goto (-37), 3) ∧ decode (zcc m_X8_readRow) 42 = .ok (.aload_n 0, 1) := by decide +kernel
set_option maxRecDepth 20000 in
theorem eg_X8_readRow_24 : decode (zcc m_X8_readRow) 43 = .ok (.dup, 1) ∧ decode (zcc m_X8_readRow) 44 = .ok (.getfield 82, 3) ∧ decode (zcc m_X8_readRow) 47 = .ok (.iconst 1, 1) ∧ decode (zcc m_X8_readRow) 48 = .ok (.iadd, 1) ∧ decode (zcc m_X8_readRow) 49 = .ok (.putfield 82, 3) ∧ decode (zcc m_X8_readRow) 52 = .ok (.return_, 1) := by decide +kernel
theorem d_X8_readRow_0 : zD m_X8_readRow 0 (.iconst 0) 1 1 := ⟨eg_X8_readRow_0.1, rfl⟩
theorem d_X8_readRow_1 : zD m_X8_readRow 1 (.istore_n 1) 1 2 := ⟨eg_X8_readRow_0.2.1, rfl⟩
theorem d_X8_readRow_2 : zD m_X8_readRow 2 (.iload_n 1) 1 3 := ⟨eg_X8_readRow_0.2.2.1, rfl⟩
theorem d_X8_readRow_3 : zD m_X8_readRow 3 (.bipush 8) 2 5 := ⟨eg_X8_readRow_0.2.2.2.1, rfl⟩
theorem d_X8_readRow_5 : zDj m_X8_readRow 5 (.if_icmp .ge) 8 42 := ⟨37, eg_X8_readRow_0.2.2.2.2.1, rfl, by decide⟩
theorem d_X8_readRow_8 : zD m_X8_readRow 8 (.aload_n 0) 1 9 := ⟨eg_X8_readRow_0.2.2.2.2.2.1, rfl⟩
theorem d_X8_readRow_9 : zD m_X8_readRow 9 (.getfield 107) 3 12 := ⟨eg_X8_readRow_0.2.2.2.2.2.2.1, rfl⟩
theorem d_X8_readRow_12 : zDj m_X8_readRow 12 (.ifCond .ne) 15 42 := ⟨30, eg_X8_readRow_0.2.2.2.2.2.2.2, rfl, by decide⟩
theorem d_X8_readRow_15 : zD m_X8_readRow 15 (.aload_n 0) 1 16 := ⟨eg_X8_readRow_8.1, rfl⟩
theorem d_X8_readRow_16 : zD m_X8_readRow 16 (.getfield 36) 3 19 := ⟨eg_X8_readRow_8.2.1, rfl⟩
theorem d_X8_readRow_19 : zD m_X8_readRow 19 (.bipush 8) 2 21 := ⟨eg_X8_readRow_8.2.2.1, rfl⟩
theorem d_X8_readRow_21 : zD m_X8_readRow 21 (.aload_n 0) 1 22 := ⟨eg_X8_readRow_8.2.2.2.1, rfl⟩
theorem d_X8_readRow_22 : zD m_X8_readRow 22 (.getfield 82) 3 25 := ⟨eg_X8_readRow_8.2.2.2.2.1, rfl⟩
theorem d_X8_readRow_25 : zD m_X8_readRow 25 (.imul) 1 26 := ⟨eg_X8_readRow_8.2.2.2.2.2.1, rfl⟩
theorem d_X8_readRow_26 : zD m_X8_readRow 26 (.iload_n 1) 1 27 := ⟨eg_X8_readRow_8.2.2.2.2.2.2.1, rfl⟩
theorem d_X8_readRow_27 : zD m_X8_readRow 27 (.iadd) 1 28 := ⟨eg_X8_readRow_8.2.2.2.2.2.2.2, rfl⟩
theorem d_X8_readRow_28 : zD m_X8_readRow 28 (.aload_n 0) 1 29 := ⟨eg_X8_readRow_16.1, rfl⟩
theorem d_X8_readRow_29 : zD m_X8_readRow 29 (.iconst 0) 1 30 := ⟨eg_X8_readRow_16.2.1, rfl⟩
theorem d_X8_readRow_30 : zD m_X8_readRow 30 (.bipush 99) 2 32 := ⟨eg_X8_readRow_16.2.2.1, rfl⟩
theorem d_X8_readRow_32 : zD m_X8_readRow 32 (.invokevirtual 152) 3 35 := ⟨eg_X8_readRow_16.2.2.2.1, rfl⟩
theorem d_X8_readRow_35 : zD m_X8_readRow 35 (.iastore) 1 36 := ⟨eg_X8_readRow_16.2.2.2.2.1, rfl⟩
theorem d_X8_readRow_36 : zD m_X8_readRow 36 (.iinc 1 1) 3 39 := ⟨eg_X8_readRow_16.2.2.2.2.2.1, rfl⟩
theorem d_X8_readRow_39 : zDj m_X8_readRow 39 (.goto) 42 2 := ⟨-37, eg_X8_readRow_16.2.2.2.2.2.2.1, rfl, by decide⟩
theorem d_X8_readRow_42 : zD m_X8_readRow 42 (.aload_n 0) 1 43 := ⟨eg_X8_readRow_16.2.2.2.2.2.2.2, rfl⟩
theorem d_X8_readRow_43 : zD m_X8_readRow 43 (.dup) 1 44 := ⟨eg_X8_readRow_24.1, rfl⟩
theorem d_X8_readRow_44 : zD m_X8_readRow 44 (.getfield 82) 3 47 := ⟨eg_X8_readRow_24.2.1, rfl⟩
theorem d_X8_readRow_47 : zD m_X8_readRow 47 (.iconst 1) 1 48 := ⟨eg_X8_readRow_24.2.2.1, rfl⟩
theorem d_X8_readRow_48 : zD m_X8_readRow 48 (.iadd) 1 49 := ⟨eg_X8_readRow_24.2.2.2.1, rfl⟩
theorem d_X8_readRow_49 : zD m_X8_readRow 49 (.putfield 82) 3 52 := ⟨eg_X8_readRow_24.2.2.2.2.1, rfl⟩
theorem d_X8_readRow_52 : decode (zcc m_X8_readRow) 52 = .ok (.return_, 1) := eg_X8_readRow_24.2.2.2.2.2
set_option maxRecDepth 20000 in
theorem eg_X8_readWell_0 : decode (zcc m_X8_readWell) 0 = .ok (.aload_n 0, 1) ∧ decode (zcc m_X8_readWell) 1 = .ok (.iconst 0, 1) ∧ decode (zcc m_X8_readWell) 2 = .ok (.bipush 47, 2) ∧ decode (zcc m_X8_readWell) 4 = .ok (.invokevirtual 145, 3) ∧ decode (zcc m_X8_readWell) 7 = .ok (.aload_n 0, 1) ∧ decode (zcc m_X8_readWell) 8 = .ok (.getfield 138, 3) ∧ decode (zcc m_X8_readWell) 11 = .ok (.istore_n 2, 1) ∧ decode (zcc m_X8_readWell) 12 = .ok (.aload_n 0, 1) := by decide +kernel
set_option maxRecDepth 20000 in
theorem eg_X8_readWell_8 : decode (zcc m_X8_readWell) 13 = .ok (.getfield 107, 3) ∧ decode (zcc m_X8_readWell) 16 = .ok (.ifCond .ne (35), 3) ∧ decode (zcc m_X8_readWell) 19 = .ok (.aload_n 0, 1) ∧ decode (zcc m_X8_readWell) 20 = .ok (.iload_n 1, 1) ∧ decode (zcc m_X8_readWell) 21 = .ok (.ifCond .eq (12), 3) ∧ decode (zcc m_X8_readWell) 24 = .ok (.aload_n 0, 1) ∧ decode (zcc m_X8_readWell) 25 = .ok (.getfield 42, 3) ∧ decode (zcc m_X8_readWell) 28 = .ok (.iload_n 2, 1) := by decide +kernel
set_option maxRecDepth 20000 in
theorem eg_X8_readWell_16 : decode (zcc m_X8_readWell) 29 = .ok (.iaload, 1) ∧ decode (zcc m_X8_readWell) 30 = .ok (.goto (9), 3) ∧ decode (zcc m_X8_readWell) 33 = .ok (.aload_n 0, 1) ∧ decode (zcc m_X8_readWell) 34 = .ok (.getfield 39, 3) ∧ decode (zcc m_X8_readWell) 37 = .ok (.iload_n 2, 1) ∧ decode (zcc m_X8_readWell) 38 = .ok (.iaload, 1) ∧ decode (zcc m_X8_readWell) 39 = .ok (.ifCond .ne (7), 3) ∧ decode (zcc m_X8_readWell) 42 = .ok (.iconst 1, 1) := by decide +kernel
set_option maxRecDepth 20000 in
theorem eg_X8_readWell_24 : decode (zcc m_X8_readWell) 43 = .ok (.goto (4), 3) ∧ decode (zcc m_X8_readWell) 46 = .ok (.iconst 0, 1) ∧ decode (zcc m_X8_readWell) 47 = .ok (.iconst 4, 1) ∧ decode (zcc m_X8_readWell) 48 = .ok (.invokevirtual 141, 3) ∧ decode (zcc m_X8_readWell) 51 = .ok (.aload_n 0, 1) ∧ decode (zcc m_X8_readWell) 52 = .ok (.invokevirtual 149, 3) ∧ decode (zcc m_X8_readWell) 55 = .ok (.aload_n 0, 1) ∧ decode (zcc m_X8_readWell) 56 = .ok (.iconst 1, 1) := by decide +kernel
set_option maxRecDepth 20000 in
theorem eg_X8_readWell_32 : decode (zcc m_X8_readWell) 57 = .ok (.iload_n 1, 1) ∧ decode (zcc m_X8_readWell) 58 = .ok (.ifCond .eq (8), 3) ∧ decode (zcc m_X8_readWell) 61 = .ok (.bipush 50, 2) ∧ decode (zcc m_X8_readWell) 63 = .ok (.goto (5), 3) ∧ decode (zcc m_X8_readWell) 66 = .ok (.bipush 99, 2) ∧ decode (zcc m_X8_readWell) 68 = .ok (.invokevirtual 152, 3) ∧ decode (zcc m_X8_readWell) 71 = .ok (.istore_n 3, 1) ∧ decode (zcc m_X8_readWell) 72 = .ok (.aload_n 0, 1) := by decide +kernel
set_option maxRecDepth 20000 in
theorem eg_X8_readWell_40 : decode (zcc m_X8_readWell) 73 = .ok (.getfield 107, 3) ∧ decode (zcc m_X8_readWell) 76 = .ok (.ifCond .ne (17), 3) ∧ decode (zcc m_X8_readWell) 79 = .ok (.iload_n 1, 1) ∧ decode (zcc m_X8_readWell) 80 = .ok (.ifCond .eq (13), 3) ∧ decode (zcc m_X8_readWell) 83 = .ok (.aload_n 0, 1) ∧ decode (zcc m_X8_readWell) 84 = .ok (.getfield 42, 3) ∧ decode (zcc m_X8_readWell) 87 = .ok (.iload_n 2, 1) ∧ decode (zcc m_X8_readWell) 88 = .ok (.iload_n 3, 1) := by decide +kernel
set_option maxRecDepth 20000 in
theorem eg_X8_readWell_48 : decode (zcc m_X8_readWell) 89 = .ok (.iastore, 1) ∧ decode (zcc m_X8_readWell) 90 = .ok (.goto (17), 3) ∧ decode (zcc m_X8_readWell) 93 = .ok (.aload_n 0, 1) ∧ decode (zcc m_X8_readWell) 94 = .ok (.getfield 107, 3) ∧ decode (zcc m_X8_readWell) 97 = .ok (.ifCond .ne (10), 3) ∧ decode (zcc m_X8_readWell) 100 = .ok (.aload_n 0, 1) ∧ decode (zcc m_X8_readWell) 101 = .ok (.getfield 39, 3) ∧ decode (zcc m_X8_readWell) 104 = .ok (.iload_n 2, 1) := by decide +kernel
set_option maxRecDepth 20000 in
theorem eg_X8_readWell_56 : decode (zcc m_X8_readWell) 105 = .ok (.iload_n 3, 1) ∧ decode (zcc m_X8_readWell) 106 = .ok (.iastore, 1) ∧ decode (zcc m_X8_readWell) 107 = .ok (.return_, 1) := by decide +kernel
theorem d_X8_readWell_0 : zD m_X8_readWell 0 (.aload_n 0) 1 1 := ⟨eg_X8_readWell_0.1, rfl⟩
theorem d_X8_readWell_1 : zD m_X8_readWell 1 (.iconst 0) 1 2 := ⟨eg_X8_readWell_0.2.1, rfl⟩
theorem d_X8_readWell_2 : zD m_X8_readWell 2 (.bipush 47) 2 4 := ⟨eg_X8_readWell_0.2.2.1, rfl⟩
theorem d_X8_readWell_4 : zD m_X8_readWell 4 (.invokevirtual 145) 3 7 := ⟨eg_X8_readWell_0.2.2.2.1, rfl⟩
theorem d_X8_readWell_7 : zD m_X8_readWell 7 (.aload_n 0) 1 8 := ⟨eg_X8_readWell_0.2.2.2.2.1, rfl⟩
theorem d_X8_readWell_8 : zD m_X8_readWell 8 (.getfield 138) 3 11 := ⟨eg_X8_readWell_0.2.2.2.2.2.1, rfl⟩
theorem d_X8_readWell_11 : zD m_X8_readWell 11 (.istore_n 2) 1 12 := ⟨eg_X8_readWell_0.2.2.2.2.2.2.1, rfl⟩
theorem d_X8_readWell_12 : zD m_X8_readWell 12 (.aload_n 0) 1 13 := ⟨eg_X8_readWell_0.2.2.2.2.2.2.2, rfl⟩
theorem d_X8_readWell_13 : zD m_X8_readWell 13 (.getfield 107) 3 16 := ⟨eg_X8_readWell_8.1, rfl⟩
theorem d_X8_readWell_16 : zDj m_X8_readWell 16 (.ifCond .ne) 19 51 := ⟨35, eg_X8_readWell_8.2.1, rfl, by decide⟩
theorem d_X8_readWell_19 : zD m_X8_readWell 19 (.aload_n 0) 1 20 := ⟨eg_X8_readWell_8.2.2.1, rfl⟩
theorem d_X8_readWell_20 : zD m_X8_readWell 20 (.iload_n 1) 1 21 := ⟨eg_X8_readWell_8.2.2.2.1, rfl⟩
theorem d_X8_readWell_21 : zDj m_X8_readWell 21 (.ifCond .eq) 24 33 := ⟨12, eg_X8_readWell_8.2.2.2.2.1, rfl, by decide⟩
theorem d_X8_readWell_24 : zD m_X8_readWell 24 (.aload_n 0) 1 25 := ⟨eg_X8_readWell_8.2.2.2.2.2.1, rfl⟩
theorem d_X8_readWell_25 : zD m_X8_readWell 25 (.getfield 42) 3 28 := ⟨eg_X8_readWell_8.2.2.2.2.2.2.1, rfl⟩
theorem d_X8_readWell_28 : zD m_X8_readWell 28 (.iload_n 2) 1 29 := ⟨eg_X8_readWell_8.2.2.2.2.2.2.2, rfl⟩
theorem d_X8_readWell_29 : zD m_X8_readWell 29 (.iaload) 1 30 := ⟨eg_X8_readWell_16.1, rfl⟩
theorem d_X8_readWell_30 : zDj m_X8_readWell 30 (.goto) 33 39 := ⟨9, eg_X8_readWell_16.2.1, rfl, by decide⟩
theorem d_X8_readWell_33 : zD m_X8_readWell 33 (.aload_n 0) 1 34 := ⟨eg_X8_readWell_16.2.2.1, rfl⟩
theorem d_X8_readWell_34 : zD m_X8_readWell 34 (.getfield 39) 3 37 := ⟨eg_X8_readWell_16.2.2.2.1, rfl⟩
theorem d_X8_readWell_37 : zD m_X8_readWell 37 (.iload_n 2) 1 38 := ⟨eg_X8_readWell_16.2.2.2.2.1, rfl⟩
theorem d_X8_readWell_38 : zD m_X8_readWell 38 (.iaload) 1 39 := ⟨eg_X8_readWell_16.2.2.2.2.2.1, rfl⟩
theorem d_X8_readWell_39 : zDj m_X8_readWell 39 (.ifCond .ne) 42 46 := ⟨7, eg_X8_readWell_16.2.2.2.2.2.2.1, rfl, by decide⟩
theorem d_X8_readWell_42 : zD m_X8_readWell 42 (.iconst 1) 1 43 := ⟨eg_X8_readWell_16.2.2.2.2.2.2.2, rfl⟩
theorem d_X8_readWell_43 : zDj m_X8_readWell 43 (.goto) 46 47 := ⟨4, eg_X8_readWell_24.1, rfl, by decide⟩
theorem d_X8_readWell_46 : zD m_X8_readWell 46 (.iconst 0) 1 47 := ⟨eg_X8_readWell_24.2.1, rfl⟩
theorem d_X8_readWell_47 : zD m_X8_readWell 47 (.iconst 4) 1 48 := ⟨eg_X8_readWell_24.2.2.1, rfl⟩
theorem d_X8_readWell_48 : zD m_X8_readWell 48 (.invokevirtual 141) 3 51 := ⟨eg_X8_readWell_24.2.2.2.1, rfl⟩
theorem d_X8_readWell_51 : zD m_X8_readWell 51 (.aload_n 0) 1 52 := ⟨eg_X8_readWell_24.2.2.2.2.1, rfl⟩
theorem d_X8_readWell_52 : zD m_X8_readWell 52 (.invokevirtual 149) 3 55 := ⟨eg_X8_readWell_24.2.2.2.2.2.1, rfl⟩
theorem d_X8_readWell_55 : zD m_X8_readWell 55 (.aload_n 0) 1 56 := ⟨eg_X8_readWell_24.2.2.2.2.2.2.1, rfl⟩
theorem d_X8_readWell_56 : zD m_X8_readWell 56 (.iconst 1) 1 57 := ⟨eg_X8_readWell_24.2.2.2.2.2.2.2, rfl⟩
theorem d_X8_readWell_57 : zD m_X8_readWell 57 (.iload_n 1) 1 58 := ⟨eg_X8_readWell_32.1, rfl⟩
theorem d_X8_readWell_58 : zDj m_X8_readWell 58 (.ifCond .eq) 61 66 := ⟨8, eg_X8_readWell_32.2.1, rfl, by decide⟩
theorem d_X8_readWell_61 : zD m_X8_readWell 61 (.bipush 50) 2 63 := ⟨eg_X8_readWell_32.2.2.1, rfl⟩
theorem d_X8_readWell_63 : zDj m_X8_readWell 63 (.goto) 66 68 := ⟨5, eg_X8_readWell_32.2.2.2.1, rfl, by decide⟩
theorem d_X8_readWell_66 : zD m_X8_readWell 66 (.bipush 99) 2 68 := ⟨eg_X8_readWell_32.2.2.2.2.1, rfl⟩
theorem d_X8_readWell_68 : zD m_X8_readWell 68 (.invokevirtual 152) 3 71 := ⟨eg_X8_readWell_32.2.2.2.2.2.1, rfl⟩
theorem d_X8_readWell_71 : zD m_X8_readWell 71 (.istore_n 3) 1 72 := ⟨eg_X8_readWell_32.2.2.2.2.2.2.1, rfl⟩
theorem d_X8_readWell_72 : zD m_X8_readWell 72 (.aload_n 0) 1 73 := ⟨eg_X8_readWell_32.2.2.2.2.2.2.2, rfl⟩
theorem d_X8_readWell_73 : zD m_X8_readWell 73 (.getfield 107) 3 76 := ⟨eg_X8_readWell_40.1, rfl⟩
theorem d_X8_readWell_76 : zDj m_X8_readWell 76 (.ifCond .ne) 79 93 := ⟨17, eg_X8_readWell_40.2.1, rfl, by decide⟩
theorem d_X8_readWell_79 : zD m_X8_readWell 79 (.iload_n 1) 1 80 := ⟨eg_X8_readWell_40.2.2.1, rfl⟩
theorem d_X8_readWell_80 : zDj m_X8_readWell 80 (.ifCond .eq) 83 93 := ⟨13, eg_X8_readWell_40.2.2.2.1, rfl, by decide⟩
theorem d_X8_readWell_83 : zD m_X8_readWell 83 (.aload_n 0) 1 84 := ⟨eg_X8_readWell_40.2.2.2.2.1, rfl⟩
theorem d_X8_readWell_84 : zD m_X8_readWell 84 (.getfield 42) 3 87 := ⟨eg_X8_readWell_40.2.2.2.2.2.1, rfl⟩
theorem d_X8_readWell_87 : zD m_X8_readWell 87 (.iload_n 2) 1 88 := ⟨eg_X8_readWell_40.2.2.2.2.2.2.1, rfl⟩
theorem d_X8_readWell_88 : zD m_X8_readWell 88 (.iload_n 3) 1 89 := ⟨eg_X8_readWell_40.2.2.2.2.2.2.2, rfl⟩
theorem d_X8_readWell_89 : zD m_X8_readWell 89 (.iastore) 1 90 := ⟨eg_X8_readWell_48.1, rfl⟩
theorem d_X8_readWell_90 : zDj m_X8_readWell 90 (.goto) 93 107 := ⟨17, eg_X8_readWell_48.2.1, rfl, by decide⟩
theorem d_X8_readWell_93 : zD m_X8_readWell 93 (.aload_n 0) 1 94 := ⟨eg_X8_readWell_48.2.2.1, rfl⟩
theorem d_X8_readWell_94 : zD m_X8_readWell 94 (.getfield 107) 3 97 := ⟨eg_X8_readWell_48.2.2.2.1, rfl⟩
theorem d_X8_readWell_97 : zDj m_X8_readWell 97 (.ifCond .ne) 100 107 := ⟨10, eg_X8_readWell_48.2.2.2.2.1, rfl, by decide⟩
theorem d_X8_readWell_100 : zD m_X8_readWell 100 (.aload_n 0) 1 101 := ⟨eg_X8_readWell_48.2.2.2.2.2.1, rfl⟩
theorem d_X8_readWell_101 : zD m_X8_readWell 101 (.getfield 39) 3 104 := ⟨eg_X8_readWell_48.2.2.2.2.2.2.1, rfl⟩
theorem d_X8_readWell_104 : zD m_X8_readWell 104 (.iload_n 2) 1 105 := ⟨eg_X8_readWell_48.2.2.2.2.2.2.2, rfl⟩
theorem d_X8_readWell_105 : zD m_X8_readWell 105 (.iload_n 3) 1 106 := ⟨eg_X8_readWell_56.1, rfl⟩
theorem d_X8_readWell_106 : zD m_X8_readWell 106 (.iastore) 1 107 := ⟨eg_X8_readWell_56.2.1, rfl⟩
theorem d_X8_readWell_107 : decode (zcc m_X8_readWell) 107 = .ok (.return_, 1) := eg_X8_readWell_56.2.2
set_option maxRecDepth 20000 in
theorem eg_X8_readClock_0 : decode (zcc m_X8_readClock) 0 = .ok (.aload_n 0, 1) ∧ decode (zcc m_X8_readClock) 1 = .ok (.iconst 1, 1) ∧ decode (zcc m_X8_readClock) 2 = .ok (.putfield 78, 3) ∧ decode (zcc m_X8_readClock) 5 = .ok (.aload_n 0, 1) ∧ decode (zcc m_X8_readClock) 6 = .ok (.getfield 45, 3) ∧ decode (zcc m_X8_readClock) 9 = .ok (.iconst 0, 1) ∧ decode (zcc m_X8_readClock) 10 = .ok (.aload_n 0, 1) ∧ decode (zcc m_X8_readClock) 11 = .ok (.iconst 0, 1) := by decide +kernel
set_option maxRecDepth 20000 in
theorem eg_X8_readClock_8 : decode (zcc m_X8_readClock) 12 = .ok (.bipush 15, 2) ∧ decode (zcc m_X8_readClock) 14 = .ok (.invokevirtual 152, 3) ∧ decode (zcc m_X8_readClock) 17 = .ok (.iastore, 1) ∧ decode (zcc m_X8_readClock) 18 = .ok (.aload_n 0, 1) ∧ decode (zcc m_X8_readClock) 19 = .ok (.getfield 107, 3) ∧ decode (zcc m_X8_readClock) 22 = .ok (.ifCond .ne (68), 3) ∧ decode (zcc m_X8_readClock) 25 = .ok (.aload_n 0, 1) ∧ decode (zcc m_X8_readClock) 26 = .ok (.getfield 127, 3) := by decide +kernel
set_option maxRecDepth 20000 in
theorem eg_X8_readClock_16 : decode (zcc m_X8_readClock) 29 = .ok (.iconst 2, 1) ∧ decode (zcc m_X8_readClock) 30 = .ok (.if_icmp .ne (60), 3) ∧ decode (zcc m_X8_readClock) 33 = .ok (.aload_n 0, 1) ∧ decode (zcc m_X8_readClock) 34 = .ok (.aload_n 0, 1) ∧ decode (zcc m_X8_readClock) 35 = .ok (.getfield 78, 3) ∧ decode (zcc m_X8_readClock) 38 = .ok (.bipush 12, 2) ∧ decode (zcc m_X8_readClock) 40 = .ok (.if_icmp .ge (7), 3) ∧ decode (zcc m_X8_readClock) 43 = .ok (.iconst 1, 1) := by decide +kernel
set_option maxRecDepth 20000 in
theorem eg_X8_readClock_24 : decode (zcc m_X8_readClock) 44 = .ok (.goto (4), 3) ∧ decode (zcc m_X8_readClock) 47 = .ok (.iconst 0, 1) ∧ decode (zcc m_X8_readClock) 48 = .ok (.iconst 5, 1) ∧ decode (zcc m_X8_readClock) 49 = .ok (.invokevirtual 141, 3) ∧ decode (zcc m_X8_readClock) 52 = .ok (.aload_n 0, 1) ∧ decode (zcc m_X8_readClock) 53 = .ok (.iconst 0, 1) ∧ decode (zcc m_X8_readClock) 54 = .ok (.bipush 15, 2) ∧ decode (zcc m_X8_readClock) 56 = .ok (.invokevirtual 152, 3) := by decide +kernel
set_option maxRecDepth 20000 in
theorem eg_X8_readClock_32 : decode (zcc m_X8_readClock) 59 = .ok (.istore_n 1, 1) ∧ decode (zcc m_X8_readClock) 60 = .ok (.aload_n 0, 1) ∧ decode (zcc m_X8_readClock) 61 = .ok (.getfield 107, 3) ∧ decode (zcc m_X8_readClock) 64 = .ok (.ifCond .ne (23), 3) ∧ decode (zcc m_X8_readClock) 67 = .ok (.aload_n 0, 1) ∧ decode (zcc m_X8_readClock) 68 = .ok (.getfield 45, 3) ∧ decode (zcc m_X8_readClock) 71 = .ok (.aload_n 0, 1) ∧ decode (zcc m_X8_readClock) 72 = .ok (.getfield 78, 3) := by decide +kernel
set_option maxRecDepth 20000 in
theorem eg_X8_readClock_40 : decode (zcc m_X8_readClock) 75 = .ok (.iload_n 1, 1) ∧ decode (zcc m_X8_readClock) 76 = .ok (.iastore, 1) ∧ decode (zcc m_X8_readClock) 77 = .ok (.aload_n 0, 1) ∧ decode (zcc m_X8_readClock) 78 = .ok (.dup, 1) ∧ decode (zcc m_X8_readClock) 79 = .ok (.getfield 78, 3) ∧ decode (zcc m_X8_readClock) 82 = .ok (.iconst 1, 1) ∧ decode (zcc m_X8_readClock) 83 = .ok (.iadd, 1) ∧ decode (zcc m_X8_readClock) 84 = .ok (.putfield 78, 3) := by decide +kernel
set_option maxRecDepth 20000 in
theorem eg_X8_readClock_48 : decode (zcc m_X8_readClock) 87 = .ok (.goto (-69), 3) ∧ decode (zcc m_X8_readClock) 90 = .ok (.return_, 1) := by decide +kernel
theorem d_X8_readClock_0 : zD m_X8_readClock 0 (.aload_n 0) 1 1 := ⟨eg_X8_readClock_0.1, rfl⟩
theorem d_X8_readClock_1 : zD m_X8_readClock 1 (.iconst 1) 1 2 := ⟨eg_X8_readClock_0.2.1, rfl⟩
theorem d_X8_readClock_2 : zD m_X8_readClock 2 (.putfield 78) 3 5 := ⟨eg_X8_readClock_0.2.2.1, rfl⟩
theorem d_X8_readClock_5 : zD m_X8_readClock 5 (.aload_n 0) 1 6 := ⟨eg_X8_readClock_0.2.2.2.1, rfl⟩
theorem d_X8_readClock_6 : zD m_X8_readClock 6 (.getfield 45) 3 9 := ⟨eg_X8_readClock_0.2.2.2.2.1, rfl⟩
theorem d_X8_readClock_9 : zD m_X8_readClock 9 (.iconst 0) 1 10 := ⟨eg_X8_readClock_0.2.2.2.2.2.1, rfl⟩
theorem d_X8_readClock_10 : zD m_X8_readClock 10 (.aload_n 0) 1 11 := ⟨eg_X8_readClock_0.2.2.2.2.2.2.1, rfl⟩
theorem d_X8_readClock_11 : zD m_X8_readClock 11 (.iconst 0) 1 12 := ⟨eg_X8_readClock_0.2.2.2.2.2.2.2, rfl⟩
theorem d_X8_readClock_12 : zD m_X8_readClock 12 (.bipush 15) 2 14 := ⟨eg_X8_readClock_8.1, rfl⟩
theorem d_X8_readClock_14 : zD m_X8_readClock 14 (.invokevirtual 152) 3 17 := ⟨eg_X8_readClock_8.2.1, rfl⟩
theorem d_X8_readClock_17 : zD m_X8_readClock 17 (.iastore) 1 18 := ⟨eg_X8_readClock_8.2.2.1, rfl⟩
theorem d_X8_readClock_18 : zD m_X8_readClock 18 (.aload_n 0) 1 19 := ⟨eg_X8_readClock_8.2.2.2.1, rfl⟩
theorem d_X8_readClock_19 : zD m_X8_readClock 19 (.getfield 107) 3 22 := ⟨eg_X8_readClock_8.2.2.2.2.1, rfl⟩
theorem d_X8_readClock_22 : zDj m_X8_readClock 22 (.ifCond .ne) 25 90 := ⟨68, eg_X8_readClock_8.2.2.2.2.2.1, rfl, by decide⟩
theorem d_X8_readClock_25 : zD m_X8_readClock 25 (.aload_n 0) 1 26 := ⟨eg_X8_readClock_8.2.2.2.2.2.2.1, rfl⟩
theorem d_X8_readClock_26 : zD m_X8_readClock 26 (.getfield 127) 3 29 := ⟨eg_X8_readClock_8.2.2.2.2.2.2.2, rfl⟩
theorem d_X8_readClock_29 : zD m_X8_readClock 29 (.iconst 2) 1 30 := ⟨eg_X8_readClock_16.1, rfl⟩
theorem d_X8_readClock_30 : zDj m_X8_readClock 30 (.if_icmp .ne) 33 90 := ⟨60, eg_X8_readClock_16.2.1, rfl, by decide⟩
theorem d_X8_readClock_33 : zD m_X8_readClock 33 (.aload_n 0) 1 34 := ⟨eg_X8_readClock_16.2.2.1, rfl⟩
theorem d_X8_readClock_34 : zD m_X8_readClock 34 (.aload_n 0) 1 35 := ⟨eg_X8_readClock_16.2.2.2.1, rfl⟩
theorem d_X8_readClock_35 : zD m_X8_readClock 35 (.getfield 78) 3 38 := ⟨eg_X8_readClock_16.2.2.2.2.1, rfl⟩
theorem d_X8_readClock_38 : zD m_X8_readClock 38 (.bipush 12) 2 40 := ⟨eg_X8_readClock_16.2.2.2.2.2.1, rfl⟩
theorem d_X8_readClock_40 : zDj m_X8_readClock 40 (.if_icmp .ge) 43 47 := ⟨7, eg_X8_readClock_16.2.2.2.2.2.2.1, rfl, by decide⟩
theorem d_X8_readClock_43 : zD m_X8_readClock 43 (.iconst 1) 1 44 := ⟨eg_X8_readClock_16.2.2.2.2.2.2.2, rfl⟩
theorem d_X8_readClock_44 : zDj m_X8_readClock 44 (.goto) 47 48 := ⟨4, eg_X8_readClock_24.1, rfl, by decide⟩
theorem d_X8_readClock_47 : zD m_X8_readClock 47 (.iconst 0) 1 48 := ⟨eg_X8_readClock_24.2.1, rfl⟩
theorem d_X8_readClock_48 : zD m_X8_readClock 48 (.iconst 5) 1 49 := ⟨eg_X8_readClock_24.2.2.1, rfl⟩
theorem d_X8_readClock_49 : zD m_X8_readClock 49 (.invokevirtual 141) 3 52 := ⟨eg_X8_readClock_24.2.2.2.1, rfl⟩
theorem d_X8_readClock_52 : zD m_X8_readClock 52 (.aload_n 0) 1 53 := ⟨eg_X8_readClock_24.2.2.2.2.1, rfl⟩
theorem d_X8_readClock_53 : zD m_X8_readClock 53 (.iconst 0) 1 54 := ⟨eg_X8_readClock_24.2.2.2.2.2.1, rfl⟩
theorem d_X8_readClock_54 : zD m_X8_readClock 54 (.bipush 15) 2 56 := ⟨eg_X8_readClock_24.2.2.2.2.2.2.1, rfl⟩
theorem d_X8_readClock_56 : zD m_X8_readClock 56 (.invokevirtual 152) 3 59 := ⟨eg_X8_readClock_24.2.2.2.2.2.2.2, rfl⟩
theorem d_X8_readClock_59 : zD m_X8_readClock 59 (.istore_n 1) 1 60 := ⟨eg_X8_readClock_32.1, rfl⟩
theorem d_X8_readClock_60 : zD m_X8_readClock 60 (.aload_n 0) 1 61 := ⟨eg_X8_readClock_32.2.1, rfl⟩
theorem d_X8_readClock_61 : zD m_X8_readClock 61 (.getfield 107) 3 64 := ⟨eg_X8_readClock_32.2.2.1, rfl⟩
theorem d_X8_readClock_64 : zDj m_X8_readClock 64 (.ifCond .ne) 67 87 := ⟨23, eg_X8_readClock_32.2.2.2.1, rfl, by decide⟩
theorem d_X8_readClock_67 : zD m_X8_readClock 67 (.aload_n 0) 1 68 := ⟨eg_X8_readClock_32.2.2.2.2.1, rfl⟩
theorem d_X8_readClock_68 : zD m_X8_readClock 68 (.getfield 45) 3 71 := ⟨eg_X8_readClock_32.2.2.2.2.2.1, rfl⟩
theorem d_X8_readClock_71 : zD m_X8_readClock 71 (.aload_n 0) 1 72 := ⟨eg_X8_readClock_32.2.2.2.2.2.2.1, rfl⟩
theorem d_X8_readClock_72 : zD m_X8_readClock 72 (.getfield 78) 3 75 := ⟨eg_X8_readClock_32.2.2.2.2.2.2.2, rfl⟩
theorem d_X8_readClock_75 : zD m_X8_readClock 75 (.iload_n 1) 1 76 := ⟨eg_X8_readClock_40.1, rfl⟩
theorem d_X8_readClock_76 : zD m_X8_readClock 76 (.iastore) 1 77 := ⟨eg_X8_readClock_40.2.1, rfl⟩
theorem d_X8_readClock_77 : zD m_X8_readClock 77 (.aload_n 0) 1 78 := ⟨eg_X8_readClock_40.2.2.1, rfl⟩
theorem d_X8_readClock_78 : zD m_X8_readClock 78 (.dup) 1 79 := ⟨eg_X8_readClock_40.2.2.2.1, rfl⟩
theorem d_X8_readClock_79 : zD m_X8_readClock 79 (.getfield 78) 3 82 := ⟨eg_X8_readClock_40.2.2.2.2.1, rfl⟩
theorem d_X8_readClock_82 : zD m_X8_readClock 82 (.iconst 1) 1 83 := ⟨eg_X8_readClock_40.2.2.2.2.2.1, rfl⟩
theorem d_X8_readClock_83 : zD m_X8_readClock 83 (.iadd) 1 84 := ⟨eg_X8_readClock_40.2.2.2.2.2.2.1, rfl⟩
theorem d_X8_readClock_84 : zD m_X8_readClock 84 (.putfield 78) 3 87 := ⟨eg_X8_readClock_40.2.2.2.2.2.2.2, rfl⟩
theorem d_X8_readClock_87 : zDj m_X8_readClock 87 (.goto) 90 18 := ⟨-69, eg_X8_readClock_48.1, rfl, by decide⟩
theorem d_X8_readClock_90 : decode (zcc m_X8_readClock) 90 = .ok (.return_, 1) := eg_X8_readClock_48.2
set_option maxRecDepth 20000 in
theorem eg_X8_readRule_0 : decode (zcc m_X8_readRule) 0 = .ok (.iload_n 1, 1) ∧ decode (zcc m_X8_readRule) 1 = .ok (.tableswitch 143 3 8 #[39, 56, 72, 82, 98, 127], 39) ∧ decode (zcc m_X8_readRule) 40 = .ok (.aload_n 0, 1) ∧ decode (zcc m_X8_readRule) 41 = .ok (.getfield 33, 3) ∧ decode (zcc m_X8_readRule) 44 = .ok (.iconst 0, 1) ∧ decode (zcc m_X8_readRule) 45 = .ok (.aload_n 0, 1) ∧ decode (zcc m_X8_readRule) 46 = .ok (.iconst 1, 1) ∧ decode (zcc m_X8_readRule) 47 = .ok (.sipush 999, 3) := by decide +kernel
set_option maxRecDepth 20000 in
theorem eg_X8_readRule_8 : decode (zcc m_X8_readRule) 50 = .ok (.invokevirtual 152, 3) ∧ decode (zcc m_X8_readRule) 53 = .ok (.iastore, 1) ∧ decode (zcc m_X8_readRule) 54 = .ok (.goto (94), 3) ∧ decode (zcc m_X8_readRule) 57 = .ok (.aload_n 0, 1) ∧ decode (zcc m_X8_readRule) 58 = .ok (.getfield 33, 3) ∧ decode (zcc m_X8_readRule) 61 = .ok (.iconst 1, 1) ∧ decode (zcc m_X8_readRule) 62 = .ok (.aload_n 0, 1) ∧ decode (zcc m_X8_readRule) 63 = .ok (.iconst 0, 1) := by decide +kernel
set_option maxRecDepth 20000 in
theorem eg_X8_readRule_16 : decode (zcc m_X8_readRule) 64 = .ok (.bipush 9, 2) ∧ decode (zcc m_X8_readRule) 66 = .ok (.invokevirtual 152, 3) ∧ decode (zcc m_X8_readRule) 69 = .ok (.iastore, 1) ∧ decode (zcc m_X8_readRule) 70 = .ok (.goto (78), 3) ∧ decode (zcc m_X8_readRule) 73 = .ok (.aload_n 0, 1) ∧ decode (zcc m_X8_readRule) 74 = .ok (.getfield 33, 3) ∧ decode (zcc m_X8_readRule) 77 = .ok (.iconst 2, 1) ∧ decode (zcc m_X8_readRule) 78 = .ok (.iconst 1, 1) := by decide +kernel
set_option maxRecDepth 20000 in
theorem eg_X8_readRule_24 : decode (zcc m_X8_readRule) 79 = .ok (.iastore, 1) ∧ decode (zcc m_X8_readRule) 80 = .ok (.goto (68), 3) ∧ decode (zcc m_X8_readRule) 83 = .ok (.aload_n 0, 1) ∧ decode (zcc m_X8_readRule) 84 = .ok (.getfield 33, 3) ∧ decode (zcc m_X8_readRule) 87 = .ok (.iconst 3, 1) ∧ decode (zcc m_X8_readRule) 88 = .ok (.aload_n 0, 1) ∧ decode (zcc m_X8_readRule) 89 = .ok (.iconst 0, 1) ∧ decode (zcc m_X8_readRule) 90 = .ok (.bipush 9, 2) := by decide +kernel
set_option maxRecDepth 20000 in
theorem eg_X8_readRule_32 : decode (zcc m_X8_readRule) 92 = .ok (.invokevirtual 152, 3) ∧ decode (zcc m_X8_readRule) 95 = .ok (.iastore, 1) ∧ decode (zcc m_X8_readRule) 96 = .ok (.goto (52), 3) ∧ decode (zcc m_X8_readRule) 99 = .ok (.aload_n 0, 1) ∧ decode (zcc m_X8_readRule) 100 = .ok (.getfield 33, 3) ∧ decode (zcc m_X8_readRule) 103 = .ok (.iconst 4, 1) ∧ decode (zcc m_X8_readRule) 104 = .ok (.aload_n 0, 1) ∧ decode (zcc m_X8_readRule) 105 = .ok (.iconst 1, 1) := by decide +kernel
set_option maxRecDepth 20000 in
theorem eg_X8_readRule_40 : decode (zcc m_X8_readRule) 106 = .ok (.bipush 9, 2) ∧ decode (zcc m_X8_readRule) 108 = .ok (.invokevirtual 152, 3) ∧ decode (zcc m_X8_readRule) 111 = .ok (.iastore, 1) ∧ decode (zcc m_X8_readRule) 112 = .ok (.aload_n 0, 1) ∧ decode (zcc m_X8_readRule) 113 = .ok (.getfield 33, 3) ∧ decode (zcc m_X8_readRule) 116 = .ok (.iconst 5, 1) ∧ decode (zcc m_X8_readRule) 117 = .ok (.aload_n 0, 1) ∧ decode (zcc m_X8_readRule) 118 = .ok (.iconst 1, 1) := by decide +kernel
set_option maxRecDepth 20000 in
theorem eg_X8_readRule_48 : decode (zcc m_X8_readRule) 119 = .ok (.bipush 99, 2) ∧ decode (zcc m_X8_readRule) 121 = .ok (.invokevirtual 152, 3) ∧ decode (zcc m_X8_readRule) 124 = .ok (.iastore, 1) ∧ decode (zcc m_X8_readRule) 125 = .ok (.goto (23), 3) ∧ decode (zcc m_X8_readRule) 128 = .ok (.aload_n 0, 1) ∧ decode (zcc m_X8_readRule) 129 = .ok (.getfield 33, 3) ∧ decode (zcc m_X8_readRule) 132 = .ok (.bipush 6, 2) ∧ decode (zcc m_X8_readRule) 134 = .ok (.aload_n 0, 1) := by decide +kernel
set_option maxRecDepth 20000 in
theorem eg_X8_readRule_56 : decode (zcc m_X8_readRule) 135 = .ok (.iconst 3, 1) ∧ decode (zcc m_X8_readRule) 136 = .ok (.iconst 4, 1) ∧ decode (zcc m_X8_readRule) 137 = .ok (.invokevirtual 152, 3) ∧ decode (zcc m_X8_readRule) 140 = .ok (.iastore, 1) ∧ decode (zcc m_X8_readRule) 141 = .ok (.goto (7), 3) ∧ decode (zcc m_X8_readRule) 144 = .ok (.aload_n 0, 1) ∧ decode (zcc m_X8_readRule) 145 = .ok (.invokevirtual 156, 3) ∧ decode (zcc m_X8_readRule) 148 = .ok (.return_, 1) := by decide +kernel
theorem d_X8_readRule_0 : zD m_X8_readRule 0 (.iload_n 1) 1 1 := ⟨eg_X8_readRule_0.1, rfl⟩
theorem d_X8_readRule_1 : decode (zcc m_X8_readRule) 1 = .ok (.tableswitch 143 3 8 #[39, 56, 72, 82, 98, 127], 39) := eg_X8_readRule_0.2.1
theorem d_X8_readRule_40 : zD m_X8_readRule 40 (.aload_n 0) 1 41 := ⟨eg_X8_readRule_0.2.2.1, rfl⟩
theorem d_X8_readRule_41 : zD m_X8_readRule 41 (.getfield 33) 3 44 := ⟨eg_X8_readRule_0.2.2.2.1, rfl⟩
theorem d_X8_readRule_44 : zD m_X8_readRule 44 (.iconst 0) 1 45 := ⟨eg_X8_readRule_0.2.2.2.2.1, rfl⟩
theorem d_X8_readRule_45 : zD m_X8_readRule 45 (.aload_n 0) 1 46 := ⟨eg_X8_readRule_0.2.2.2.2.2.1, rfl⟩
theorem d_X8_readRule_46 : zD m_X8_readRule 46 (.iconst 1) 1 47 := ⟨eg_X8_readRule_0.2.2.2.2.2.2.1, rfl⟩
theorem d_X8_readRule_47 : zD m_X8_readRule 47 (.sipush 999) 3 50 := ⟨eg_X8_readRule_0.2.2.2.2.2.2.2, rfl⟩
theorem d_X8_readRule_50 : zD m_X8_readRule 50 (.invokevirtual 152) 3 53 := ⟨eg_X8_readRule_8.1, rfl⟩
theorem d_X8_readRule_53 : zD m_X8_readRule 53 (.iastore) 1 54 := ⟨eg_X8_readRule_8.2.1, rfl⟩
theorem d_X8_readRule_54 : zDj m_X8_readRule 54 (.goto) 57 148 := ⟨94, eg_X8_readRule_8.2.2.1, rfl, by decide⟩
theorem d_X8_readRule_57 : zD m_X8_readRule 57 (.aload_n 0) 1 58 := ⟨eg_X8_readRule_8.2.2.2.1, rfl⟩
theorem d_X8_readRule_58 : zD m_X8_readRule 58 (.getfield 33) 3 61 := ⟨eg_X8_readRule_8.2.2.2.2.1, rfl⟩
theorem d_X8_readRule_61 : zD m_X8_readRule 61 (.iconst 1) 1 62 := ⟨eg_X8_readRule_8.2.2.2.2.2.1, rfl⟩
theorem d_X8_readRule_62 : zD m_X8_readRule 62 (.aload_n 0) 1 63 := ⟨eg_X8_readRule_8.2.2.2.2.2.2.1, rfl⟩
theorem d_X8_readRule_63 : zD m_X8_readRule 63 (.iconst 0) 1 64 := ⟨eg_X8_readRule_8.2.2.2.2.2.2.2, rfl⟩
theorem d_X8_readRule_64 : zD m_X8_readRule 64 (.bipush 9) 2 66 := ⟨eg_X8_readRule_16.1, rfl⟩
theorem d_X8_readRule_66 : zD m_X8_readRule 66 (.invokevirtual 152) 3 69 := ⟨eg_X8_readRule_16.2.1, rfl⟩
theorem d_X8_readRule_69 : zD m_X8_readRule 69 (.iastore) 1 70 := ⟨eg_X8_readRule_16.2.2.1, rfl⟩
theorem d_X8_readRule_70 : zDj m_X8_readRule 70 (.goto) 73 148 := ⟨78, eg_X8_readRule_16.2.2.2.1, rfl, by decide⟩
theorem d_X8_readRule_73 : zD m_X8_readRule 73 (.aload_n 0) 1 74 := ⟨eg_X8_readRule_16.2.2.2.2.1, rfl⟩
theorem d_X8_readRule_74 : zD m_X8_readRule 74 (.getfield 33) 3 77 := ⟨eg_X8_readRule_16.2.2.2.2.2.1, rfl⟩
theorem d_X8_readRule_77 : zD m_X8_readRule 77 (.iconst 2) 1 78 := ⟨eg_X8_readRule_16.2.2.2.2.2.2.1, rfl⟩
theorem d_X8_readRule_78 : zD m_X8_readRule 78 (.iconst 1) 1 79 := ⟨eg_X8_readRule_16.2.2.2.2.2.2.2, rfl⟩
theorem d_X8_readRule_79 : zD m_X8_readRule 79 (.iastore) 1 80 := ⟨eg_X8_readRule_24.1, rfl⟩
theorem d_X8_readRule_80 : zDj m_X8_readRule 80 (.goto) 83 148 := ⟨68, eg_X8_readRule_24.2.1, rfl, by decide⟩
theorem d_X8_readRule_83 : zD m_X8_readRule 83 (.aload_n 0) 1 84 := ⟨eg_X8_readRule_24.2.2.1, rfl⟩
theorem d_X8_readRule_84 : zD m_X8_readRule 84 (.getfield 33) 3 87 := ⟨eg_X8_readRule_24.2.2.2.1, rfl⟩
theorem d_X8_readRule_87 : zD m_X8_readRule 87 (.iconst 3) 1 88 := ⟨eg_X8_readRule_24.2.2.2.2.1, rfl⟩
theorem d_X8_readRule_88 : zD m_X8_readRule 88 (.aload_n 0) 1 89 := ⟨eg_X8_readRule_24.2.2.2.2.2.1, rfl⟩
theorem d_X8_readRule_89 : zD m_X8_readRule 89 (.iconst 0) 1 90 := ⟨eg_X8_readRule_24.2.2.2.2.2.2.1, rfl⟩
theorem d_X8_readRule_90 : zD m_X8_readRule 90 (.bipush 9) 2 92 := ⟨eg_X8_readRule_24.2.2.2.2.2.2.2, rfl⟩
theorem d_X8_readRule_92 : zD m_X8_readRule 92 (.invokevirtual 152) 3 95 := ⟨eg_X8_readRule_32.1, rfl⟩
theorem d_X8_readRule_95 : zD m_X8_readRule 95 (.iastore) 1 96 := ⟨eg_X8_readRule_32.2.1, rfl⟩
theorem d_X8_readRule_96 : zDj m_X8_readRule 96 (.goto) 99 148 := ⟨52, eg_X8_readRule_32.2.2.1, rfl, by decide⟩
theorem d_X8_readRule_99 : zD m_X8_readRule 99 (.aload_n 0) 1 100 := ⟨eg_X8_readRule_32.2.2.2.1, rfl⟩
theorem d_X8_readRule_100 : zD m_X8_readRule 100 (.getfield 33) 3 103 := ⟨eg_X8_readRule_32.2.2.2.2.1, rfl⟩
theorem d_X8_readRule_103 : zD m_X8_readRule 103 (.iconst 4) 1 104 := ⟨eg_X8_readRule_32.2.2.2.2.2.1, rfl⟩
theorem d_X8_readRule_104 : zD m_X8_readRule 104 (.aload_n 0) 1 105 := ⟨eg_X8_readRule_32.2.2.2.2.2.2.1, rfl⟩
theorem d_X8_readRule_105 : zD m_X8_readRule 105 (.iconst 1) 1 106 := ⟨eg_X8_readRule_32.2.2.2.2.2.2.2, rfl⟩
theorem d_X8_readRule_106 : zD m_X8_readRule 106 (.bipush 9) 2 108 := ⟨eg_X8_readRule_40.1, rfl⟩
theorem d_X8_readRule_108 : zD m_X8_readRule 108 (.invokevirtual 152) 3 111 := ⟨eg_X8_readRule_40.2.1, rfl⟩
theorem d_X8_readRule_111 : zD m_X8_readRule 111 (.iastore) 1 112 := ⟨eg_X8_readRule_40.2.2.1, rfl⟩
theorem d_X8_readRule_112 : zD m_X8_readRule 112 (.aload_n 0) 1 113 := ⟨eg_X8_readRule_40.2.2.2.1, rfl⟩
theorem d_X8_readRule_113 : zD m_X8_readRule 113 (.getfield 33) 3 116 := ⟨eg_X8_readRule_40.2.2.2.2.1, rfl⟩
theorem d_X8_readRule_116 : zD m_X8_readRule 116 (.iconst 5) 1 117 := ⟨eg_X8_readRule_40.2.2.2.2.2.1, rfl⟩
theorem d_X8_readRule_117 : zD m_X8_readRule 117 (.aload_n 0) 1 118 := ⟨eg_X8_readRule_40.2.2.2.2.2.2.1, rfl⟩
theorem d_X8_readRule_118 : zD m_X8_readRule 118 (.iconst 1) 1 119 := ⟨eg_X8_readRule_40.2.2.2.2.2.2.2, rfl⟩
theorem d_X8_readRule_119 : zD m_X8_readRule 119 (.bipush 99) 2 121 := ⟨eg_X8_readRule_48.1, rfl⟩
theorem d_X8_readRule_121 : zD m_X8_readRule 121 (.invokevirtual 152) 3 124 := ⟨eg_X8_readRule_48.2.1, rfl⟩
theorem d_X8_readRule_124 : zD m_X8_readRule 124 (.iastore) 1 125 := ⟨eg_X8_readRule_48.2.2.1, rfl⟩
theorem d_X8_readRule_125 : zDj m_X8_readRule 125 (.goto) 128 148 := ⟨23, eg_X8_readRule_48.2.2.2.1, rfl, by decide⟩
theorem d_X8_readRule_128 : zD m_X8_readRule 128 (.aload_n 0) 1 129 := ⟨eg_X8_readRule_48.2.2.2.2.1, rfl⟩
theorem d_X8_readRule_129 : zD m_X8_readRule 129 (.getfield 33) 3 132 := ⟨eg_X8_readRule_48.2.2.2.2.2.1, rfl⟩
theorem d_X8_readRule_132 : zD m_X8_readRule 132 (.bipush 6) 2 134 := ⟨eg_X8_readRule_48.2.2.2.2.2.2.1, rfl⟩
theorem d_X8_readRule_134 : zD m_X8_readRule 134 (.aload_n 0) 1 135 := ⟨eg_X8_readRule_48.2.2.2.2.2.2.2, rfl⟩
theorem d_X8_readRule_135 : zD m_X8_readRule 135 (.iconst 3) 1 136 := ⟨eg_X8_readRule_56.1, rfl⟩
theorem d_X8_readRule_136 : zD m_X8_readRule 136 (.iconst 4) 1 137 := ⟨eg_X8_readRule_56.2.1, rfl⟩
theorem d_X8_readRule_137 : zD m_X8_readRule 137 (.invokevirtual 152) 3 140 := ⟨eg_X8_readRule_56.2.2.1, rfl⟩
theorem d_X8_readRule_140 : zD m_X8_readRule 140 (.iastore) 1 141 := ⟨eg_X8_readRule_56.2.2.2.1, rfl⟩
theorem d_X8_readRule_141 : zDj m_X8_readRule 141 (.goto) 144 148 := ⟨7, eg_X8_readRule_56.2.2.2.2.1, rfl, by decide⟩
theorem d_X8_readRule_144 : zD m_X8_readRule 144 (.aload_n 0) 1 145 := ⟨eg_X8_readRule_56.2.2.2.2.2.1, rfl⟩
theorem d_X8_readRule_145 : zD m_X8_readRule 145 (.invokevirtual 156) 3 148 := ⟨eg_X8_readRule_56.2.2.2.2.2.2.1, rfl⟩
theorem d_X8_readRule_148 : decode (zcc m_X8_readRule) 148 = .ok (.return_, 1) := eg_X8_readRule_56.2.2.2.2.2.2.2
set_option maxRecDepth 20000 in
theorem eg_X8_readLine_0 : decode (zcc m_X8_readLine) 0 = .ok (.aload_n 0, 1) ∧ decode (zcc m_X8_readLine) 1 = .ok (.getfield 127, 3) ∧ decode (zcc m_X8_readLine) 4 = .ok (.iconst 1, 1) ∧ decode (zcc m_X8_readLine) 5 = .ok (.if_icmp .ne (10), 3) ∧ decode (zcc m_X8_readLine) 8 = .ok (.aload_n 0, 1) ∧ decode (zcc m_X8_readLine) 9 = .ok (.invokevirtual 159, 3) ∧ decode (zcc m_X8_readLine) 12 = .ok (.goto (5), 3) ∧ decode (zcc m_X8_readLine) 15 = .ok (.bipush (-4), 2) := by decide +kernel
set_option maxRecDepth 20000 in
theorem eg_X8_readLine_8 : decode (zcc m_X8_readLine) 17 = .ok (.istore_n 1, 1) ∧ decode (zcc m_X8_readLine) 18 = .ok (.aload_n 0, 1) ∧ decode (zcc m_X8_readLine) 19 = .ok (.iload_n 1, 1) ∧ decode (zcc m_X8_readLine) 20 = .ok (.i2l, 1) ∧ decode (zcc m_X8_readLine) 21 = .ok (.lconst 0, 1) ∧ decode (zcc m_X8_readLine) 22 = .ok (.ldc2_w 163, 3) ∧ decode (zcc m_X8_readLine) 25 = .ok (.invokestatic 92, 3) ∧ decode (zcc m_X8_readLine) 28 = .ok (.iconst 2, 1) := by decide +kernel
set_option maxRecDepth 20000 in
theorem eg_X8_readLine_16 : decode (zcc m_X8_readLine) 29 = .ok (.invokevirtual 141, 3) ∧ decode (zcc m_X8_readLine) 32 = .ok (.aload_n 0, 1) ∧ decode (zcc m_X8_readLine) 33 = .ok (.iload_n 1, 1) ∧ decode (zcc m_X8_readLine) 34 = .ok (.ifCond .ne (12), 3) ∧ decode (zcc m_X8_readLine) 37 = .ok (.aload_n 0, 1) ∧ decode (zcc m_X8_readLine) 38 = .ok (.getfield 82, 3) ∧ decode (zcc m_X8_readLine) 41 = .ok (.bipush 6, 2) ∧ decode (zcc m_X8_readLine) 43 = .ok (.if_icmp .ge (7), 3) := by decide +kernel
set_option maxRecDepth 20000 in
theorem eg_X8_readLine_24 : decode (zcc m_X8_readLine) 46 = .ok (.iconst 1, 1) ∧ decode (zcc m_X8_readLine) 47 = .ok (.goto (4), 3) ∧ decode (zcc m_X8_readLine) 50 = .ok (.iconst 0, 1) ∧ decode (zcc m_X8_readLine) 51 = .ok (.iconst 5, 1) ∧ decode (zcc m_X8_readLine) 52 = .ok (.invokevirtual 141, 3) ∧ decode (zcc m_X8_readLine) 55 = .ok (.aload_n 0, 1) ∧ decode (zcc m_X8_readLine) 56 = .ok (.getfield 107, 3) ∧ decode (zcc m_X8_readLine) 59 = .ok (.ifCond .ne (41), 3) := by decide +kernel
set_option maxRecDepth 20000 in
theorem eg_X8_readLine_32 : decode (zcc m_X8_readLine) 62 = .ok (.iload_n 1, 1) ∧ decode (zcc m_X8_readLine) 63 = .ok (.iconst 2, 1) ∧ decode (zcc m_X8_readLine) 64 = .ok (.if_icmp .le (36), 3) ∧ decode (zcc m_X8_readLine) 67 = .ok (.aload_n 0, 1) ∧ decode (zcc m_X8_readLine) 68 = .ok (.aload_n 0, 1) ∧ decode (zcc m_X8_readLine) 69 = .ok (.getfield 85, 3) ∧ decode (zcc m_X8_readLine) 72 = .ok (.iload_n 1, 1) ∧ decode (zcc m_X8_readLine) 73 = .ok (.ishr, 1) := by decide +kernel
set_option maxRecDepth 20000 in
theorem eg_X8_readLine_40 : decode (zcc m_X8_readLine) 74 = .ok (.iconst 1, 1) ∧ decode (zcc m_X8_readLine) 75 = .ok (.iand, 1) ∧ decode (zcc m_X8_readLine) 76 = .ok (.ifCond .ne (7), 3) ∧ decode (zcc m_X8_readLine) 79 = .ok (.iconst 1, 1) ∧ decode (zcc m_X8_readLine) 80 = .ok (.goto (4), 3) ∧ decode (zcc m_X8_readLine) 83 = .ok (.iconst 0, 1) ∧ decode (zcc m_X8_readLine) 84 = .ok (.iconst 4, 1) ∧ decode (zcc m_X8_readLine) 85 = .ok (.invokevirtual 141, 3) := by decide +kernel
set_option maxRecDepth 20000 in
theorem eg_X8_readLine_48 : decode (zcc m_X8_readLine) 88 = .ok (.aload_n 0, 1) ∧ decode (zcc m_X8_readLine) 89 = .ok (.dup, 1) ∧ decode (zcc m_X8_readLine) 90 = .ok (.getfield 85, 3) ∧ decode (zcc m_X8_readLine) 93 = .ok (.iconst 1, 1) ∧ decode (zcc m_X8_readLine) 94 = .ok (.iload_n 1, 1) ∧ decode (zcc m_X8_readLine) 95 = .ok (.ishl, 1) ∧ decode (zcc m_X8_readLine) 96 = .ok (.ior, 1) ∧ decode (zcc m_X8_readLine) 97 = .ok (.putfield 85, 3) := by decide +kernel
set_option maxRecDepth 20000 in
theorem eg_X8_readLine_56 : decode (zcc m_X8_readLine) 100 = .ok (.aload_n 0, 1) ∧ decode (zcc m_X8_readLine) 101 = .ok (.invokevirtual 149, 3) ∧ decode (zcc m_X8_readLine) 104 = .ok (.aload_n 0, 1) ∧ decode (zcc m_X8_readLine) 105 = .ok (.getfield 107, 3) ∧ decode (zcc m_X8_readLine) 108 = .ok (.ifCond .le (4), 3) ∧ decode (zcc m_X8_readLine) 111 = .ok (.return_, 1) ∧ decode (zcc m_X8_readLine) 112 = .ok (.iload_n 1, 1) ∧ decode (zcc m_X8_readLine) 113 = .ok (.ifCond .ne (10), 3) := by decide +kernel
set_option maxRecDepth 20000 in
theorem eg_X8_readLine_64 : decode (zcc m_X8_readLine) 116 = .ok (.aload_n 0, 1) ∧ decode (zcc m_X8_readLine) 117 = .ok (.invokevirtual 165, 3) ∧ decode (zcc m_X8_readLine) 120 = .ok (.goto (30), 3) ∧ decode (zcc m_X8_readLine) 123 = .ok (.iload_n 1, 1) ∧ decode (zcc m_X8_readLine) 124 = .ok (.iconst 2, 1) ∧ decode (zcc m_X8_readLine) 125 = .ok (.if_icmp .gt (20), 3) ∧ decode (zcc m_X8_readLine) 128 = .ok (.aload_n 0, 1) ∧ decode (zcc m_X8_readLine) 129 = .ok (.iload_n 1, 1) := by decide +kernel
set_option maxRecDepth 20000 in
theorem eg_X8_readLine_72 : decode (zcc m_X8_readLine) 130 = .ok (.iconst 2, 1) ∧ decode (zcc m_X8_readLine) 131 = .ok (.if_icmp .ne (7), 3) ∧ decode (zcc m_X8_readLine) 134 = .ok (.iconst 1, 1) ∧ decode (zcc m_X8_readLine) 135 = .ok (.goto (4), 3) ∧ decode (zcc m_X8_readLine) 138 = .ok (.iconst 0, 1) ∧ decode (zcc m_X8_readLine) 139 = .ok (.invokevirtual 168, 3) ∧ decode (zcc m_X8_readLine) 142 = .ok (.goto (8), 3) ∧ decode (zcc m_X8_readLine) 145 = .ok (.aload_n 0, 1) := by decide +kernel
set_option maxRecDepth 20000 in
theorem eg_X8_readLine_80 : decode (zcc m_X8_readLine) 146 = .ok (.iload_n 1, 1) ∧ decode (zcc m_X8_readLine) 147 = .ok (.invokevirtual 172, 3) ∧ decode (zcc m_X8_readLine) 150 = .ok (.aload_n 0, 1) ∧ decode (zcc m_X8_readLine) 151 = .ok (.getfield 107, 3) ∧ decode (zcc m_X8_readLine) 154 = .ok (.ifCond .ne (21), 3) ∧ decode (zcc m_X8_readLine) 157 = .ok (.aload_n 0, 1) ∧ decode (zcc m_X8_readLine) 158 = .ok (.aload_n 0, 1) ∧ decode (zcc m_X8_readLine) 159 = .ok (.getfield 127, 3) := by decide +kernel
set_option maxRecDepth 20000 in
theorem eg_X8_readLine_88 : decode (zcc m_X8_readLine) 162 = .ok (.iconst 3, 1) ∧ decode (zcc m_X8_readLine) 163 = .ok (.if_icmp .ne (7), 3) ∧ decode (zcc m_X8_readLine) 166 = .ok (.iconst 1, 1) ∧ decode (zcc m_X8_readLine) 167 = .ok (.goto (4), 3) ∧ decode (zcc m_X8_readLine) 170 = .ok (.iconst 0, 1) ∧ decode (zcc m_X8_readLine) 171 = .ok (.iconst 2, 1) ∧ decode (zcc m_X8_readLine) 172 = .ok (.invokevirtual 141, 3) ∧ decode (zcc m_X8_readLine) 175 = .ok (.aload_n 0, 1) := by decide +kernel
set_option maxRecDepth 20000 in
theorem eg_X8_readLine_96 : decode (zcc m_X8_readLine) 176 = .ok (.invokevirtual 149, 3) ∧ decode (zcc m_X8_readLine) 179 = .ok (.return_, 1) := by decide +kernel
theorem d_X8_readLine_0 : zD m_X8_readLine 0 (.aload_n 0) 1 1 := ⟨eg_X8_readLine_0.1, rfl⟩
theorem d_X8_readLine_1 : zD m_X8_readLine 1 (.getfield 127) 3 4 := ⟨eg_X8_readLine_0.2.1, rfl⟩
theorem d_X8_readLine_4 : zD m_X8_readLine 4 (.iconst 1) 1 5 := ⟨eg_X8_readLine_0.2.2.1, rfl⟩
theorem d_X8_readLine_5 : zDj m_X8_readLine 5 (.if_icmp .ne) 8 15 := ⟨10, eg_X8_readLine_0.2.2.2.1, rfl, by decide⟩
theorem d_X8_readLine_8 : zD m_X8_readLine 8 (.aload_n 0) 1 9 := ⟨eg_X8_readLine_0.2.2.2.2.1, rfl⟩
theorem d_X8_readLine_9 : zD m_X8_readLine 9 (.invokevirtual 159) 3 12 := ⟨eg_X8_readLine_0.2.2.2.2.2.1, rfl⟩
theorem d_X8_readLine_12 : zDj m_X8_readLine 12 (.goto) 15 17 := ⟨5, eg_X8_readLine_0.2.2.2.2.2.2.1, rfl, by decide⟩
theorem d_X8_readLine_15 : zD m_X8_readLine 15 (.bipush (-4)) 2 17 := ⟨eg_X8_readLine_0.2.2.2.2.2.2.2, rfl⟩
theorem d_X8_readLine_17 : zD m_X8_readLine 17 (.istore_n 1) 1 18 := ⟨eg_X8_readLine_8.1, rfl⟩
theorem d_X8_readLine_18 : zD m_X8_readLine 18 (.aload_n 0) 1 19 := ⟨eg_X8_readLine_8.2.1, rfl⟩
theorem d_X8_readLine_19 : zD m_X8_readLine 19 (.iload_n 1) 1 20 := ⟨eg_X8_readLine_8.2.2.1, rfl⟩
theorem d_X8_readLine_20 : zD m_X8_readLine 20 (.i2l) 1 21 := ⟨eg_X8_readLine_8.2.2.2.1, rfl⟩
theorem d_X8_readLine_21 : zD m_X8_readLine 21 (.lconst 0) 1 22 := ⟨eg_X8_readLine_8.2.2.2.2.1, rfl⟩
theorem d_X8_readLine_22 : zD m_X8_readLine 22 (.ldc2_w 163) 3 25 := ⟨eg_X8_readLine_8.2.2.2.2.2.1, rfl⟩
theorem d_X8_readLine_25 : zD m_X8_readLine 25 (.invokestatic 92) 3 28 := ⟨eg_X8_readLine_8.2.2.2.2.2.2.1, rfl⟩
theorem d_X8_readLine_28 : zD m_X8_readLine 28 (.iconst 2) 1 29 := ⟨eg_X8_readLine_8.2.2.2.2.2.2.2, rfl⟩
theorem d_X8_readLine_29 : zD m_X8_readLine 29 (.invokevirtual 141) 3 32 := ⟨eg_X8_readLine_16.1, rfl⟩
theorem d_X8_readLine_32 : zD m_X8_readLine 32 (.aload_n 0) 1 33 := ⟨eg_X8_readLine_16.2.1, rfl⟩
theorem d_X8_readLine_33 : zD m_X8_readLine 33 (.iload_n 1) 1 34 := ⟨eg_X8_readLine_16.2.2.1, rfl⟩
theorem d_X8_readLine_34 : zDj m_X8_readLine 34 (.ifCond .ne) 37 46 := ⟨12, eg_X8_readLine_16.2.2.2.1, rfl, by decide⟩
theorem d_X8_readLine_37 : zD m_X8_readLine 37 (.aload_n 0) 1 38 := ⟨eg_X8_readLine_16.2.2.2.2.1, rfl⟩
theorem d_X8_readLine_38 : zD m_X8_readLine 38 (.getfield 82) 3 41 := ⟨eg_X8_readLine_16.2.2.2.2.2.1, rfl⟩
theorem d_X8_readLine_41 : zD m_X8_readLine 41 (.bipush 6) 2 43 := ⟨eg_X8_readLine_16.2.2.2.2.2.2.1, rfl⟩
theorem d_X8_readLine_43 : zDj m_X8_readLine 43 (.if_icmp .ge) 46 50 := ⟨7, eg_X8_readLine_16.2.2.2.2.2.2.2, rfl, by decide⟩
theorem d_X8_readLine_46 : zD m_X8_readLine 46 (.iconst 1) 1 47 := ⟨eg_X8_readLine_24.1, rfl⟩
theorem d_X8_readLine_47 : zDj m_X8_readLine 47 (.goto) 50 51 := ⟨4, eg_X8_readLine_24.2.1, rfl, by decide⟩
theorem d_X8_readLine_50 : zD m_X8_readLine 50 (.iconst 0) 1 51 := ⟨eg_X8_readLine_24.2.2.1, rfl⟩
theorem d_X8_readLine_51 : zD m_X8_readLine 51 (.iconst 5) 1 52 := ⟨eg_X8_readLine_24.2.2.2.1, rfl⟩
theorem d_X8_readLine_52 : zD m_X8_readLine 52 (.invokevirtual 141) 3 55 := ⟨eg_X8_readLine_24.2.2.2.2.1, rfl⟩
theorem d_X8_readLine_55 : zD m_X8_readLine 55 (.aload_n 0) 1 56 := ⟨eg_X8_readLine_24.2.2.2.2.2.1, rfl⟩
theorem d_X8_readLine_56 : zD m_X8_readLine 56 (.getfield 107) 3 59 := ⟨eg_X8_readLine_24.2.2.2.2.2.2.1, rfl⟩
theorem d_X8_readLine_59 : zDj m_X8_readLine 59 (.ifCond .ne) 62 100 := ⟨41, eg_X8_readLine_24.2.2.2.2.2.2.2, rfl, by decide⟩
theorem d_X8_readLine_62 : zD m_X8_readLine 62 (.iload_n 1) 1 63 := ⟨eg_X8_readLine_32.1, rfl⟩
theorem d_X8_readLine_63 : zD m_X8_readLine 63 (.iconst 2) 1 64 := ⟨eg_X8_readLine_32.2.1, rfl⟩
theorem d_X8_readLine_64 : zDj m_X8_readLine 64 (.if_icmp .le) 67 100 := ⟨36, eg_X8_readLine_32.2.2.1, rfl, by decide⟩
theorem d_X8_readLine_67 : zD m_X8_readLine 67 (.aload_n 0) 1 68 := ⟨eg_X8_readLine_32.2.2.2.1, rfl⟩
theorem d_X8_readLine_68 : zD m_X8_readLine 68 (.aload_n 0) 1 69 := ⟨eg_X8_readLine_32.2.2.2.2.1, rfl⟩
theorem d_X8_readLine_69 : zD m_X8_readLine 69 (.getfield 85) 3 72 := ⟨eg_X8_readLine_32.2.2.2.2.2.1, rfl⟩
theorem d_X8_readLine_72 : zD m_X8_readLine 72 (.iload_n 1) 1 73 := ⟨eg_X8_readLine_32.2.2.2.2.2.2.1, rfl⟩
theorem d_X8_readLine_73 : zD m_X8_readLine 73 (.ishr) 1 74 := ⟨eg_X8_readLine_32.2.2.2.2.2.2.2, rfl⟩
theorem d_X8_readLine_74 : zD m_X8_readLine 74 (.iconst 1) 1 75 := ⟨eg_X8_readLine_40.1, rfl⟩
theorem d_X8_readLine_75 : zD m_X8_readLine 75 (.iand) 1 76 := ⟨eg_X8_readLine_40.2.1, rfl⟩
theorem d_X8_readLine_76 : zDj m_X8_readLine 76 (.ifCond .ne) 79 83 := ⟨7, eg_X8_readLine_40.2.2.1, rfl, by decide⟩
theorem d_X8_readLine_79 : zD m_X8_readLine 79 (.iconst 1) 1 80 := ⟨eg_X8_readLine_40.2.2.2.1, rfl⟩
theorem d_X8_readLine_80 : zDj m_X8_readLine 80 (.goto) 83 84 := ⟨4, eg_X8_readLine_40.2.2.2.2.1, rfl, by decide⟩
theorem d_X8_readLine_83 : zD m_X8_readLine 83 (.iconst 0) 1 84 := ⟨eg_X8_readLine_40.2.2.2.2.2.1, rfl⟩
theorem d_X8_readLine_84 : zD m_X8_readLine 84 (.iconst 4) 1 85 := ⟨eg_X8_readLine_40.2.2.2.2.2.2.1, rfl⟩
theorem d_X8_readLine_85 : zD m_X8_readLine 85 (.invokevirtual 141) 3 88 := ⟨eg_X8_readLine_40.2.2.2.2.2.2.2, rfl⟩
theorem d_X8_readLine_88 : zD m_X8_readLine 88 (.aload_n 0) 1 89 := ⟨eg_X8_readLine_48.1, rfl⟩
theorem d_X8_readLine_89 : zD m_X8_readLine 89 (.dup) 1 90 := ⟨eg_X8_readLine_48.2.1, rfl⟩
theorem d_X8_readLine_90 : zD m_X8_readLine 90 (.getfield 85) 3 93 := ⟨eg_X8_readLine_48.2.2.1, rfl⟩
theorem d_X8_readLine_93 : zD m_X8_readLine 93 (.iconst 1) 1 94 := ⟨eg_X8_readLine_48.2.2.2.1, rfl⟩
theorem d_X8_readLine_94 : zD m_X8_readLine 94 (.iload_n 1) 1 95 := ⟨eg_X8_readLine_48.2.2.2.2.1, rfl⟩
theorem d_X8_readLine_95 : zD m_X8_readLine 95 (.ishl) 1 96 := ⟨eg_X8_readLine_48.2.2.2.2.2.1, rfl⟩
theorem d_X8_readLine_96 : zD m_X8_readLine 96 (.ior) 1 97 := ⟨eg_X8_readLine_48.2.2.2.2.2.2.1, rfl⟩
theorem d_X8_readLine_97 : zD m_X8_readLine 97 (.putfield 85) 3 100 := ⟨eg_X8_readLine_48.2.2.2.2.2.2.2, rfl⟩
theorem d_X8_readLine_100 : zD m_X8_readLine 100 (.aload_n 0) 1 101 := ⟨eg_X8_readLine_56.1, rfl⟩
theorem d_X8_readLine_101 : zD m_X8_readLine 101 (.invokevirtual 149) 3 104 := ⟨eg_X8_readLine_56.2.1, rfl⟩
theorem d_X8_readLine_104 : zD m_X8_readLine 104 (.aload_n 0) 1 105 := ⟨eg_X8_readLine_56.2.2.1, rfl⟩
theorem d_X8_readLine_105 : zD m_X8_readLine 105 (.getfield 107) 3 108 := ⟨eg_X8_readLine_56.2.2.2.1, rfl⟩
theorem d_X8_readLine_108 : zDj m_X8_readLine 108 (.ifCond .le) 111 112 := ⟨4, eg_X8_readLine_56.2.2.2.2.1, rfl, by decide⟩
theorem d_X8_readLine_111 : decode (zcc m_X8_readLine) 111 = .ok (.return_, 1) := eg_X8_readLine_56.2.2.2.2.2.1
theorem d_X8_readLine_112 : zD m_X8_readLine 112 (.iload_n 1) 1 113 := ⟨eg_X8_readLine_56.2.2.2.2.2.2.1, rfl⟩
theorem d_X8_readLine_113 : zDj m_X8_readLine 113 (.ifCond .ne) 116 123 := ⟨10, eg_X8_readLine_56.2.2.2.2.2.2.2, rfl, by decide⟩
theorem d_X8_readLine_116 : zD m_X8_readLine 116 (.aload_n 0) 1 117 := ⟨eg_X8_readLine_64.1, rfl⟩
theorem d_X8_readLine_117 : zD m_X8_readLine 117 (.invokevirtual 165) 3 120 := ⟨eg_X8_readLine_64.2.1, rfl⟩
theorem d_X8_readLine_120 : zDj m_X8_readLine 120 (.goto) 123 150 := ⟨30, eg_X8_readLine_64.2.2.1, rfl, by decide⟩
theorem d_X8_readLine_123 : zD m_X8_readLine 123 (.iload_n 1) 1 124 := ⟨eg_X8_readLine_64.2.2.2.1, rfl⟩
theorem d_X8_readLine_124 : zD m_X8_readLine 124 (.iconst 2) 1 125 := ⟨eg_X8_readLine_64.2.2.2.2.1, rfl⟩
theorem d_X8_readLine_125 : zDj m_X8_readLine 125 (.if_icmp .gt) 128 145 := ⟨20, eg_X8_readLine_64.2.2.2.2.2.1, rfl, by decide⟩
theorem d_X8_readLine_128 : zD m_X8_readLine 128 (.aload_n 0) 1 129 := ⟨eg_X8_readLine_64.2.2.2.2.2.2.1, rfl⟩
theorem d_X8_readLine_129 : zD m_X8_readLine 129 (.iload_n 1) 1 130 := ⟨eg_X8_readLine_64.2.2.2.2.2.2.2, rfl⟩
theorem d_X8_readLine_130 : zD m_X8_readLine 130 (.iconst 2) 1 131 := ⟨eg_X8_readLine_72.1, rfl⟩
theorem d_X8_readLine_131 : zDj m_X8_readLine 131 (.if_icmp .ne) 134 138 := ⟨7, eg_X8_readLine_72.2.1, rfl, by decide⟩
theorem d_X8_readLine_134 : zD m_X8_readLine 134 (.iconst 1) 1 135 := ⟨eg_X8_readLine_72.2.2.1, rfl⟩
theorem d_X8_readLine_135 : zDj m_X8_readLine 135 (.goto) 138 139 := ⟨4, eg_X8_readLine_72.2.2.2.1, rfl, by decide⟩
theorem d_X8_readLine_138 : zD m_X8_readLine 138 (.iconst 0) 1 139 := ⟨eg_X8_readLine_72.2.2.2.2.1, rfl⟩
theorem d_X8_readLine_139 : zD m_X8_readLine 139 (.invokevirtual 168) 3 142 := ⟨eg_X8_readLine_72.2.2.2.2.2.1, rfl⟩
theorem d_X8_readLine_142 : zDj m_X8_readLine 142 (.goto) 145 150 := ⟨8, eg_X8_readLine_72.2.2.2.2.2.2.1, rfl, by decide⟩
theorem d_X8_readLine_145 : zD m_X8_readLine 145 (.aload_n 0) 1 146 := ⟨eg_X8_readLine_72.2.2.2.2.2.2.2, rfl⟩
theorem d_X8_readLine_146 : zD m_X8_readLine 146 (.iload_n 1) 1 147 := ⟨eg_X8_readLine_80.1, rfl⟩
theorem d_X8_readLine_147 : zD m_X8_readLine 147 (.invokevirtual 172) 3 150 := ⟨eg_X8_readLine_80.2.1, rfl⟩
theorem d_X8_readLine_150 : zD m_X8_readLine 150 (.aload_n 0) 1 151 := ⟨eg_X8_readLine_80.2.2.1, rfl⟩
theorem d_X8_readLine_151 : zD m_X8_readLine 151 (.getfield 107) 3 154 := ⟨eg_X8_readLine_80.2.2.2.1, rfl⟩
theorem d_X8_readLine_154 : zDj m_X8_readLine 154 (.ifCond .ne) 157 175 := ⟨21, eg_X8_readLine_80.2.2.2.2.1, rfl, by decide⟩
theorem d_X8_readLine_157 : zD m_X8_readLine 157 (.aload_n 0) 1 158 := ⟨eg_X8_readLine_80.2.2.2.2.2.1, rfl⟩
theorem d_X8_readLine_158 : zD m_X8_readLine 158 (.aload_n 0) 1 159 := ⟨eg_X8_readLine_80.2.2.2.2.2.2.1, rfl⟩
theorem d_X8_readLine_159 : zD m_X8_readLine 159 (.getfield 127) 3 162 := ⟨eg_X8_readLine_80.2.2.2.2.2.2.2, rfl⟩
theorem d_X8_readLine_162 : zD m_X8_readLine 162 (.iconst 3) 1 163 := ⟨eg_X8_readLine_88.1, rfl⟩
theorem d_X8_readLine_163 : zDj m_X8_readLine 163 (.if_icmp .ne) 166 170 := ⟨7, eg_X8_readLine_88.2.1, rfl, by decide⟩
theorem d_X8_readLine_166 : zD m_X8_readLine 166 (.iconst 1) 1 167 := ⟨eg_X8_readLine_88.2.2.1, rfl⟩
theorem d_X8_readLine_167 : zDj m_X8_readLine 167 (.goto) 170 171 := ⟨4, eg_X8_readLine_88.2.2.2.1, rfl, by decide⟩
theorem d_X8_readLine_170 : zD m_X8_readLine 170 (.iconst 0) 1 171 := ⟨eg_X8_readLine_88.2.2.2.2.1, rfl⟩
theorem d_X8_readLine_171 : zD m_X8_readLine 171 (.iconst 2) 1 172 := ⟨eg_X8_readLine_88.2.2.2.2.2.1, rfl⟩
theorem d_X8_readLine_172 : zD m_X8_readLine 172 (.invokevirtual 141) 3 175 := ⟨eg_X8_readLine_88.2.2.2.2.2.2.1, rfl⟩
theorem d_X8_readLine_175 : zD m_X8_readLine 175 (.aload_n 0) 1 176 := ⟨eg_X8_readLine_88.2.2.2.2.2.2.2, rfl⟩
theorem d_X8_readLine_176 : zD m_X8_readLine 176 (.invokevirtual 149) 3 179 := ⟨eg_X8_readLine_96.1, rfl⟩
theorem d_X8_readLine_179 : decode (zcc m_X8_readLine) 179 = .ok (.return_, 1) := eg_X8_readLine_96.2
set_option maxRecDepth 20000 in
theorem eg_X8_text_0 : decode (zcc m_X8_text) 0 = .ok (.iconst 0, 1) ∧ decode (zcc m_X8_text) 1 = .ok (.istore_n 1, 1) ∧ decode (zcc m_X8_text) 2 = .ok (.aload_n 0, 1) ∧ decode (zcc m_X8_text) 3 = .ok (.iconst 0, 1) ∧ decode (zcc m_X8_text) 4 = .ok (.putfield 107, 3) ∧ decode (zcc m_X8_text) 7 = .ok (.aload_n 0, 1) ∧ decode (zcc m_X8_text) 8 = .ok (.iconst 0, 1) ∧ decode (zcc m_X8_text) 9 = .ok (.putfield 116, 3) := by decide +kernel
set_option maxRecDepth 20000 in
theorem eg_X8_text_8 : decode (zcc m_X8_text) 12 = .ok (.aload_n 0, 1) ∧ decode (zcc m_X8_text) 13 = .ok (.invokevirtual 72, 3) ∧ decode (zcc m_X8_text) 16 = .ok (.aload_n 0, 1) ∧ decode (zcc m_X8_text) 17 = .ok (.invokevirtual 149, 3) ∧ decode (zcc m_X8_text) 20 = .ok (.aload_n 0, 1) ∧ decode (zcc m_X8_text) 21 = .ok (.getfield 107, 3) ∧ decode (zcc m_X8_text) 24 = .ok (.ifCond .ne (20), 3) ∧ decode (zcc m_X8_text) 27 = .ok (.aload_n 0, 1) := by decide +kernel
set_option maxRecDepth 20000 in
theorem eg_X8_text_16 : decode (zcc m_X8_text) 28 = .ok (.getfield 127, 3) ∧ decode (zcc m_X8_text) 31 = .ok (.ifCond .eq (13), 3) ∧ decode (zcc m_X8_text) 34 = .ok (.aload_n 0, 1) ∧ decode (zcc m_X8_text) 35 = .ok (.invokevirtual 176, 3) ∧ decode (zcc m_X8_text) 38 = .ok (.iinc 1 1, 3) ∧ decode (zcc m_X8_text) 41 = .ok (.goto (-21), 3) ∧ decode (zcc m_X8_text) 44 = .ok (.iconst 0, 1) ∧ decode (zcc m_X8_text) 45 = .ok (.istore_n 2, 1) := by decide +kernel
set_option maxRecDepth 20000 in
theorem eg_X8_text_24 : decode (zcc m_X8_text) 46 = .ok (.iload_n 2, 1) ∧ decode (zcc m_X8_text) 47 = .ok (.aload_n 0, 1) ∧ decode (zcc m_X8_text) 48 = .ok (.getfield 78, 3) ∧ decode (zcc m_X8_text) 51 = .ok (.if_icmp .ge (42), 3) ∧ decode (zcc m_X8_text) 54 = .ok (.aload_n 0, 1) ∧ decode (zcc m_X8_text) 55 = .ok (.aload_n 0, 1) ∧ decode (zcc m_X8_text) 56 = .ok (.getfield 33, 3) ∧ decode (zcc m_X8_text) 59 = .ok (.bipush 6, 2) := by decide +kernel
set_option maxRecDepth 20000 in
theorem eg_X8_text_32 : decode (zcc m_X8_text) 61 = .ok (.iaload, 1) ∧ decode (zcc m_X8_text) 62 = .ok (.iconst 4, 1) ∧ decode (zcc m_X8_text) 63 = .ok (.if_icmp .eq (14), 3) ∧ decode (zcc m_X8_text) 66 = .ok (.aload_n 0, 1) ∧ decode (zcc m_X8_text) 67 = .ok (.getfield 45, 3) ∧ decode (zcc m_X8_text) 70 = .ok (.iload_n 2, 1) ∧ decode (zcc m_X8_text) 71 = .ok (.iaload, 1) ∧ decode (zcc m_X8_text) 72 = .ok (.bipush 8, 2) := by decide +kernel
set_option maxRecDepth 20000 in
theorem eg_X8_text_40 : decode (zcc m_X8_text) 74 = .ok (.if_icmp .ge (7), 3) ∧ decode (zcc m_X8_text) 77 = .ok (.iconst 1, 1) ∧ decode (zcc m_X8_text) 78 = .ok (.goto (4), 3) ∧ decode (zcc m_X8_text) 81 = .ok (.iconst 0, 1) ∧ decode (zcc m_X8_text) 82 = .ok (.bipush 6, 2) ∧ decode (zcc m_X8_text) 84 = .ok (.invokevirtual 141, 3) ∧ decode (zcc m_X8_text) 87 = .ok (.iinc 2 1, 3) ∧ decode (zcc m_X8_text) 90 = .ok (.goto (-44), 3) := by decide +kernel
set_option maxRecDepth 20000 in
theorem eg_X8_text_48 : decode (zcc m_X8_text) 93 = .ok (.aload_n 0, 1) ∧ decode (zcc m_X8_text) 94 = .ok (.iconst 0, 1) ∧ decode (zcc m_X8_text) 95 = .ok (.putfield 102, 3) ∧ decode (zcc m_X8_text) 98 = .ok (.aload_n 0, 1) ∧ decode (zcc m_X8_text) 99 = .ok (.getfield 107, 3) ∧ decode (zcc m_X8_text) 102 = .ok (.ifCond .le (11), 3) ∧ decode (zcc m_X8_text) 105 = .ok (.bipush (-10), 2) ∧ decode (zcc m_X8_text) 107 = .ok (.aload_n 0, 1) := by decide +kernel
set_option maxRecDepth 20000 in
theorem eg_X8_text_56 : decode (zcc m_X8_text) 108 = .ok (.getfield 113, 3) ∧ decode (zcc m_X8_text) 111 = .ok (.isub, 1) ∧ decode (zcc m_X8_text) 112 = .ok (.ireturn, 1) ∧ decode (zcc m_X8_text) 113 = .ok (.aload_n 0, 1) ∧ decode (zcc m_X8_text) 114 = .ok (.invokevirtual 75, 3) ∧ decode (zcc m_X8_text) 117 = .ok (.iload_n 1, 1) ∧ decode (zcc m_X8_text) 118 = .ok (.ireturn, 1) := by decide +kernel
theorem d_X8_text_0 : zD m_X8_text 0 (.iconst 0) 1 1 := ⟨eg_X8_text_0.1, rfl⟩
theorem d_X8_text_1 : zD m_X8_text 1 (.istore_n 1) 1 2 := ⟨eg_X8_text_0.2.1, rfl⟩
theorem d_X8_text_2 : zD m_X8_text 2 (.aload_n 0) 1 3 := ⟨eg_X8_text_0.2.2.1, rfl⟩
theorem d_X8_text_3 : zD m_X8_text 3 (.iconst 0) 1 4 := ⟨eg_X8_text_0.2.2.2.1, rfl⟩
theorem d_X8_text_4 : zD m_X8_text 4 (.putfield 107) 3 7 := ⟨eg_X8_text_0.2.2.2.2.1, rfl⟩
theorem d_X8_text_7 : zD m_X8_text 7 (.aload_n 0) 1 8 := ⟨eg_X8_text_0.2.2.2.2.2.1, rfl⟩
theorem d_X8_text_8 : zD m_X8_text 8 (.iconst 0) 1 9 := ⟨eg_X8_text_0.2.2.2.2.2.2.1, rfl⟩
theorem d_X8_text_9 : zD m_X8_text 9 (.putfield 116) 3 12 := ⟨eg_X8_text_0.2.2.2.2.2.2.2, rfl⟩
theorem d_X8_text_12 : zD m_X8_text 12 (.aload_n 0) 1 13 := ⟨eg_X8_text_8.1, rfl⟩
theorem d_X8_text_13 : zD m_X8_text 13 (.invokevirtual 72) 3 16 := ⟨eg_X8_text_8.2.1, rfl⟩
theorem d_X8_text_16 : zD m_X8_text 16 (.aload_n 0) 1 17 := ⟨eg_X8_text_8.2.2.1, rfl⟩
theorem d_X8_text_17 : zD m_X8_text 17 (.invokevirtual 149) 3 20 := ⟨eg_X8_text_8.2.2.2.1, rfl⟩
theorem d_X8_text_20 : zD m_X8_text 20 (.aload_n 0) 1 21 := ⟨eg_X8_text_8.2.2.2.2.1, rfl⟩
theorem d_X8_text_21 : zD m_X8_text 21 (.getfield 107) 3 24 := ⟨eg_X8_text_8.2.2.2.2.2.1, rfl⟩
theorem d_X8_text_24 : zDj m_X8_text 24 (.ifCond .ne) 27 44 := ⟨20, eg_X8_text_8.2.2.2.2.2.2.1, rfl, by decide⟩
theorem d_X8_text_27 : zD m_X8_text 27 (.aload_n 0) 1 28 := ⟨eg_X8_text_8.2.2.2.2.2.2.2, rfl⟩
theorem d_X8_text_28 : zD m_X8_text 28 (.getfield 127) 3 31 := ⟨eg_X8_text_16.1, rfl⟩
theorem d_X8_text_31 : zDj m_X8_text 31 (.ifCond .eq) 34 44 := ⟨13, eg_X8_text_16.2.1, rfl, by decide⟩
theorem d_X8_text_34 : zD m_X8_text 34 (.aload_n 0) 1 35 := ⟨eg_X8_text_16.2.2.1, rfl⟩
theorem d_X8_text_35 : zD m_X8_text 35 (.invokevirtual 176) 3 38 := ⟨eg_X8_text_16.2.2.2.1, rfl⟩
theorem d_X8_text_38 : zD m_X8_text 38 (.iinc 1 1) 3 41 := ⟨eg_X8_text_16.2.2.2.2.1, rfl⟩
theorem d_X8_text_41 : zDj m_X8_text 41 (.goto) 44 20 := ⟨-21, eg_X8_text_16.2.2.2.2.2.1, rfl, by decide⟩
theorem d_X8_text_44 : zD m_X8_text 44 (.iconst 0) 1 45 := ⟨eg_X8_text_16.2.2.2.2.2.2.1, rfl⟩
theorem d_X8_text_45 : zD m_X8_text 45 (.istore_n 2) 1 46 := ⟨eg_X8_text_16.2.2.2.2.2.2.2, rfl⟩
theorem d_X8_text_46 : zD m_X8_text 46 (.iload_n 2) 1 47 := ⟨eg_X8_text_24.1, rfl⟩
theorem d_X8_text_47 : zD m_X8_text 47 (.aload_n 0) 1 48 := ⟨eg_X8_text_24.2.1, rfl⟩
theorem d_X8_text_48 : zD m_X8_text 48 (.getfield 78) 3 51 := ⟨eg_X8_text_24.2.2.1, rfl⟩
theorem d_X8_text_51 : zDj m_X8_text 51 (.if_icmp .ge) 54 93 := ⟨42, eg_X8_text_24.2.2.2.1, rfl, by decide⟩
theorem d_X8_text_54 : zD m_X8_text 54 (.aload_n 0) 1 55 := ⟨eg_X8_text_24.2.2.2.2.1, rfl⟩
theorem d_X8_text_55 : zD m_X8_text 55 (.aload_n 0) 1 56 := ⟨eg_X8_text_24.2.2.2.2.2.1, rfl⟩
theorem d_X8_text_56 : zD m_X8_text 56 (.getfield 33) 3 59 := ⟨eg_X8_text_24.2.2.2.2.2.2.1, rfl⟩
theorem d_X8_text_59 : zD m_X8_text 59 (.bipush 6) 2 61 := ⟨eg_X8_text_24.2.2.2.2.2.2.2, rfl⟩
theorem d_X8_text_61 : zD m_X8_text 61 (.iaload) 1 62 := ⟨eg_X8_text_32.1, rfl⟩
theorem d_X8_text_62 : zD m_X8_text 62 (.iconst 4) 1 63 := ⟨eg_X8_text_32.2.1, rfl⟩
theorem d_X8_text_63 : zDj m_X8_text 63 (.if_icmp .eq) 66 77 := ⟨14, eg_X8_text_32.2.2.1, rfl, by decide⟩
theorem d_X8_text_66 : zD m_X8_text 66 (.aload_n 0) 1 67 := ⟨eg_X8_text_32.2.2.2.1, rfl⟩
theorem d_X8_text_67 : zD m_X8_text 67 (.getfield 45) 3 70 := ⟨eg_X8_text_32.2.2.2.2.1, rfl⟩
theorem d_X8_text_70 : zD m_X8_text 70 (.iload_n 2) 1 71 := ⟨eg_X8_text_32.2.2.2.2.2.1, rfl⟩
theorem d_X8_text_71 : zD m_X8_text 71 (.iaload) 1 72 := ⟨eg_X8_text_32.2.2.2.2.2.2.1, rfl⟩
theorem d_X8_text_72 : zD m_X8_text 72 (.bipush 8) 2 74 := ⟨eg_X8_text_32.2.2.2.2.2.2.2, rfl⟩
theorem d_X8_text_74 : zDj m_X8_text 74 (.if_icmp .ge) 77 81 := ⟨7, eg_X8_text_40.1, rfl, by decide⟩
theorem d_X8_text_77 : zD m_X8_text 77 (.iconst 1) 1 78 := ⟨eg_X8_text_40.2.1, rfl⟩
theorem d_X8_text_78 : zDj m_X8_text 78 (.goto) 81 82 := ⟨4, eg_X8_text_40.2.2.1, rfl, by decide⟩
theorem d_X8_text_81 : zD m_X8_text 81 (.iconst 0) 1 82 := ⟨eg_X8_text_40.2.2.2.1, rfl⟩
theorem d_X8_text_82 : zD m_X8_text 82 (.bipush 6) 2 84 := ⟨eg_X8_text_40.2.2.2.2.1, rfl⟩
theorem d_X8_text_84 : zD m_X8_text 84 (.invokevirtual 141) 3 87 := ⟨eg_X8_text_40.2.2.2.2.2.1, rfl⟩
theorem d_X8_text_87 : zD m_X8_text 87 (.iinc 2 1) 3 90 := ⟨eg_X8_text_40.2.2.2.2.2.2.1, rfl⟩
theorem d_X8_text_90 : zDj m_X8_text 90 (.goto) 93 46 := ⟨-44, eg_X8_text_40.2.2.2.2.2.2.2, rfl, by decide⟩
theorem d_X8_text_93 : zD m_X8_text 93 (.aload_n 0) 1 94 := ⟨eg_X8_text_48.1, rfl⟩
theorem d_X8_text_94 : zD m_X8_text 94 (.iconst 0) 1 95 := ⟨eg_X8_text_48.2.1, rfl⟩
theorem d_X8_text_95 : zD m_X8_text 95 (.putfield 102) 3 98 := ⟨eg_X8_text_48.2.2.1, rfl⟩
theorem d_X8_text_98 : zD m_X8_text 98 (.aload_n 0) 1 99 := ⟨eg_X8_text_48.2.2.2.1, rfl⟩
theorem d_X8_text_99 : zD m_X8_text 99 (.getfield 107) 3 102 := ⟨eg_X8_text_48.2.2.2.2.1, rfl⟩
theorem d_X8_text_102 : zDj m_X8_text 102 (.ifCond .le) 105 113 := ⟨11, eg_X8_text_48.2.2.2.2.2.1, rfl, by decide⟩
theorem d_X8_text_105 : zD m_X8_text 105 (.bipush (-10)) 2 107 := ⟨eg_X8_text_48.2.2.2.2.2.2.1, rfl⟩
theorem d_X8_text_107 : zD m_X8_text 107 (.aload_n 0) 1 108 := ⟨eg_X8_text_48.2.2.2.2.2.2.2, rfl⟩
theorem d_X8_text_108 : zD m_X8_text 108 (.getfield 113) 3 111 := ⟨eg_X8_text_56.1, rfl⟩
theorem d_X8_text_111 : zD m_X8_text 111 (.isub) 1 112 := ⟨eg_X8_text_56.2.1, rfl⟩
theorem d_X8_text_112 : decode (zcc m_X8_text) 112 = .ok (.ireturn, 1) := eg_X8_text_56.2.2.1
theorem d_X8_text_113 : zD m_X8_text 113 (.aload_n 0) 1 114 := ⟨eg_X8_text_56.2.2.2.1, rfl⟩
theorem d_X8_text_114 : zD m_X8_text 114 (.invokevirtual 75) 3 117 := ⟨eg_X8_text_56.2.2.2.2.1, rfl⟩
theorem d_X8_text_117 : zD m_X8_text 117 (.iload_n 1) 1 118 := ⟨eg_X8_text_56.2.2.2.2.2.1, rfl⟩
theorem d_X8_text_118 : decode (zcc m_X8_text) 118 = .ok (.ireturn, 1) := eg_X8_text_56.2.2.2.2.2.2
set_option maxRecDepth 20000 in
theorem eg_X8_fault_0 : decode (zcc m_X8_fault) 0 = .ok (.aload_n 0, 1) ∧ decode (zcc m_X8_fault) 1 = .ok (.getfield 107, 3) ∧ decode (zcc m_X8_fault) 4 = .ok (.ireturn, 1) := by decide +kernel
theorem d_X8_fault_0 : zD m_X8_fault 0 (.aload_n 0) 1 1 := ⟨eg_X8_fault_0.1, rfl⟩
theorem d_X8_fault_1 : zD m_X8_fault 1 (.getfield 107) 3 4 := ⟨eg_X8_fault_0.2.1, rfl⟩
theorem d_X8_fault_4 : decode (zcc m_X8_fault) 4 = .ok (.ireturn, 1) := eg_X8_fault_0.2.2
set_option maxRecDepth 20000 in
theorem eg_X8_rule_0 : decode (zcc m_X8_rule) 0 = .ok (.iload_n 1, 1) ∧ decode (zcc m_X8_rule) 1 = .ok (.i2l, 1) ∧ decode (zcc m_X8_rule) 2 = .ok (.lconst 0, 1) ∧ decode (zcc m_X8_rule) 3 = .ok (.ldc2_w 179, 3) ∧ decode (zcc m_X8_rule) 6 = .ok (.invokestatic 92, 3) ∧ decode (zcc m_X8_rule) 9 = .ok (.ifCond .eq (12), 3) ∧ decode (zcc m_X8_rule) 12 = .ok (.aload_n 0, 1) ∧ decode (zcc m_X8_rule) 13 = .ok (.getfield 21, 3) := by decide +kernel
set_option maxRecDepth 20000 in
theorem eg_X8_rule_8 : decode (zcc m_X8_rule) 16 = .ok (.iload_n 1, 1) ∧ decode (zcc m_X8_rule) 17 = .ok (.iaload, 1) ∧ decode (zcc m_X8_rule) 18 = .ok (.goto (4), 3) ∧ decode (zcc m_X8_rule) 21 = .ok (.iconst (-1), 1) ∧ decode (zcc m_X8_rule) 22 = .ok (.ireturn, 1) := by decide +kernel
theorem d_X8_rule_0 : zD m_X8_rule 0 (.iload_n 1) 1 1 := ⟨eg_X8_rule_0.1, rfl⟩
theorem d_X8_rule_1 : zD m_X8_rule 1 (.i2l) 1 2 := ⟨eg_X8_rule_0.2.1, rfl⟩
theorem d_X8_rule_2 : zD m_X8_rule 2 (.lconst 0) 1 3 := ⟨eg_X8_rule_0.2.2.1, rfl⟩
theorem d_X8_rule_3 : zD m_X8_rule 3 (.ldc2_w 179) 3 6 := ⟨eg_X8_rule_0.2.2.2.1, rfl⟩
theorem d_X8_rule_6 : zD m_X8_rule 6 (.invokestatic 92) 3 9 := ⟨eg_X8_rule_0.2.2.2.2.1, rfl⟩
theorem d_X8_rule_9 : zDj m_X8_rule 9 (.ifCond .eq) 12 21 := ⟨12, eg_X8_rule_0.2.2.2.2.2.1, rfl, by decide⟩
theorem d_X8_rule_12 : zD m_X8_rule 12 (.aload_n 0) 1 13 := ⟨eg_X8_rule_0.2.2.2.2.2.2.1, rfl⟩
theorem d_X8_rule_13 : zD m_X8_rule 13 (.getfield 21) 3 16 := ⟨eg_X8_rule_0.2.2.2.2.2.2.2, rfl⟩
theorem d_X8_rule_16 : zD m_X8_rule 16 (.iload_n 1) 1 17 := ⟨eg_X8_rule_8.1, rfl⟩
theorem d_X8_rule_17 : zD m_X8_rule 17 (.iaload) 1 18 := ⟨eg_X8_rule_8.2.1, rfl⟩
theorem d_X8_rule_18 : zDj m_X8_rule 18 (.goto) 21 22 := ⟨4, eg_X8_rule_8.2.2.1, rfl, by decide⟩
theorem d_X8_rule_21 : zD m_X8_rule 21 (.iconst (-1)) 1 22 := ⟨eg_X8_rule_8.2.2.2.1, rfl⟩
theorem d_X8_rule_22 : decode (zcc m_X8_rule) 22 = .ok (.ireturn, 1) := eg_X8_rule_8.2.2.2.2
set_option maxRecDepth 20000 in
theorem eg_X8_isWell_0 : decode (zcc m_X8_isWell) 0 = .ok (.iload_n 0, 1) ∧ decode (zcc m_X8_isWell) 1 = .ok (.i2l, 1) ∧ decode (zcc m_X8_isWell) 2 = .ok (.lconst 0, 1) ∧ decode (zcc m_X8_isWell) 3 = .ok (.ldc2_w 181, 3) ∧ decode (zcc m_X8_isWell) 6 = .ok (.invokestatic 92, 3) ∧ decode (zcc m_X8_isWell) 9 = .ok (.ireturn, 1) := by decide +kernel
theorem d_X8_isWell_0 : zD m_X8_isWell 0 (.iload_n 0) 1 1 := ⟨eg_X8_isWell_0.1, rfl⟩
theorem d_X8_isWell_1 : zD m_X8_isWell 1 (.i2l) 1 2 := ⟨eg_X8_isWell_0.2.1, rfl⟩
theorem d_X8_isWell_2 : zD m_X8_isWell 2 (.lconst 0) 1 3 := ⟨eg_X8_isWell_0.2.2.1, rfl⟩
theorem d_X8_isWell_3 : zD m_X8_isWell 3 (.ldc2_w 181) 3 6 := ⟨eg_X8_isWell_0.2.2.2.1, rfl⟩
theorem d_X8_isWell_6 : zD m_X8_isWell 6 (.invokestatic 92) 3 9 := ⟨eg_X8_isWell_0.2.2.2.2.1, rfl⟩
theorem d_X8_isWell_9 : decode (zcc m_X8_isWell) 9 = .ok (.ireturn, 1) := eg_X8_isWell_0.2.2.2.2.2
set_option maxRecDepth 20000 in
theorem eg_X8_well_0 : decode (zcc m_X8_well) 0 = .ok (.iload_n 1, 1) ∧ decode (zcc m_X8_well) 1 = .ok (.invokestatic 183, 3) ∧ decode (zcc m_X8_well) 4 = .ok (.ifCond .eq (15), 3) ∧ decode (zcc m_X8_well) 7 = .ok (.iload_n 2, 1) ∧ decode (zcc m_X8_well) 8 = .ok (.i2l, 1) ∧ decode (zcc m_X8_well) 9 = .ok (.lconst 0, 1) ∧ decode (zcc m_X8_well) 10 = .ok (.ldc2_w 187, 3) ∧ decode (zcc m_X8_well) 13 = .ok (.invokestatic 92, 3) := by decide +kernel
set_option maxRecDepth 20000 in
theorem eg_X8_well_8 : decode (zcc m_X8_well) 16 = .ok (.ifCond .ne (5), 3) ∧ decode (zcc m_X8_well) 19 = .ok (.iconst (-1), 1) ∧ decode (zcc m_X8_well) 20 = .ok (.ireturn, 1) ∧ decode (zcc m_X8_well) 21 = .ok (.iload_n 2, 1) ∧ decode (zcc m_X8_well) 22 = .ok (.ifCond .ne (12), 3) ∧ decode (zcc m_X8_well) 25 = .ok (.aload_n 0, 1) ∧ decode (zcc m_X8_well) 26 = .ok (.getfield 7, 3) ∧ decode (zcc m_X8_well) 29 = .ok (.iload_n 1, 1) := by decide +kernel
set_option maxRecDepth 20000 in
theorem eg_X8_well_16 : decode (zcc m_X8_well) 30 = .ok (.iaload, 1) ∧ decode (zcc m_X8_well) 31 = .ok (.goto (57), 3) ∧ decode (zcc m_X8_well) 34 = .ok (.iload_n 2, 1) ∧ decode (zcc m_X8_well) 35 = .ok (.iconst 1, 1) ∧ decode (zcc m_X8_well) 36 = .ok (.if_icmp .ne (15), 3) ∧ decode (zcc m_X8_well) 39 = .ok (.aload_n 0, 1) ∧ decode (zcc m_X8_well) 40 = .ok (.getfield 7, 3) ∧ decode (zcc m_X8_well) 43 = .ok (.bipush 104, 2) := by decide +kernel
set_option maxRecDepth 20000 in
theorem eg_X8_well_24 : decode (zcc m_X8_well) 45 = .ok (.iload_n 1, 1) ∧ decode (zcc m_X8_well) 46 = .ok (.iadd, 1) ∧ decode (zcc m_X8_well) 47 = .ok (.iaload, 1) ∧ decode (zcc m_X8_well) 48 = .ok (.goto (40), 3) ∧ decode (zcc m_X8_well) 51 = .ok (.iload_n 2, 1) ∧ decode (zcc m_X8_well) 52 = .ok (.iconst 2, 1) ∧ decode (zcc m_X8_well) 53 = .ok (.if_icmp .ne (12), 3) ∧ decode (zcc m_X8_well) 56 = .ok (.aload_n 0, 1) := by decide +kernel
set_option maxRecDepth 20000 in
theorem eg_X8_well_32 : decode (zcc m_X8_well) 57 = .ok (.getfield 24, 3) ∧ decode (zcc m_X8_well) 60 = .ok (.iload_n 1, 1) ∧ decode (zcc m_X8_well) 61 = .ok (.iaload, 1) ∧ decode (zcc m_X8_well) 62 = .ok (.goto (26), 3) ∧ decode (zcc m_X8_well) 65 = .ok (.iload_n 2, 1) ∧ decode (zcc m_X8_well) 66 = .ok (.iconst 3, 1) ∧ decode (zcc m_X8_well) 67 = .ok (.if_icmp .ne (12), 3) ∧ decode (zcc m_X8_well) 70 = .ok (.aload_n 0, 1) := by decide +kernel
set_option maxRecDepth 20000 in
theorem eg_X8_well_40 : decode (zcc m_X8_well) 71 = .ok (.getfield 27, 3) ∧ decode (zcc m_X8_well) 74 = .ok (.iload_n 1, 1) ∧ decode (zcc m_X8_well) 75 = .ok (.iaload, 1) ∧ decode (zcc m_X8_well) 76 = .ok (.goto (12), 3) ∧ decode (zcc m_X8_well) 79 = .ok (.aload_n 0, 1) ∧ decode (zcc m_X8_well) 80 = .ok (.getfield 7, 3) ∧ decode (zcc m_X8_well) 83 = .ok (.bipush 56, 2) ∧ decode (zcc m_X8_well) 85 = .ok (.iload_n 1, 1) := by decide +kernel
set_option maxRecDepth 20000 in
theorem eg_X8_well_48 : decode (zcc m_X8_well) 86 = .ok (.iadd, 1) ∧ decode (zcc m_X8_well) 87 = .ok (.iaload, 1) ∧ decode (zcc m_X8_well) 88 = .ok (.ireturn, 1) := by decide +kernel
theorem d_X8_well_0 : zD m_X8_well 0 (.iload_n 1) 1 1 := ⟨eg_X8_well_0.1, rfl⟩
theorem d_X8_well_1 : zD m_X8_well 1 (.invokestatic 183) 3 4 := ⟨eg_X8_well_0.2.1, rfl⟩
theorem d_X8_well_4 : zDj m_X8_well 4 (.ifCond .eq) 7 19 := ⟨15, eg_X8_well_0.2.2.1, rfl, by decide⟩
theorem d_X8_well_7 : zD m_X8_well 7 (.iload_n 2) 1 8 := ⟨eg_X8_well_0.2.2.2.1, rfl⟩
theorem d_X8_well_8 : zD m_X8_well 8 (.i2l) 1 9 := ⟨eg_X8_well_0.2.2.2.2.1, rfl⟩
theorem d_X8_well_9 : zD m_X8_well 9 (.lconst 0) 1 10 := ⟨eg_X8_well_0.2.2.2.2.2.1, rfl⟩
theorem d_X8_well_10 : zD m_X8_well 10 (.ldc2_w 187) 3 13 := ⟨eg_X8_well_0.2.2.2.2.2.2.1, rfl⟩
theorem d_X8_well_13 : zD m_X8_well 13 (.invokestatic 92) 3 16 := ⟨eg_X8_well_0.2.2.2.2.2.2.2, rfl⟩
theorem d_X8_well_16 : zDj m_X8_well 16 (.ifCond .ne) 19 21 := ⟨5, eg_X8_well_8.1, rfl, by decide⟩
theorem d_X8_well_19 : zD m_X8_well 19 (.iconst (-1)) 1 20 := ⟨eg_X8_well_8.2.1, rfl⟩
theorem d_X8_well_20 : decode (zcc m_X8_well) 20 = .ok (.ireturn, 1) := eg_X8_well_8.2.2.1
theorem d_X8_well_21 : zD m_X8_well 21 (.iload_n 2) 1 22 := ⟨eg_X8_well_8.2.2.2.1, rfl⟩
theorem d_X8_well_22 : zDj m_X8_well 22 (.ifCond .ne) 25 34 := ⟨12, eg_X8_well_8.2.2.2.2.1, rfl, by decide⟩
theorem d_X8_well_25 : zD m_X8_well 25 (.aload_n 0) 1 26 := ⟨eg_X8_well_8.2.2.2.2.2.1, rfl⟩
theorem d_X8_well_26 : zD m_X8_well 26 (.getfield 7) 3 29 := ⟨eg_X8_well_8.2.2.2.2.2.2.1, rfl⟩
theorem d_X8_well_29 : zD m_X8_well 29 (.iload_n 1) 1 30 := ⟨eg_X8_well_8.2.2.2.2.2.2.2, rfl⟩
theorem d_X8_well_30 : zD m_X8_well 30 (.iaload) 1 31 := ⟨eg_X8_well_16.1, rfl⟩
theorem d_X8_well_31 : zDj m_X8_well 31 (.goto) 34 88 := ⟨57, eg_X8_well_16.2.1, rfl, by decide⟩
theorem d_X8_well_34 : zD m_X8_well 34 (.iload_n 2) 1 35 := ⟨eg_X8_well_16.2.2.1, rfl⟩
theorem d_X8_well_35 : zD m_X8_well 35 (.iconst 1) 1 36 := ⟨eg_X8_well_16.2.2.2.1, rfl⟩
theorem d_X8_well_36 : zDj m_X8_well 36 (.if_icmp .ne) 39 51 := ⟨15, eg_X8_well_16.2.2.2.2.1, rfl, by decide⟩
theorem d_X8_well_39 : zD m_X8_well 39 (.aload_n 0) 1 40 := ⟨eg_X8_well_16.2.2.2.2.2.1, rfl⟩
theorem d_X8_well_40 : zD m_X8_well 40 (.getfield 7) 3 43 := ⟨eg_X8_well_16.2.2.2.2.2.2.1, rfl⟩
theorem d_X8_well_43 : zD m_X8_well 43 (.bipush 104) 2 45 := ⟨eg_X8_well_16.2.2.2.2.2.2.2, rfl⟩
theorem d_X8_well_45 : zD m_X8_well 45 (.iload_n 1) 1 46 := ⟨eg_X8_well_24.1, rfl⟩
theorem d_X8_well_46 : zD m_X8_well 46 (.iadd) 1 47 := ⟨eg_X8_well_24.2.1, rfl⟩
theorem d_X8_well_47 : zD m_X8_well 47 (.iaload) 1 48 := ⟨eg_X8_well_24.2.2.1, rfl⟩
theorem d_X8_well_48 : zDj m_X8_well 48 (.goto) 51 88 := ⟨40, eg_X8_well_24.2.2.2.1, rfl, by decide⟩
theorem d_X8_well_51 : zD m_X8_well 51 (.iload_n 2) 1 52 := ⟨eg_X8_well_24.2.2.2.2.1, rfl⟩
theorem d_X8_well_52 : zD m_X8_well 52 (.iconst 2) 1 53 := ⟨eg_X8_well_24.2.2.2.2.2.1, rfl⟩
theorem d_X8_well_53 : zDj m_X8_well 53 (.if_icmp .ne) 56 65 := ⟨12, eg_X8_well_24.2.2.2.2.2.2.1, rfl, by decide⟩
theorem d_X8_well_56 : zD m_X8_well 56 (.aload_n 0) 1 57 := ⟨eg_X8_well_24.2.2.2.2.2.2.2, rfl⟩
theorem d_X8_well_57 : zD m_X8_well 57 (.getfield 24) 3 60 := ⟨eg_X8_well_32.1, rfl⟩
theorem d_X8_well_60 : zD m_X8_well 60 (.iload_n 1) 1 61 := ⟨eg_X8_well_32.2.1, rfl⟩
theorem d_X8_well_61 : zD m_X8_well 61 (.iaload) 1 62 := ⟨eg_X8_well_32.2.2.1, rfl⟩
theorem d_X8_well_62 : zDj m_X8_well 62 (.goto) 65 88 := ⟨26, eg_X8_well_32.2.2.2.1, rfl, by decide⟩
theorem d_X8_well_65 : zD m_X8_well 65 (.iload_n 2) 1 66 := ⟨eg_X8_well_32.2.2.2.2.1, rfl⟩
theorem d_X8_well_66 : zD m_X8_well 66 (.iconst 3) 1 67 := ⟨eg_X8_well_32.2.2.2.2.2.1, rfl⟩
theorem d_X8_well_67 : zDj m_X8_well 67 (.if_icmp .ne) 70 79 := ⟨12, eg_X8_well_32.2.2.2.2.2.2.1, rfl, by decide⟩
theorem d_X8_well_70 : zD m_X8_well 70 (.aload_n 0) 1 71 := ⟨eg_X8_well_32.2.2.2.2.2.2.2, rfl⟩
theorem d_X8_well_71 : zD m_X8_well 71 (.getfield 27) 3 74 := ⟨eg_X8_well_40.1, rfl⟩
theorem d_X8_well_74 : zD m_X8_well 74 (.iload_n 1) 1 75 := ⟨eg_X8_well_40.2.1, rfl⟩
theorem d_X8_well_75 : zD m_X8_well 75 (.iaload) 1 76 := ⟨eg_X8_well_40.2.2.1, rfl⟩
theorem d_X8_well_76 : zDj m_X8_well 76 (.goto) 79 88 := ⟨12, eg_X8_well_40.2.2.2.1, rfl, by decide⟩
theorem d_X8_well_79 : zD m_X8_well 79 (.aload_n 0) 1 80 := ⟨eg_X8_well_40.2.2.2.2.1, rfl⟩
theorem d_X8_well_80 : zD m_X8_well 80 (.getfield 7) 3 83 := ⟨eg_X8_well_40.2.2.2.2.2.1, rfl⟩
theorem d_X8_well_83 : zD m_X8_well 83 (.bipush 56) 2 85 := ⟨eg_X8_well_40.2.2.2.2.2.2.1, rfl⟩
theorem d_X8_well_85 : zD m_X8_well 85 (.iload_n 1) 1 86 := ⟨eg_X8_well_40.2.2.2.2.2.2.2, rfl⟩
theorem d_X8_well_86 : zD m_X8_well 86 (.iadd) 1 87 := ⟨eg_X8_well_48.1, rfl⟩
theorem d_X8_well_87 : zD m_X8_well 87 (.iaload) 1 88 := ⟨eg_X8_well_48.2.1, rfl⟩
theorem d_X8_well_88 : decode (zcc m_X8_well) 88 = .ok (.ireturn, 1) := eg_X8_well_48.2.2
set_option maxRecDepth 20000 in
theorem eg_X8_light_0 : decode (zcc m_X8_light) 0 = .ok (.iload_n 1, 1) ∧ decode (zcc m_X8_light) 1 = .ok (.invokestatic 183, 3) ∧ decode (zcc m_X8_light) 4 = .ok (.ifCond .eq (15), 3) ∧ decode (zcc m_X8_light) 7 = .ok (.iload_n 2, 1) ∧ decode (zcc m_X8_light) 8 = .ok (.i2l, 1) ∧ decode (zcc m_X8_light) 9 = .ok (.lconst 0, 1) ∧ decode (zcc m_X8_light) 10 = .ok (.ldc2_w 189, 3) ∧ decode (zcc m_X8_light) 13 = .ok (.invokestatic 92, 3) := by decide +kernel
set_option maxRecDepth 20000 in
theorem eg_X8_light_8 : decode (zcc m_X8_light) 16 = .ok (.ifCond .ne (5), 3) ∧ decode (zcc m_X8_light) 19 = .ok (.iconst (-1), 1) ∧ decode (zcc m_X8_light) 20 = .ok (.ireturn, 1) ∧ decode (zcc m_X8_light) 21 = .ok (.aload_n 0, 1) ∧ decode (zcc m_X8_light) 22 = .ok (.getfield 7, 3) ∧ decode (zcc m_X8_light) 25 = .ok (.bipush 104, 2) ∧ decode (zcc m_X8_light) 27 = .ok (.iload_n 1, 1) ∧ decode (zcc m_X8_light) 28 = .ok (.iadd, 1) := by decide +kernel
set_option maxRecDepth 20000 in
theorem eg_X8_light_16 : decode (zcc m_X8_light) 29 = .ok (.iaload, 1) ∧ decode (zcc m_X8_light) 30 = .ok (.istore_n 3, 1) ∧ decode (zcc m_X8_light) 31 = .ok (.aload_n 0, 1) ∧ decode (zcc m_X8_light) 32 = .ok (.getfield 7, 3) ∧ decode (zcc m_X8_light) 35 = .ok (.bipush 104, 2) ∧ decode (zcc m_X8_light) 37 = .ok (.iload_n 1, 1) ∧ decode (zcc m_X8_light) 38 = .ok (.iadd, 1) ∧ decode (zcc m_X8_light) 39 = .ok (.iload_n 2, 1) := by decide +kernel
set_option maxRecDepth 20000 in
theorem eg_X8_light_24 : decode (zcc m_X8_light) 40 = .ok (.iastore, 1) ∧ decode (zcc m_X8_light) 41 = .ok (.iload_n 3, 1) ∧ decode (zcc m_X8_light) 42 = .ok (.ireturn, 1) := by decide +kernel
theorem d_X8_light_0 : zD m_X8_light 0 (.iload_n 1) 1 1 := ⟨eg_X8_light_0.1, rfl⟩
theorem d_X8_light_1 : zD m_X8_light 1 (.invokestatic 183) 3 4 := ⟨eg_X8_light_0.2.1, rfl⟩
theorem d_X8_light_4 : zDj m_X8_light 4 (.ifCond .eq) 7 19 := ⟨15, eg_X8_light_0.2.2.1, rfl, by decide⟩
theorem d_X8_light_7 : zD m_X8_light 7 (.iload_n 2) 1 8 := ⟨eg_X8_light_0.2.2.2.1, rfl⟩
theorem d_X8_light_8 : zD m_X8_light 8 (.i2l) 1 9 := ⟨eg_X8_light_0.2.2.2.2.1, rfl⟩
theorem d_X8_light_9 : zD m_X8_light 9 (.lconst 0) 1 10 := ⟨eg_X8_light_0.2.2.2.2.2.1, rfl⟩
theorem d_X8_light_10 : zD m_X8_light 10 (.ldc2_w 189) 3 13 := ⟨eg_X8_light_0.2.2.2.2.2.2.1, rfl⟩
theorem d_X8_light_13 : zD m_X8_light 13 (.invokestatic 92) 3 16 := ⟨eg_X8_light_0.2.2.2.2.2.2.2, rfl⟩
theorem d_X8_light_16 : zDj m_X8_light 16 (.ifCond .ne) 19 21 := ⟨5, eg_X8_light_8.1, rfl, by decide⟩
theorem d_X8_light_19 : zD m_X8_light 19 (.iconst (-1)) 1 20 := ⟨eg_X8_light_8.2.1, rfl⟩
theorem d_X8_light_20 : decode (zcc m_X8_light) 20 = .ok (.ireturn, 1) := eg_X8_light_8.2.2.1
theorem d_X8_light_21 : zD m_X8_light 21 (.aload_n 0) 1 22 := ⟨eg_X8_light_8.2.2.2.1, rfl⟩
theorem d_X8_light_22 : zD m_X8_light 22 (.getfield 7) 3 25 := ⟨eg_X8_light_8.2.2.2.2.1, rfl⟩
theorem d_X8_light_25 : zD m_X8_light 25 (.bipush 104) 2 27 := ⟨eg_X8_light_8.2.2.2.2.2.1, rfl⟩
theorem d_X8_light_27 : zD m_X8_light 27 (.iload_n 1) 1 28 := ⟨eg_X8_light_8.2.2.2.2.2.2.1, rfl⟩
theorem d_X8_light_28 : zD m_X8_light 28 (.iadd) 1 29 := ⟨eg_X8_light_8.2.2.2.2.2.2.2, rfl⟩
theorem d_X8_light_29 : zD m_X8_light 29 (.iaload) 1 30 := ⟨eg_X8_light_16.1, rfl⟩
theorem d_X8_light_30 : zD m_X8_light 30 (.istore_n 3) 1 31 := ⟨eg_X8_light_16.2.1, rfl⟩
theorem d_X8_light_31 : zD m_X8_light 31 (.aload_n 0) 1 32 := ⟨eg_X8_light_16.2.2.1, rfl⟩
theorem d_X8_light_32 : zD m_X8_light 32 (.getfield 7) 3 35 := ⟨eg_X8_light_16.2.2.2.1, rfl⟩
theorem d_X8_light_35 : zD m_X8_light 35 (.bipush 104) 2 37 := ⟨eg_X8_light_16.2.2.2.2.1, rfl⟩
theorem d_X8_light_37 : zD m_X8_light 37 (.iload_n 1) 1 38 := ⟨eg_X8_light_16.2.2.2.2.2.1, rfl⟩
theorem d_X8_light_38 : zD m_X8_light 38 (.iadd) 1 39 := ⟨eg_X8_light_16.2.2.2.2.2.2.1, rfl⟩
theorem d_X8_light_39 : zD m_X8_light 39 (.iload_n 2) 1 40 := ⟨eg_X8_light_16.2.2.2.2.2.2.2, rfl⟩
theorem d_X8_light_40 : zD m_X8_light 40 (.iastore) 1 41 := ⟨eg_X8_light_24.1, rfl⟩
theorem d_X8_light_41 : zD m_X8_light 41 (.iload_n 3) 1 42 := ⟨eg_X8_light_24.2.1, rfl⟩
theorem d_X8_light_42 : decode (zcc m_X8_light) 42 = .ok (.ireturn, 1) := eg_X8_light_24.2.2
set_option maxRecDepth 20000 in
theorem eg_X8_adds_0 : decode (zcc m_X8_adds) 0 = .ok (.aload_n 0, 1) ∧ decode (zcc m_X8_adds) 1 = .ok (.getfield 13, 3) ∧ decode (zcc m_X8_adds) 4 = .ok (.iconst 3, 1) ∧ decode (zcc m_X8_adds) 5 = .ok (.iload_n 1, 1) ∧ decode (zcc m_X8_adds) 6 = .ok (.sipush 160, 3) ∧ decode (zcc m_X8_adds) 9 = .ok (.idiv, 1) ∧ decode (zcc m_X8_adds) 10 = .ok (.imul, 1) ∧ decode (zcc m_X8_adds) 11 = .ok (.iload_n 2, 1) := by decide +kernel
set_option maxRecDepth 20000 in
theorem eg_X8_adds_8 : decode (zcc m_X8_adds) 12 = .ok (.iadd, 1) ∧ decode (zcc m_X8_adds) 13 = .ok (.dup2, 1) ∧ decode (zcc m_X8_adds) 14 = .ok (.laload, 1) ∧ decode (zcc m_X8_adds) 15 = .ok (.iload_n 3, 1) ∧ decode (zcc m_X8_adds) 16 = .ok (.i2l, 1) ∧ decode (zcc m_X8_adds) 17 = .ok (.ladd, 1) ∧ decode (zcc m_X8_adds) 18 = .ok (.lastore, 1) ∧ decode (zcc m_X8_adds) 19 = .ok (.return_, 1) := by decide +kernel
theorem d_X8_adds_0 : zD m_X8_adds 0 (.aload_n 0) 1 1 := ⟨eg_X8_adds_0.1, rfl⟩
theorem d_X8_adds_1 : zD m_X8_adds 1 (.getfield 13) 3 4 := ⟨eg_X8_adds_0.2.1, rfl⟩
theorem d_X8_adds_4 : zD m_X8_adds 4 (.iconst 3) 1 5 := ⟨eg_X8_adds_0.2.2.1, rfl⟩
theorem d_X8_adds_5 : zD m_X8_adds 5 (.iload_n 1) 1 6 := ⟨eg_X8_adds_0.2.2.2.1, rfl⟩
theorem d_X8_adds_6 : zD m_X8_adds 6 (.sipush 160) 3 9 := ⟨eg_X8_adds_0.2.2.2.2.1, rfl⟩
theorem d_X8_adds_9 : zD m_X8_adds 9 (.idiv) 1 10 := ⟨eg_X8_adds_0.2.2.2.2.2.1, rfl⟩
theorem d_X8_adds_10 : zD m_X8_adds 10 (.imul) 1 11 := ⟨eg_X8_adds_0.2.2.2.2.2.2.1, rfl⟩
theorem d_X8_adds_11 : zD m_X8_adds 11 (.iload_n 2) 1 12 := ⟨eg_X8_adds_0.2.2.2.2.2.2.2, rfl⟩
theorem d_X8_adds_12 : zD m_X8_adds 12 (.iadd) 1 13 := ⟨eg_X8_adds_8.1, rfl⟩
theorem d_X8_adds_13 : zD m_X8_adds 13 (.dup2) 1 14 := ⟨eg_X8_adds_8.2.1, rfl⟩
theorem d_X8_adds_14 : zD m_X8_adds 14 (.laload) 1 15 := ⟨eg_X8_adds_8.2.2.1, rfl⟩
theorem d_X8_adds_15 : zD m_X8_adds 15 (.iload_n 3) 1 16 := ⟨eg_X8_adds_8.2.2.2.1, rfl⟩
theorem d_X8_adds_16 : zD m_X8_adds 16 (.i2l) 1 17 := ⟨eg_X8_adds_8.2.2.2.2.1, rfl⟩
theorem d_X8_adds_17 : zD m_X8_adds 17 (.ladd) 1 18 := ⟨eg_X8_adds_8.2.2.2.2.2.1, rfl⟩
theorem d_X8_adds_18 : zD m_X8_adds 18 (.lastore) 1 19 := ⟨eg_X8_adds_8.2.2.2.2.2.2.1, rfl⟩
theorem d_X8_adds_19 : decode (zcc m_X8_adds) 19 = .ok (.return_, 1) := eg_X8_adds_8.2.2.2.2.2.2.2
set_option maxRecDepth 20000 in
theorem eg_X8_clearSums_0 : decode (zcc m_X8_clearSums) 0 = .ok (.iconst 0, 1) ∧ decode (zcc m_X8_clearSums) 1 = .ok (.istore_n 1, 1) ∧ decode (zcc m_X8_clearSums) 2 = .ok (.iload_n 1, 1) ∧ decode (zcc m_X8_clearSums) 3 = .ok (.iconst 3, 1) ∧ decode (zcc m_X8_clearSums) 4 = .ok (.if_icmp .ge (16), 3) ∧ decode (zcc m_X8_clearSums) 7 = .ok (.aload_n 0, 1) ∧ decode (zcc m_X8_clearSums) 8 = .ok (.getfield 13, 3) ∧ decode (zcc m_X8_clearSums) 11 = .ok (.iload_n 1, 1) := by decide +kernel
set_option maxRecDepth 20000 in
theorem eg_X8_clearSums_8 : decode (zcc m_X8_clearSums) 12 = .ok (.lconst 0, 1) ∧ decode (zcc m_X8_clearSums) 13 = .ok (.lastore, 1) ∧ decode (zcc m_X8_clearSums) 14 = .ok (.iinc 1 1, 3) ∧ decode (zcc m_X8_clearSums) 17 = .ok (.goto (-15), 3) ∧ decode (zcc m_X8_clearSums) 20 = .ok (.return_, 1) := by decide +kernel
theorem d_X8_clearSums_0 : zD m_X8_clearSums 0 (.iconst 0) 1 1 := ⟨eg_X8_clearSums_0.1, rfl⟩
theorem d_X8_clearSums_1 : zD m_X8_clearSums 1 (.istore_n 1) 1 2 := ⟨eg_X8_clearSums_0.2.1, rfl⟩
theorem d_X8_clearSums_2 : zD m_X8_clearSums 2 (.iload_n 1) 1 3 := ⟨eg_X8_clearSums_0.2.2.1, rfl⟩
theorem d_X8_clearSums_3 : zD m_X8_clearSums 3 (.iconst 3) 1 4 := ⟨eg_X8_clearSums_0.2.2.2.1, rfl⟩
theorem d_X8_clearSums_4 : zDj m_X8_clearSums 4 (.if_icmp .ge) 7 20 := ⟨16, eg_X8_clearSums_0.2.2.2.2.1, rfl, by decide⟩
theorem d_X8_clearSums_7 : zD m_X8_clearSums 7 (.aload_n 0) 1 8 := ⟨eg_X8_clearSums_0.2.2.2.2.2.1, rfl⟩
theorem d_X8_clearSums_8 : zD m_X8_clearSums 8 (.getfield 13) 3 11 := ⟨eg_X8_clearSums_0.2.2.2.2.2.2.1, rfl⟩
theorem d_X8_clearSums_11 : zD m_X8_clearSums 11 (.iload_n 1) 1 12 := ⟨eg_X8_clearSums_0.2.2.2.2.2.2.2, rfl⟩
theorem d_X8_clearSums_12 : zD m_X8_clearSums 12 (.lconst 0) 1 13 := ⟨eg_X8_clearSums_8.1, rfl⟩
theorem d_X8_clearSums_13 : zD m_X8_clearSums 13 (.lastore) 1 14 := ⟨eg_X8_clearSums_8.2.1, rfl⟩
theorem d_X8_clearSums_14 : zD m_X8_clearSums 14 (.iinc 1 1) 3 17 := ⟨eg_X8_clearSums_8.2.2.1, rfl⟩
theorem d_X8_clearSums_17 : zDj m_X8_clearSums 17 (.goto) 20 2 := ⟨-15, eg_X8_clearSums_8.2.2.2.1, rfl, by decide⟩
theorem d_X8_clearSums_20 : decode (zcc m_X8_clearSums) 20 = .ok (.return_, 1) := eg_X8_clearSums_8.2.2.2.2
set_option maxRecDepth 20000 in
theorem eg_X8_sumOf_0 : decode (zcc m_X8_sumOf) 0 = .ok (.iconst 0, 1) ∧ decode (zcc m_X8_sumOf) 1 = .ok (.istore_n 3, 1) ∧ decode (zcc m_X8_sumOf) 2 = .ok (.iconst 0, 1) ∧ decode (zcc m_X8_sumOf) 3 = .ok (.istore 4, 2) ∧ decode (zcc m_X8_sumOf) 5 = .ok (.iload 4, 2) ∧ decode (zcc m_X8_sumOf) 7 = .ok (.iload_n 2, 1) ∧ decode (zcc m_X8_sumOf) 8 = .ok (.if_icmp .ge (21), 3) ∧ decode (zcc m_X8_sumOf) 11 = .ok (.iload_n 3, 1) := by decide +kernel
set_option maxRecDepth 20000 in
theorem eg_X8_sumOf_8 : decode (zcc m_X8_sumOf) 12 = .ok (.aload_n 0, 1) ∧ decode (zcc m_X8_sumOf) 13 = .ok (.getfield 7, 3) ∧ decode (zcc m_X8_sumOf) 16 = .ok (.iload_n 1, 1) ∧ decode (zcc m_X8_sumOf) 17 = .ok (.iload 4, 2) ∧ decode (zcc m_X8_sumOf) 19 = .ok (.iadd, 1) ∧ decode (zcc m_X8_sumOf) 20 = .ok (.iaload, 1) ∧ decode (zcc m_X8_sumOf) 21 = .ok (.iadd, 1) ∧ decode (zcc m_X8_sumOf) 22 = .ok (.istore_n 3, 1) := by decide +kernel
set_option maxRecDepth 20000 in
theorem eg_X8_sumOf_16 : decode (zcc m_X8_sumOf) 23 = .ok (.iinc 4 1, 3) ∧ decode (zcc m_X8_sumOf) 26 = .ok (.goto (-21), 3) ∧ decode (zcc m_X8_sumOf) 29 = .ok (.iload_n 3, 1) ∧ decode (zcc m_X8_sumOf) 30 = .ok (.ireturn, 1) := by decide +kernel
theorem d_X8_sumOf_0 : zD m_X8_sumOf 0 (.iconst 0) 1 1 := ⟨eg_X8_sumOf_0.1, rfl⟩
theorem d_X8_sumOf_1 : zD m_X8_sumOf 1 (.istore_n 3) 1 2 := ⟨eg_X8_sumOf_0.2.1, rfl⟩
theorem d_X8_sumOf_2 : zD m_X8_sumOf 2 (.iconst 0) 1 3 := ⟨eg_X8_sumOf_0.2.2.1, rfl⟩
theorem d_X8_sumOf_3 : zD m_X8_sumOf 3 (.istore 4) 2 5 := ⟨eg_X8_sumOf_0.2.2.2.1, rfl⟩
theorem d_X8_sumOf_5 : zD m_X8_sumOf 5 (.iload 4) 2 7 := ⟨eg_X8_sumOf_0.2.2.2.2.1, rfl⟩
theorem d_X8_sumOf_7 : zD m_X8_sumOf 7 (.iload_n 2) 1 8 := ⟨eg_X8_sumOf_0.2.2.2.2.2.1, rfl⟩
theorem d_X8_sumOf_8 : zDj m_X8_sumOf 8 (.if_icmp .ge) 11 29 := ⟨21, eg_X8_sumOf_0.2.2.2.2.2.2.1, rfl, by decide⟩
theorem d_X8_sumOf_11 : zD m_X8_sumOf 11 (.iload_n 3) 1 12 := ⟨eg_X8_sumOf_0.2.2.2.2.2.2.2, rfl⟩
theorem d_X8_sumOf_12 : zD m_X8_sumOf 12 (.aload_n 0) 1 13 := ⟨eg_X8_sumOf_8.1, rfl⟩
theorem d_X8_sumOf_13 : zD m_X8_sumOf 13 (.getfield 7) 3 16 := ⟨eg_X8_sumOf_8.2.1, rfl⟩
theorem d_X8_sumOf_16 : zD m_X8_sumOf 16 (.iload_n 1) 1 17 := ⟨eg_X8_sumOf_8.2.2.1, rfl⟩
theorem d_X8_sumOf_17 : zD m_X8_sumOf 17 (.iload 4) 2 19 := ⟨eg_X8_sumOf_8.2.2.2.1, rfl⟩
theorem d_X8_sumOf_19 : zD m_X8_sumOf 19 (.iadd) 1 20 := ⟨eg_X8_sumOf_8.2.2.2.2.1, rfl⟩
theorem d_X8_sumOf_20 : zD m_X8_sumOf 20 (.iaload) 1 21 := ⟨eg_X8_sumOf_8.2.2.2.2.2.1, rfl⟩
theorem d_X8_sumOf_21 : zD m_X8_sumOf 21 (.iadd) 1 22 := ⟨eg_X8_sumOf_8.2.2.2.2.2.2.1, rfl⟩
theorem d_X8_sumOf_22 : zD m_X8_sumOf 22 (.istore_n 3) 1 23 := ⟨eg_X8_sumOf_8.2.2.2.2.2.2.2, rfl⟩
theorem d_X8_sumOf_23 : zD m_X8_sumOf 23 (.iinc 4 1) 3 26 := ⟨eg_X8_sumOf_16.1, rfl⟩
theorem d_X8_sumOf_26 : zDj m_X8_sumOf 26 (.goto) 29 5 := ⟨-21, eg_X8_sumOf_16.2.1, rfl, by decide⟩
theorem d_X8_sumOf_29 : zD m_X8_sumOf 29 (.iload_n 3) 1 30 := ⟨eg_X8_sumOf_16.2.2.1, rfl⟩
theorem d_X8_sumOf_30 : decode (zcc m_X8_sumOf) 30 = .ok (.ireturn, 1) := eg_X8_sumOf_16.2.2.2
set_option maxRecDepth 20000 in
theorem eg_X8_flows_0 : decode (zcc m_X8_flows) 0 = .ok (.iload_n 2, 1) ∧ decode (zcc m_X8_flows) 1 = .ok (.invokestatic 183, 3) ∧ decode (zcc m_X8_flows) 4 = .ok (.ifCond .eq (7), 3) ∧ decode (zcc m_X8_flows) 7 = .ok (.iload_n 3, 1) ∧ decode (zcc m_X8_flows) 8 = .ok (.ifCond .ne (5), 3) ∧ decode (zcc m_X8_flows) 11 = .ok (.iload_n 3, 1) ∧ decode (zcc m_X8_flows) 12 = .ok (.ireturn, 1) ∧ decode (zcc m_X8_flows) 13 = .ok (.aload_n 0, 1) := by decide +kernel
set_option maxRecDepth 20000 in
theorem eg_X8_flows_8 : decode (zcc m_X8_flows) 14 = .ok (.getfield 21, 3) ∧ decode (zcc m_X8_flows) 17 = .ok (.iconst 0, 1) ∧ decode (zcc m_X8_flows) 18 = .ok (.iaload, 1) ∧ decode (zcc m_X8_flows) 19 = .ok (.aload_n 0, 1) ∧ decode (zcc m_X8_flows) 20 = .ok (.getfield 7, 3) ∧ decode (zcc m_X8_flows) 23 = .ok (.iload_n 1, 1) ∧ decode (zcc m_X8_flows) 24 = .ok (.iload_n 2, 1) ∧ decode (zcc m_X8_flows) 25 = .ok (.iadd, 1) := by decide +kernel
set_option maxRecDepth 20000 in
theorem eg_X8_flows_16 : decode (zcc m_X8_flows) 26 = .ok (.iaload, 1) ∧ decode (zcc m_X8_flows) 27 = .ok (.isub, 1) ∧ decode (zcc m_X8_flows) 28 = .ok (.istore 4, 2) ∧ decode (zcc m_X8_flows) 30 = .ok (.iload 4, 2) ∧ decode (zcc m_X8_flows) 32 = .ok (.ifCond .gt (7), 3) ∧ decode (zcc m_X8_flows) 35 = .ok (.iconst 0, 1) ∧ decode (zcc m_X8_flows) 36 = .ok (.goto (9), 3) ∧ decode (zcc m_X8_flows) 39 = .ok (.iload 4, 2) := by decide +kernel
set_option maxRecDepth 20000 in
theorem eg_X8_flows_24 : decode (zcc m_X8_flows) 41 = .ok (.iload_n 3, 1) ∧ decode (zcc m_X8_flows) 42 = .ok (.invokestatic 191, 3) ∧ decode (zcc m_X8_flows) 45 = .ok (.istore 5, 2) ∧ decode (zcc m_X8_flows) 47 = .ok (.aload_n 0, 1) ∧ decode (zcc m_X8_flows) 48 = .ok (.getfield 7, 3) ∧ decode (zcc m_X8_flows) 51 = .ok (.iload_n 1, 1) ∧ decode (zcc m_X8_flows) 52 = .ok (.iload_n 2, 1) ∧ decode (zcc m_X8_flows) 53 = .ok (.iadd, 1) := by decide +kernel
set_option maxRecDepth 20000 in
theorem eg_X8_flows_32 : decode (zcc m_X8_flows) 54 = .ok (.dup2, 1) ∧ decode (zcc m_X8_flows) 55 = .ok (.iaload, 1) ∧ decode (zcc m_X8_flows) 56 = .ok (.iload 5, 2) ∧ decode (zcc m_X8_flows) 58 = .ok (.iadd, 1) ∧ decode (zcc m_X8_flows) 59 = .ok (.iastore, 1) ∧ decode (zcc m_X8_flows) 60 = .ok (.iload_n 3, 1) ∧ decode (zcc m_X8_flows) 61 = .ok (.iload 5, 2) ∧ decode (zcc m_X8_flows) 63 = .ok (.isub, 1) := by decide +kernel
set_option maxRecDepth 20000 in
theorem eg_X8_flows_40 : decode (zcc m_X8_flows) 64 = .ok (.ireturn, 1) := by decide +kernel
theorem d_X8_flows_0 : zD m_X8_flows 0 (.iload_n 2) 1 1 := ⟨eg_X8_flows_0.1, rfl⟩
theorem d_X8_flows_1 : zD m_X8_flows 1 (.invokestatic 183) 3 4 := ⟨eg_X8_flows_0.2.1, rfl⟩
theorem d_X8_flows_4 : zDj m_X8_flows 4 (.ifCond .eq) 7 11 := ⟨7, eg_X8_flows_0.2.2.1, rfl, by decide⟩
theorem d_X8_flows_7 : zD m_X8_flows 7 (.iload_n 3) 1 8 := ⟨eg_X8_flows_0.2.2.2.1, rfl⟩
theorem d_X8_flows_8 : zDj m_X8_flows 8 (.ifCond .ne) 11 13 := ⟨5, eg_X8_flows_0.2.2.2.2.1, rfl, by decide⟩
theorem d_X8_flows_11 : zD m_X8_flows 11 (.iload_n 3) 1 12 := ⟨eg_X8_flows_0.2.2.2.2.2.1, rfl⟩
theorem d_X8_flows_12 : decode (zcc m_X8_flows) 12 = .ok (.ireturn, 1) := eg_X8_flows_0.2.2.2.2.2.2.1
theorem d_X8_flows_13 : zD m_X8_flows 13 (.aload_n 0) 1 14 := ⟨eg_X8_flows_0.2.2.2.2.2.2.2, rfl⟩
theorem d_X8_flows_14 : zD m_X8_flows 14 (.getfield 21) 3 17 := ⟨eg_X8_flows_8.1, rfl⟩
theorem d_X8_flows_17 : zD m_X8_flows 17 (.iconst 0) 1 18 := ⟨eg_X8_flows_8.2.1, rfl⟩
theorem d_X8_flows_18 : zD m_X8_flows 18 (.iaload) 1 19 := ⟨eg_X8_flows_8.2.2.1, rfl⟩
theorem d_X8_flows_19 : zD m_X8_flows 19 (.aload_n 0) 1 20 := ⟨eg_X8_flows_8.2.2.2.1, rfl⟩
theorem d_X8_flows_20 : zD m_X8_flows 20 (.getfield 7) 3 23 := ⟨eg_X8_flows_8.2.2.2.2.1, rfl⟩
theorem d_X8_flows_23 : zD m_X8_flows 23 (.iload_n 1) 1 24 := ⟨eg_X8_flows_8.2.2.2.2.2.1, rfl⟩
theorem d_X8_flows_24 : zD m_X8_flows 24 (.iload_n 2) 1 25 := ⟨eg_X8_flows_8.2.2.2.2.2.2.1, rfl⟩
theorem d_X8_flows_25 : zD m_X8_flows 25 (.iadd) 1 26 := ⟨eg_X8_flows_8.2.2.2.2.2.2.2, rfl⟩
theorem d_X8_flows_26 : zD m_X8_flows 26 (.iaload) 1 27 := ⟨eg_X8_flows_16.1, rfl⟩
theorem d_X8_flows_27 : zD m_X8_flows 27 (.isub) 1 28 := ⟨eg_X8_flows_16.2.1, rfl⟩
theorem d_X8_flows_28 : zD m_X8_flows 28 (.istore 4) 2 30 := ⟨eg_X8_flows_16.2.2.1, rfl⟩
theorem d_X8_flows_30 : zD m_X8_flows 30 (.iload 4) 2 32 := ⟨eg_X8_flows_16.2.2.2.1, rfl⟩
theorem d_X8_flows_32 : zDj m_X8_flows 32 (.ifCond .gt) 35 39 := ⟨7, eg_X8_flows_16.2.2.2.2.1, rfl, by decide⟩
theorem d_X8_flows_35 : zD m_X8_flows 35 (.iconst 0) 1 36 := ⟨eg_X8_flows_16.2.2.2.2.2.1, rfl⟩
theorem d_X8_flows_36 : zDj m_X8_flows 36 (.goto) 39 45 := ⟨9, eg_X8_flows_16.2.2.2.2.2.2.1, rfl, by decide⟩
theorem d_X8_flows_39 : zD m_X8_flows 39 (.iload 4) 2 41 := ⟨eg_X8_flows_16.2.2.2.2.2.2.2, rfl⟩
theorem d_X8_flows_41 : zD m_X8_flows 41 (.iload_n 3) 1 42 := ⟨eg_X8_flows_24.1, rfl⟩
theorem d_X8_flows_42 : zD m_X8_flows 42 (.invokestatic 191) 3 45 := ⟨eg_X8_flows_24.2.1, rfl⟩
theorem d_X8_flows_45 : zD m_X8_flows 45 (.istore 5) 2 47 := ⟨eg_X8_flows_24.2.2.1, rfl⟩
theorem d_X8_flows_47 : zD m_X8_flows 47 (.aload_n 0) 1 48 := ⟨eg_X8_flows_24.2.2.2.1, rfl⟩
theorem d_X8_flows_48 : zD m_X8_flows 48 (.getfield 7) 3 51 := ⟨eg_X8_flows_24.2.2.2.2.1, rfl⟩
theorem d_X8_flows_51 : zD m_X8_flows 51 (.iload_n 1) 1 52 := ⟨eg_X8_flows_24.2.2.2.2.2.1, rfl⟩
theorem d_X8_flows_52 : zD m_X8_flows 52 (.iload_n 2) 1 53 := ⟨eg_X8_flows_24.2.2.2.2.2.2.1, rfl⟩
theorem d_X8_flows_53 : zD m_X8_flows 53 (.iadd) 1 54 := ⟨eg_X8_flows_24.2.2.2.2.2.2.2, rfl⟩
theorem d_X8_flows_54 : zD m_X8_flows 54 (.dup2) 1 55 := ⟨eg_X8_flows_32.1, rfl⟩
theorem d_X8_flows_55 : zD m_X8_flows 55 (.iaload) 1 56 := ⟨eg_X8_flows_32.2.1, rfl⟩
theorem d_X8_flows_56 : zD m_X8_flows 56 (.iload 5) 2 58 := ⟨eg_X8_flows_32.2.2.1, rfl⟩
theorem d_X8_flows_58 : zD m_X8_flows 58 (.iadd) 1 59 := ⟨eg_X8_flows_32.2.2.2.1, rfl⟩
theorem d_X8_flows_59 : zD m_X8_flows 59 (.iastore) 1 60 := ⟨eg_X8_flows_32.2.2.2.2.1, rfl⟩
theorem d_X8_flows_60 : zD m_X8_flows 60 (.iload_n 3) 1 61 := ⟨eg_X8_flows_32.2.2.2.2.2.1, rfl⟩
theorem d_X8_flows_61 : zD m_X8_flows 61 (.iload 5) 2 63 := ⟨eg_X8_flows_32.2.2.2.2.2.2.1, rfl⟩
theorem d_X8_flows_63 : zD m_X8_flows 63 (.isub) 1 64 := ⟨eg_X8_flows_32.2.2.2.2.2.2.2, rfl⟩
theorem d_X8_flows_64 : decode (zcc m_X8_flows) 64 = .ok (.ireturn, 1) := eg_X8_flows_40
set_option maxRecDepth 20000 in
theorem eg_X8_runsOver_0 : decode (zcc m_X8_runsOver) 0 = .ok (.iconst 0, 1) ∧ decode (zcc m_X8_runsOver) 1 = .ok (.istore_n 2, 1) ∧ decode (zcc m_X8_runsOver) 2 = .ok (.iload_n 2, 1) ∧ decode (zcc m_X8_runsOver) 3 = .ok (.bipush 48, 2) ∧ decode (zcc m_X8_runsOver) 5 = .ok (.if_icmp .ge (103), 3) ∧ decode (zcc m_X8_runsOver) 8 = .ok (.aload_n 0, 1) ∧ decode (zcc m_X8_runsOver) 9 = .ok (.getfield 7, 3) ∧ decode (zcc m_X8_runsOver) 12 = .ok (.iload_n 1, 1) := by decide +kernel
set_option maxRecDepth 20000 in
theorem eg_X8_runsOver_8 : decode (zcc m_X8_runsOver) 13 = .ok (.iload_n 2, 1) ∧ decode (zcc m_X8_runsOver) 14 = .ok (.iadd, 1) ∧ decode (zcc m_X8_runsOver) 15 = .ok (.iaload, 1) ∧ decode (zcc m_X8_runsOver) 16 = .ok (.aload_n 0, 1) ∧ decode (zcc m_X8_runsOver) 17 = .ok (.getfield 21, 3) ∧ decode (zcc m_X8_runsOver) 20 = .ok (.iconst 0, 1) ∧ decode (zcc m_X8_runsOver) 21 = .ok (.iaload, 1) ∧ decode (zcc m_X8_runsOver) 22 = .ok (.isub, 1) := by decide +kernel
set_option maxRecDepth 20000 in
theorem eg_X8_runsOver_16 : decode (zcc m_X8_runsOver) 23 = .ok (.istore_n 3, 1) ∧ decode (zcc m_X8_runsOver) 24 = .ok (.iload_n 3, 1) ∧ decode (zcc m_X8_runsOver) 25 = .ok (.ifCond .le (77), 3) ∧ decode (zcc m_X8_runsOver) 28 = .ok (.aload_n 0, 1) ∧ decode (zcc m_X8_runsOver) 29 = .ok (.getfield 7, 3) ∧ decode (zcc m_X8_runsOver) 32 = .ok (.iload_n 1, 1) ∧ decode (zcc m_X8_runsOver) 33 = .ok (.iload_n 2, 1) ∧ decode (zcc m_X8_runsOver) 34 = .ok (.iadd, 1) := by decide +kernel
set_option maxRecDepth 20000 in
theorem eg_X8_runsOver_24 : decode (zcc m_X8_runsOver) 35 = .ok (.aload_n 0, 1) ∧ decode (zcc m_X8_runsOver) 36 = .ok (.getfield 21, 3) ∧ decode (zcc m_X8_runsOver) 39 = .ok (.iconst 0, 1) ∧ decode (zcc m_X8_runsOver) 40 = .ok (.iaload, 1) ∧ decode (zcc m_X8_runsOver) 41 = .ok (.iastore, 1) ∧ decode (zcc m_X8_runsOver) 42 = .ok (.iconst 1, 1) ∧ decode (zcc m_X8_runsOver) 43 = .ok (.istore 4, 2) ∧ decode (zcc m_X8_runsOver) 45 = .ok (.iload 4, 2) := by decide +kernel
set_option maxRecDepth 20000 in
theorem eg_X8_runsOver_32 : decode (zcc m_X8_runsOver) 47 = .ok (.bipush 6, 2) ∧ decode (zcc m_X8_runsOver) 49 = .ok (.if_icmp .ge (46), 3) ∧ decode (zcc m_X8_runsOver) 52 = .ok (.aload_n 0, 1) ∧ decode (zcc m_X8_runsOver) 53 = .ok (.getfield 21, 3) ∧ decode (zcc m_X8_runsOver) 56 = .ok (.iconst 2, 1) ∧ decode (zcc m_X8_runsOver) 57 = .ok (.iaload, 1) ∧ decode (zcc m_X8_runsOver) 58 = .ok (.ifCond .ne (37), 3) ∧ decode (zcc m_X8_runsOver) 61 = .ok (.aload_n 0, 1) := by decide +kernel
set_option maxRecDepth 20000 in
theorem eg_X8_runsOver_40 : decode (zcc m_X8_runsOver) 62 = .ok (.iload_n 1, 1) ∧ decode (zcc m_X8_runsOver) 63 = .ok (.iload_n 2, 1) ∧ decode (zcc m_X8_runsOver) 64 = .ok (.bipush 8, 2) ∧ decode (zcc m_X8_runsOver) 66 = .ok (.iload 4, 2) ∧ decode (zcc m_X8_runsOver) 68 = .ok (.imul, 1) ∧ decode (zcc m_X8_runsOver) 69 = .ok (.isub, 1) ∧ decode (zcc m_X8_runsOver) 70 = .ok (.iload_n 3, 1) ∧ decode (zcc m_X8_runsOver) 71 = .ok (.invokevirtual 194, 3) := by decide +kernel
set_option maxRecDepth 20000 in
theorem eg_X8_runsOver_48 : decode (zcc m_X8_runsOver) 74 = .ok (.istore_n 3, 1) ∧ decode (zcc m_X8_runsOver) 75 = .ok (.aload_n 0, 1) ∧ decode (zcc m_X8_runsOver) 76 = .ok (.iload_n 1, 1) ∧ decode (zcc m_X8_runsOver) 77 = .ok (.iload_n 2, 1) ∧ decode (zcc m_X8_runsOver) 78 = .ok (.bipush 8, 2) ∧ decode (zcc m_X8_runsOver) 80 = .ok (.iload 4, 2) ∧ decode (zcc m_X8_runsOver) 82 = .ok (.imul, 1) ∧ decode (zcc m_X8_runsOver) 83 = .ok (.iadd, 1) := by decide +kernel
set_option maxRecDepth 20000 in
theorem eg_X8_runsOver_56 : decode (zcc m_X8_runsOver) 84 = .ok (.iload_n 3, 1) ∧ decode (zcc m_X8_runsOver) 85 = .ok (.invokevirtual 194, 3) ∧ decode (zcc m_X8_runsOver) 88 = .ok (.istore_n 3, 1) ∧ decode (zcc m_X8_runsOver) 89 = .ok (.iinc 4 1, 3) ∧ decode (zcc m_X8_runsOver) 92 = .ok (.goto (-47), 3) ∧ decode (zcc m_X8_runsOver) 95 = .ok (.aload_n 0, 1) ∧ decode (zcc m_X8_runsOver) 96 = .ok (.iload_n 1, 1) ∧ decode (zcc m_X8_runsOver) 97 = .ok (.iconst 0, 1) := by decide +kernel
set_option maxRecDepth 20000 in
theorem eg_X8_runsOver_64 : decode (zcc m_X8_runsOver) 98 = .ok (.iload_n 3, 1) ∧ decode (zcc m_X8_runsOver) 99 = .ok (.invokevirtual 198, 3) ∧ decode (zcc m_X8_runsOver) 102 = .ok (.iinc 2 1, 3) ∧ decode (zcc m_X8_runsOver) 105 = .ok (.goto (-103), 3) ∧ decode (zcc m_X8_runsOver) 108 = .ok (.return_, 1) := by decide +kernel
theorem d_X8_runsOver_0 : zD m_X8_runsOver 0 (.iconst 0) 1 1 := ⟨eg_X8_runsOver_0.1, rfl⟩
theorem d_X8_runsOver_1 : zD m_X8_runsOver 1 (.istore_n 2) 1 2 := ⟨eg_X8_runsOver_0.2.1, rfl⟩
theorem d_X8_runsOver_2 : zD m_X8_runsOver 2 (.iload_n 2) 1 3 := ⟨eg_X8_runsOver_0.2.2.1, rfl⟩
theorem d_X8_runsOver_3 : zD m_X8_runsOver 3 (.bipush 48) 2 5 := ⟨eg_X8_runsOver_0.2.2.2.1, rfl⟩
theorem d_X8_runsOver_5 : zDj m_X8_runsOver 5 (.if_icmp .ge) 8 108 := ⟨103, eg_X8_runsOver_0.2.2.2.2.1, rfl, by decide⟩
theorem d_X8_runsOver_8 : zD m_X8_runsOver 8 (.aload_n 0) 1 9 := ⟨eg_X8_runsOver_0.2.2.2.2.2.1, rfl⟩
theorem d_X8_runsOver_9 : zD m_X8_runsOver 9 (.getfield 7) 3 12 := ⟨eg_X8_runsOver_0.2.2.2.2.2.2.1, rfl⟩
theorem d_X8_runsOver_12 : zD m_X8_runsOver 12 (.iload_n 1) 1 13 := ⟨eg_X8_runsOver_0.2.2.2.2.2.2.2, rfl⟩
theorem d_X8_runsOver_13 : zD m_X8_runsOver 13 (.iload_n 2) 1 14 := ⟨eg_X8_runsOver_8.1, rfl⟩
theorem d_X8_runsOver_14 : zD m_X8_runsOver 14 (.iadd) 1 15 := ⟨eg_X8_runsOver_8.2.1, rfl⟩
theorem d_X8_runsOver_15 : zD m_X8_runsOver 15 (.iaload) 1 16 := ⟨eg_X8_runsOver_8.2.2.1, rfl⟩
theorem d_X8_runsOver_16 : zD m_X8_runsOver 16 (.aload_n 0) 1 17 := ⟨eg_X8_runsOver_8.2.2.2.1, rfl⟩
theorem d_X8_runsOver_17 : zD m_X8_runsOver 17 (.getfield 21) 3 20 := ⟨eg_X8_runsOver_8.2.2.2.2.1, rfl⟩
theorem d_X8_runsOver_20 : zD m_X8_runsOver 20 (.iconst 0) 1 21 := ⟨eg_X8_runsOver_8.2.2.2.2.2.1, rfl⟩
theorem d_X8_runsOver_21 : zD m_X8_runsOver 21 (.iaload) 1 22 := ⟨eg_X8_runsOver_8.2.2.2.2.2.2.1, rfl⟩
theorem d_X8_runsOver_22 : zD m_X8_runsOver 22 (.isub) 1 23 := ⟨eg_X8_runsOver_8.2.2.2.2.2.2.2, rfl⟩
theorem d_X8_runsOver_23 : zD m_X8_runsOver 23 (.istore_n 3) 1 24 := ⟨eg_X8_runsOver_16.1, rfl⟩
theorem d_X8_runsOver_24 : zD m_X8_runsOver 24 (.iload_n 3) 1 25 := ⟨eg_X8_runsOver_16.2.1, rfl⟩
theorem d_X8_runsOver_25 : zDj m_X8_runsOver 25 (.ifCond .le) 28 102 := ⟨77, eg_X8_runsOver_16.2.2.1, rfl, by decide⟩
theorem d_X8_runsOver_28 : zD m_X8_runsOver 28 (.aload_n 0) 1 29 := ⟨eg_X8_runsOver_16.2.2.2.1, rfl⟩
theorem d_X8_runsOver_29 : zD m_X8_runsOver 29 (.getfield 7) 3 32 := ⟨eg_X8_runsOver_16.2.2.2.2.1, rfl⟩
theorem d_X8_runsOver_32 : zD m_X8_runsOver 32 (.iload_n 1) 1 33 := ⟨eg_X8_runsOver_16.2.2.2.2.2.1, rfl⟩
theorem d_X8_runsOver_33 : zD m_X8_runsOver 33 (.iload_n 2) 1 34 := ⟨eg_X8_runsOver_16.2.2.2.2.2.2.1, rfl⟩
theorem d_X8_runsOver_34 : zD m_X8_runsOver 34 (.iadd) 1 35 := ⟨eg_X8_runsOver_16.2.2.2.2.2.2.2, rfl⟩
theorem d_X8_runsOver_35 : zD m_X8_runsOver 35 (.aload_n 0) 1 36 := ⟨eg_X8_runsOver_24.1, rfl⟩
theorem d_X8_runsOver_36 : zD m_X8_runsOver 36 (.getfield 21) 3 39 := ⟨eg_X8_runsOver_24.2.1, rfl⟩
theorem d_X8_runsOver_39 : zD m_X8_runsOver 39 (.iconst 0) 1 40 := ⟨eg_X8_runsOver_24.2.2.1, rfl⟩
theorem d_X8_runsOver_40 : zD m_X8_runsOver 40 (.iaload) 1 41 := ⟨eg_X8_runsOver_24.2.2.2.1, rfl⟩
theorem d_X8_runsOver_41 : zD m_X8_runsOver 41 (.iastore) 1 42 := ⟨eg_X8_runsOver_24.2.2.2.2.1, rfl⟩
theorem d_X8_runsOver_42 : zD m_X8_runsOver 42 (.iconst 1) 1 43 := ⟨eg_X8_runsOver_24.2.2.2.2.2.1, rfl⟩
theorem d_X8_runsOver_43 : zD m_X8_runsOver 43 (.istore 4) 2 45 := ⟨eg_X8_runsOver_24.2.2.2.2.2.2.1, rfl⟩
theorem d_X8_runsOver_45 : zD m_X8_runsOver 45 (.iload 4) 2 47 := ⟨eg_X8_runsOver_24.2.2.2.2.2.2.2, rfl⟩
theorem d_X8_runsOver_47 : zD m_X8_runsOver 47 (.bipush 6) 2 49 := ⟨eg_X8_runsOver_32.1, rfl⟩
theorem d_X8_runsOver_49 : zDj m_X8_runsOver 49 (.if_icmp .ge) 52 95 := ⟨46, eg_X8_runsOver_32.2.1, rfl, by decide⟩
theorem d_X8_runsOver_52 : zD m_X8_runsOver 52 (.aload_n 0) 1 53 := ⟨eg_X8_runsOver_32.2.2.1, rfl⟩
theorem d_X8_runsOver_53 : zD m_X8_runsOver 53 (.getfield 21) 3 56 := ⟨eg_X8_runsOver_32.2.2.2.1, rfl⟩
theorem d_X8_runsOver_56 : zD m_X8_runsOver 56 (.iconst 2) 1 57 := ⟨eg_X8_runsOver_32.2.2.2.2.1, rfl⟩
theorem d_X8_runsOver_57 : zD m_X8_runsOver 57 (.iaload) 1 58 := ⟨eg_X8_runsOver_32.2.2.2.2.2.1, rfl⟩
theorem d_X8_runsOver_58 : zDj m_X8_runsOver 58 (.ifCond .ne) 61 95 := ⟨37, eg_X8_runsOver_32.2.2.2.2.2.2.1, rfl, by decide⟩
theorem d_X8_runsOver_61 : zD m_X8_runsOver 61 (.aload_n 0) 1 62 := ⟨eg_X8_runsOver_32.2.2.2.2.2.2.2, rfl⟩
theorem d_X8_runsOver_62 : zD m_X8_runsOver 62 (.iload_n 1) 1 63 := ⟨eg_X8_runsOver_40.1, rfl⟩
theorem d_X8_runsOver_63 : zD m_X8_runsOver 63 (.iload_n 2) 1 64 := ⟨eg_X8_runsOver_40.2.1, rfl⟩
theorem d_X8_runsOver_64 : zD m_X8_runsOver 64 (.bipush 8) 2 66 := ⟨eg_X8_runsOver_40.2.2.1, rfl⟩
theorem d_X8_runsOver_66 : zD m_X8_runsOver 66 (.iload 4) 2 68 := ⟨eg_X8_runsOver_40.2.2.2.1, rfl⟩
theorem d_X8_runsOver_68 : zD m_X8_runsOver 68 (.imul) 1 69 := ⟨eg_X8_runsOver_40.2.2.2.2.1, rfl⟩
theorem d_X8_runsOver_69 : zD m_X8_runsOver 69 (.isub) 1 70 := ⟨eg_X8_runsOver_40.2.2.2.2.2.1, rfl⟩
theorem d_X8_runsOver_70 : zD m_X8_runsOver 70 (.iload_n 3) 1 71 := ⟨eg_X8_runsOver_40.2.2.2.2.2.2.1, rfl⟩
theorem d_X8_runsOver_71 : zD m_X8_runsOver 71 (.invokevirtual 194) 3 74 := ⟨eg_X8_runsOver_40.2.2.2.2.2.2.2, rfl⟩
theorem d_X8_runsOver_74 : zD m_X8_runsOver 74 (.istore_n 3) 1 75 := ⟨eg_X8_runsOver_48.1, rfl⟩
theorem d_X8_runsOver_75 : zD m_X8_runsOver 75 (.aload_n 0) 1 76 := ⟨eg_X8_runsOver_48.2.1, rfl⟩
theorem d_X8_runsOver_76 : zD m_X8_runsOver 76 (.iload_n 1) 1 77 := ⟨eg_X8_runsOver_48.2.2.1, rfl⟩
theorem d_X8_runsOver_77 : zD m_X8_runsOver 77 (.iload_n 2) 1 78 := ⟨eg_X8_runsOver_48.2.2.2.1, rfl⟩
theorem d_X8_runsOver_78 : zD m_X8_runsOver 78 (.bipush 8) 2 80 := ⟨eg_X8_runsOver_48.2.2.2.2.1, rfl⟩
theorem d_X8_runsOver_80 : zD m_X8_runsOver 80 (.iload 4) 2 82 := ⟨eg_X8_runsOver_48.2.2.2.2.2.1, rfl⟩
theorem d_X8_runsOver_82 : zD m_X8_runsOver 82 (.imul) 1 83 := ⟨eg_X8_runsOver_48.2.2.2.2.2.2.1, rfl⟩
theorem d_X8_runsOver_83 : zD m_X8_runsOver 83 (.iadd) 1 84 := ⟨eg_X8_runsOver_48.2.2.2.2.2.2.2, rfl⟩
theorem d_X8_runsOver_84 : zD m_X8_runsOver 84 (.iload_n 3) 1 85 := ⟨eg_X8_runsOver_56.1, rfl⟩
theorem d_X8_runsOver_85 : zD m_X8_runsOver 85 (.invokevirtual 194) 3 88 := ⟨eg_X8_runsOver_56.2.1, rfl⟩
theorem d_X8_runsOver_88 : zD m_X8_runsOver 88 (.istore_n 3) 1 89 := ⟨eg_X8_runsOver_56.2.2.1, rfl⟩
theorem d_X8_runsOver_89 : zD m_X8_runsOver 89 (.iinc 4 1) 3 92 := ⟨eg_X8_runsOver_56.2.2.2.1, rfl⟩
theorem d_X8_runsOver_92 : zDj m_X8_runsOver 92 (.goto) 95 45 := ⟨-47, eg_X8_runsOver_56.2.2.2.2.1, rfl, by decide⟩
theorem d_X8_runsOver_95 : zD m_X8_runsOver 95 (.aload_n 0) 1 96 := ⟨eg_X8_runsOver_56.2.2.2.2.2.1, rfl⟩
theorem d_X8_runsOver_96 : zD m_X8_runsOver 96 (.iload_n 1) 1 97 := ⟨eg_X8_runsOver_56.2.2.2.2.2.2.1, rfl⟩
theorem d_X8_runsOver_97 : zD m_X8_runsOver 97 (.iconst 0) 1 98 := ⟨eg_X8_runsOver_56.2.2.2.2.2.2.2, rfl⟩
theorem d_X8_runsOver_98 : zD m_X8_runsOver 98 (.iload_n 3) 1 99 := ⟨eg_X8_runsOver_64.1, rfl⟩
theorem d_X8_runsOver_99 : zD m_X8_runsOver 99 (.invokevirtual 198) 3 102 := ⟨eg_X8_runsOver_64.2.1, rfl⟩
theorem d_X8_runsOver_102 : zD m_X8_runsOver 102 (.iinc 2 1) 3 105 := ⟨eg_X8_runsOver_64.2.2.1, rfl⟩
theorem d_X8_runsOver_105 : zDj m_X8_runsOver 105 (.goto) 108 2 := ⟨-103, eg_X8_runsOver_64.2.2.2.1, rfl, by decide⟩
theorem d_X8_runsOver_108 : decode (zcc m_X8_runsOver) 108 = .ok (.return_, 1) := eg_X8_runsOver_64.2.2.2.2
set_option maxRecDepth 20000 in
theorem eg_X8_rateOf_0 : decode (zcc m_X8_rateOf) 0 = .ok (.aload_n 0, 1) ∧ decode (zcc m_X8_rateOf) 1 = .ok (.getfield 7, 3) ∧ decode (zcc m_X8_rateOf) 4 = .ok (.bipush 104, 2) ∧ decode (zcc m_X8_rateOf) 6 = .ok (.iload_n 1, 1) ∧ decode (zcc m_X8_rateOf) 7 = .ok (.iadd, 1) ∧ decode (zcc m_X8_rateOf) 8 = .ok (.iaload, 1) ∧ decode (zcc m_X8_rateOf) 9 = .ok (.aload_n 0, 1) ∧ decode (zcc m_X8_rateOf) 10 = .ok (.getfield 24, 3) := by decide +kernel
set_option maxRecDepth 20000 in
theorem eg_X8_rateOf_8 : decode (zcc m_X8_rateOf) 13 = .ok (.iload_n 1, 1) ∧ decode (zcc m_X8_rateOf) 14 = .ok (.iaload, 1) ∧ decode (zcc m_X8_rateOf) 15 = .ok (.iadd, 1) ∧ decode (zcc m_X8_rateOf) 16 = .ok (.aload_n 0, 1) ∧ decode (zcc m_X8_rateOf) 17 = .ok (.getfield 21, 3) ∧ decode (zcc m_X8_rateOf) 20 = .ok (.iconst 1, 1) ∧ decode (zcc m_X8_rateOf) 21 = .ok (.iaload, 1) ∧ decode (zcc m_X8_rateOf) 22 = .ok (.iadd, 1) := by decide +kernel
set_option maxRecDepth 20000 in
theorem eg_X8_rateOf_16 : decode (zcc m_X8_rateOf) 23 = .ok (.ireturn, 1) := by decide +kernel
theorem d_X8_rateOf_0 : zD m_X8_rateOf 0 (.aload_n 0) 1 1 := ⟨eg_X8_rateOf_0.1, rfl⟩
theorem d_X8_rateOf_1 : zD m_X8_rateOf 1 (.getfield 7) 3 4 := ⟨eg_X8_rateOf_0.2.1, rfl⟩
theorem d_X8_rateOf_4 : zD m_X8_rateOf 4 (.bipush 104) 2 6 := ⟨eg_X8_rateOf_0.2.2.1, rfl⟩
theorem d_X8_rateOf_6 : zD m_X8_rateOf 6 (.iload_n 1) 1 7 := ⟨eg_X8_rateOf_0.2.2.2.1, rfl⟩
theorem d_X8_rateOf_7 : zD m_X8_rateOf 7 (.iadd) 1 8 := ⟨eg_X8_rateOf_0.2.2.2.2.1, rfl⟩
theorem d_X8_rateOf_8 : zD m_X8_rateOf 8 (.iaload) 1 9 := ⟨eg_X8_rateOf_0.2.2.2.2.2.1, rfl⟩
theorem d_X8_rateOf_9 : zD m_X8_rateOf 9 (.aload_n 0) 1 10 := ⟨eg_X8_rateOf_0.2.2.2.2.2.2.1, rfl⟩
theorem d_X8_rateOf_10 : zD m_X8_rateOf 10 (.getfield 24) 3 13 := ⟨eg_X8_rateOf_0.2.2.2.2.2.2.2, rfl⟩
theorem d_X8_rateOf_13 : zD m_X8_rateOf 13 (.iload_n 1) 1 14 := ⟨eg_X8_rateOf_8.1, rfl⟩
theorem d_X8_rateOf_14 : zD m_X8_rateOf 14 (.iaload) 1 15 := ⟨eg_X8_rateOf_8.2.1, rfl⟩
theorem d_X8_rateOf_15 : zD m_X8_rateOf 15 (.iadd) 1 16 := ⟨eg_X8_rateOf_8.2.2.1, rfl⟩
theorem d_X8_rateOf_16 : zD m_X8_rateOf 16 (.aload_n 0) 1 17 := ⟨eg_X8_rateOf_8.2.2.2.1, rfl⟩
theorem d_X8_rateOf_17 : zD m_X8_rateOf 17 (.getfield 21) 3 20 := ⟨eg_X8_rateOf_8.2.2.2.2.1, rfl⟩
theorem d_X8_rateOf_20 : zD m_X8_rateOf 20 (.iconst 1) 1 21 := ⟨eg_X8_rateOf_8.2.2.2.2.2.1, rfl⟩
theorem d_X8_rateOf_21 : zD m_X8_rateOf 21 (.iaload) 1 22 := ⟨eg_X8_rateOf_8.2.2.2.2.2.2.1, rfl⟩
theorem d_X8_rateOf_22 : zD m_X8_rateOf 22 (.iadd) 1 23 := ⟨eg_X8_rateOf_8.2.2.2.2.2.2.2, rfl⟩
theorem d_X8_rateOf_23 : decode (zcc m_X8_rateOf) 23 = .ok (.ireturn, 1) := eg_X8_rateOf_16
set_option maxRecDepth 20000 in
theorem eg_X8_comes_0 : decode (zcc m_X8_comes) 0 = .ok (.aload_n 0, 1) ∧ decode (zcc m_X8_comes) 1 = .ok (.getfield 7, 3) ∧ decode (zcc m_X8_comes) 4 = .ok (.iload_n 1, 1) ∧ decode (zcc m_X8_comes) 5 = .ok (.iload_n 2, 1) ∧ decode (zcc m_X8_comes) 6 = .ok (.iadd, 1) ∧ decode (zcc m_X8_comes) 7 = .ok (.dup2, 1) ∧ decode (zcc m_X8_comes) 8 = .ok (.iaload, 1) ∧ decode (zcc m_X8_comes) 9 = .ok (.iload_n 3, 1) := by decide +kernel
set_option maxRecDepth 20000 in
theorem eg_X8_comes_8 : decode (zcc m_X8_comes) 10 = .ok (.iadd, 1) ∧ decode (zcc m_X8_comes) 11 = .ok (.iastore, 1) ∧ decode (zcc m_X8_comes) 12 = .ok (.aload_n 0, 1) ∧ decode (zcc m_X8_comes) 13 = .ok (.iload_n 1, 1) ∧ decode (zcc m_X8_comes) 14 = .ok (.iconst 2, 1) ∧ decode (zcc m_X8_comes) 15 = .ok (.iload_n 3, 1) ∧ decode (zcc m_X8_comes) 16 = .ok (.invokevirtual 198, 3) ∧ decode (zcc m_X8_comes) 19 = .ok (.return_, 1) := by decide +kernel
theorem d_X8_comes_0 : zD m_X8_comes 0 (.aload_n 0) 1 1 := ⟨eg_X8_comes_0.1, rfl⟩
theorem d_X8_comes_1 : zD m_X8_comes 1 (.getfield 7) 3 4 := ⟨eg_X8_comes_0.2.1, rfl⟩
theorem d_X8_comes_4 : zD m_X8_comes 4 (.iload_n 1) 1 5 := ⟨eg_X8_comes_0.2.2.1, rfl⟩
theorem d_X8_comes_5 : zD m_X8_comes 5 (.iload_n 2) 1 6 := ⟨eg_X8_comes_0.2.2.2.1, rfl⟩
theorem d_X8_comes_6 : zD m_X8_comes 6 (.iadd) 1 7 := ⟨eg_X8_comes_0.2.2.2.2.1, rfl⟩
theorem d_X8_comes_7 : zD m_X8_comes 7 (.dup2) 1 8 := ⟨eg_X8_comes_0.2.2.2.2.2.1, rfl⟩
theorem d_X8_comes_8 : zD m_X8_comes 8 (.iaload) 1 9 := ⟨eg_X8_comes_0.2.2.2.2.2.2.1, rfl⟩
theorem d_X8_comes_9 : zD m_X8_comes 9 (.iload_n 3) 1 10 := ⟨eg_X8_comes_0.2.2.2.2.2.2.2, rfl⟩
theorem d_X8_comes_10 : zD m_X8_comes 10 (.iadd) 1 11 := ⟨eg_X8_comes_8.1, rfl⟩
theorem d_X8_comes_11 : zD m_X8_comes 11 (.iastore) 1 12 := ⟨eg_X8_comes_8.2.1, rfl⟩
theorem d_X8_comes_12 : zD m_X8_comes 12 (.aload_n 0) 1 13 := ⟨eg_X8_comes_8.2.2.1, rfl⟩
theorem d_X8_comes_13 : zD m_X8_comes 13 (.iload_n 1) 1 14 := ⟨eg_X8_comes_8.2.2.2.1, rfl⟩
theorem d_X8_comes_14 : zD m_X8_comes 14 (.iconst 2) 1 15 := ⟨eg_X8_comes_8.2.2.2.2.1, rfl⟩
theorem d_X8_comes_15 : zD m_X8_comes 15 (.iload_n 3) 1 16 := ⟨eg_X8_comes_8.2.2.2.2.2.1, rfl⟩
theorem d_X8_comes_16 : zD m_X8_comes 16 (.invokevirtual 198) 3 19 := ⟨eg_X8_comes_8.2.2.2.2.2.2.1, rfl⟩
theorem d_X8_comes_19 : decode (zcc m_X8_comes) 19 = .ok (.return_, 1) := eg_X8_comes_8.2.2.2.2.2.2.2
set_option maxRecDepth 20000 in
theorem eg_X8_expose_0 : decode (zcc m_X8_expose) 0 = .ok (.iload_n 1, 1) ∧ decode (zcc m_X8_expose) 1 = .ok (.i2l, 1) ∧ decode (zcc m_X8_expose) 2 = .ok (.lconst 1, 1) ∧ decode (zcc m_X8_expose) 3 = .ok (.ldc2_w 202, 3) ∧ decode (zcc m_X8_expose) 6 = .ok (.invokestatic 92, 3) ∧ decode (zcc m_X8_expose) 9 = .ok (.ifCond .ne (5), 3) ∧ decode (zcc m_X8_expose) 12 = .ok (.iconst (-1), 1) ∧ decode (zcc m_X8_expose) 13 = .ok (.ireturn, 1) := by decide +kernel
set_option maxRecDepth 20000 in
theorem eg_X8_expose_8 : decode (zcc m_X8_expose) 14 = .ok (.iconst 0, 1) ∧ decode (zcc m_X8_expose) 15 = .ok (.istore_n 2, 1) ∧ decode (zcc m_X8_expose) 16 = .ok (.iload_n 2, 1) ∧ decode (zcc m_X8_expose) 17 = .ok (.bipush 48, 2) ∧ decode (zcc m_X8_expose) 19 = .ok (.if_icmp .ge (22), 3) ∧ decode (zcc m_X8_expose) 22 = .ok (.aload_n 0, 1) ∧ decode (zcc m_X8_expose) 23 = .ok (.iconst 0, 1) ∧ decode (zcc m_X8_expose) 24 = .ok (.iload_n 2, 1) := by decide +kernel
set_option maxRecDepth 20000 in
theorem eg_X8_expose_16 : decode (zcc m_X8_expose) 25 = .ok (.aload_n 0, 1) ∧ decode (zcc m_X8_expose) 26 = .ok (.iload_n 2, 1) ∧ decode (zcc m_X8_expose) 27 = .ok (.invokevirtual 204, 3) ∧ decode (zcc m_X8_expose) 30 = .ok (.iload_n 1, 1) ∧ decode (zcc m_X8_expose) 31 = .ok (.imul, 1) ∧ decode (zcc m_X8_expose) 32 = .ok (.invokevirtual 207, 3) ∧ decode (zcc m_X8_expose) 35 = .ok (.iinc 2 1, 3) ∧ decode (zcc m_X8_expose) 38 = .ok (.goto (-22), 3) := by decide +kernel
set_option maxRecDepth 20000 in
theorem eg_X8_expose_24 : decode (zcc m_X8_expose) 41 = .ok (.aload_n 0, 1) ∧ decode (zcc m_X8_expose) 42 = .ok (.iconst 0, 1) ∧ decode (zcc m_X8_expose) 43 = .ok (.invokevirtual 210, 3) ∧ decode (zcc m_X8_expose) 46 = .ok (.aload_n 0, 1) ∧ decode (zcc m_X8_expose) 47 = .ok (.iconst 0, 1) ∧ decode (zcc m_X8_expose) 48 = .ok (.bipush 48, 2) ∧ decode (zcc m_X8_expose) 50 = .ok (.invokevirtual 213, 3) ∧ decode (zcc m_X8_expose) 53 = .ok (.ireturn, 1) := by decide +kernel
theorem d_X8_expose_0 : zD m_X8_expose 0 (.iload_n 1) 1 1 := ⟨eg_X8_expose_0.1, rfl⟩
theorem d_X8_expose_1 : zD m_X8_expose 1 (.i2l) 1 2 := ⟨eg_X8_expose_0.2.1, rfl⟩
theorem d_X8_expose_2 : zD m_X8_expose 2 (.lconst 1) 1 3 := ⟨eg_X8_expose_0.2.2.1, rfl⟩
theorem d_X8_expose_3 : zD m_X8_expose 3 (.ldc2_w 202) 3 6 := ⟨eg_X8_expose_0.2.2.2.1, rfl⟩
theorem d_X8_expose_6 : zD m_X8_expose 6 (.invokestatic 92) 3 9 := ⟨eg_X8_expose_0.2.2.2.2.1, rfl⟩
theorem d_X8_expose_9 : zDj m_X8_expose 9 (.ifCond .ne) 12 14 := ⟨5, eg_X8_expose_0.2.2.2.2.2.1, rfl, by decide⟩
theorem d_X8_expose_12 : zD m_X8_expose 12 (.iconst (-1)) 1 13 := ⟨eg_X8_expose_0.2.2.2.2.2.2.1, rfl⟩
theorem d_X8_expose_13 : decode (zcc m_X8_expose) 13 = .ok (.ireturn, 1) := eg_X8_expose_0.2.2.2.2.2.2.2
theorem d_X8_expose_14 : zD m_X8_expose 14 (.iconst 0) 1 15 := ⟨eg_X8_expose_8.1, rfl⟩
theorem d_X8_expose_15 : zD m_X8_expose 15 (.istore_n 2) 1 16 := ⟨eg_X8_expose_8.2.1, rfl⟩
theorem d_X8_expose_16 : zD m_X8_expose 16 (.iload_n 2) 1 17 := ⟨eg_X8_expose_8.2.2.1, rfl⟩
theorem d_X8_expose_17 : zD m_X8_expose 17 (.bipush 48) 2 19 := ⟨eg_X8_expose_8.2.2.2.1, rfl⟩
theorem d_X8_expose_19 : zDj m_X8_expose 19 (.if_icmp .ge) 22 41 := ⟨22, eg_X8_expose_8.2.2.2.2.1, rfl, by decide⟩
theorem d_X8_expose_22 : zD m_X8_expose 22 (.aload_n 0) 1 23 := ⟨eg_X8_expose_8.2.2.2.2.2.1, rfl⟩
theorem d_X8_expose_23 : zD m_X8_expose 23 (.iconst 0) 1 24 := ⟨eg_X8_expose_8.2.2.2.2.2.2.1, rfl⟩
theorem d_X8_expose_24 : zD m_X8_expose 24 (.iload_n 2) 1 25 := ⟨eg_X8_expose_8.2.2.2.2.2.2.2, rfl⟩
theorem d_X8_expose_25 : zD m_X8_expose 25 (.aload_n 0) 1 26 := ⟨eg_X8_expose_16.1, rfl⟩
theorem d_X8_expose_26 : zD m_X8_expose 26 (.iload_n 2) 1 27 := ⟨eg_X8_expose_16.2.1, rfl⟩
theorem d_X8_expose_27 : zD m_X8_expose 27 (.invokevirtual 204) 3 30 := ⟨eg_X8_expose_16.2.2.1, rfl⟩
theorem d_X8_expose_30 : zD m_X8_expose 30 (.iload_n 1) 1 31 := ⟨eg_X8_expose_16.2.2.2.1, rfl⟩
theorem d_X8_expose_31 : zD m_X8_expose 31 (.imul) 1 32 := ⟨eg_X8_expose_16.2.2.2.2.1, rfl⟩
theorem d_X8_expose_32 : zD m_X8_expose 32 (.invokevirtual 207) 3 35 := ⟨eg_X8_expose_16.2.2.2.2.2.1, rfl⟩
theorem d_X8_expose_35 : zD m_X8_expose 35 (.iinc 2 1) 3 38 := ⟨eg_X8_expose_16.2.2.2.2.2.2.1, rfl⟩
theorem d_X8_expose_38 : zDj m_X8_expose 38 (.goto) 41 16 := ⟨-22, eg_X8_expose_16.2.2.2.2.2.2.2, rfl, by decide⟩
theorem d_X8_expose_41 : zD m_X8_expose 41 (.aload_n 0) 1 42 := ⟨eg_X8_expose_24.1, rfl⟩
theorem d_X8_expose_42 : zD m_X8_expose 42 (.iconst 0) 1 43 := ⟨eg_X8_expose_24.2.1, rfl⟩
theorem d_X8_expose_43 : zD m_X8_expose 43 (.invokevirtual 210) 3 46 := ⟨eg_X8_expose_24.2.2.1, rfl⟩
theorem d_X8_expose_46 : zD m_X8_expose 46 (.aload_n 0) 1 47 := ⟨eg_X8_expose_24.2.2.2.1, rfl⟩
theorem d_X8_expose_47 : zD m_X8_expose 47 (.iconst 0) 1 48 := ⟨eg_X8_expose_24.2.2.2.2.1, rfl⟩
theorem d_X8_expose_48 : zD m_X8_expose 48 (.bipush 48) 2 50 := ⟨eg_X8_expose_24.2.2.2.2.2.1, rfl⟩
theorem d_X8_expose_50 : zD m_X8_expose 50 (.invokevirtual 213) 3 53 := ⟨eg_X8_expose_24.2.2.2.2.2.2.1, rfl⟩
theorem d_X8_expose_53 : decode (zcc m_X8_expose) 53 = .ok (.ireturn, 1) := eg_X8_expose_24.2.2.2.2.2.2.2
set_option maxRecDepth 20000 in
theorem eg_X8_toLine_0 : decode (zcc m_X8_toLine) 0 = .ok (.aload_n 0, 1) ∧ decode (zcc m_X8_toLine) 1 = .ok (.getfield 7, 3) ∧ decode (zcc m_X8_toLine) 4 = .ok (.iload_n 1, 1) ∧ decode (zcc m_X8_toLine) 5 = .ok (.bipush 48, 2) ∧ decode (zcc m_X8_toLine) 7 = .ok (.iadd, 1) ∧ decode (zcc m_X8_toLine) 8 = .ok (.iload_n 2, 1) ∧ decode (zcc m_X8_toLine) 9 = .ok (.iadd, 1) ∧ decode (zcc m_X8_toLine) 10 = .ok (.iaload, 1) := by decide +kernel
set_option maxRecDepth 20000 in
theorem eg_X8_toLine_8 : decode (zcc m_X8_toLine) 11 = .ok (.iload_n 3, 1) ∧ decode (zcc m_X8_toLine) 12 = .ok (.iadd, 1) ∧ decode (zcc m_X8_toLine) 13 = .ok (.istore 4, 2) ∧ decode (zcc m_X8_toLine) 15 = .ok (.iload 4, 2) ∧ decode (zcc m_X8_toLine) 17 = .ok (.iconst 2, 1) ∧ decode (zcc m_X8_toLine) 18 = .ok (.aload_n 0, 1) ∧ decode (zcc m_X8_toLine) 19 = .ok (.getfield 21, 3) ∧ decode (zcc m_X8_toLine) 22 = .ok (.iconst 0, 1) := by decide +kernel
set_option maxRecDepth 20000 in
theorem eg_X8_toLine_16 : decode (zcc m_X8_toLine) 23 = .ok (.iaload, 1) ∧ decode (zcc m_X8_toLine) 24 = .ok (.imul, 1) ∧ decode (zcc m_X8_toLine) 25 = .ok (.isub, 1) ∧ decode (zcc m_X8_toLine) 26 = .ok (.istore 5, 2) ∧ decode (zcc m_X8_toLine) 28 = .ok (.aload_n 0, 1) ∧ decode (zcc m_X8_toLine) 29 = .ok (.getfield 7, 3) ∧ decode (zcc m_X8_toLine) 32 = .ok (.iload_n 1, 1) ∧ decode (zcc m_X8_toLine) 33 = .ok (.bipush 48, 2) := by decide +kernel
set_option maxRecDepth 20000 in
theorem eg_X8_toLine_24 : decode (zcc m_X8_toLine) 35 = .ok (.iadd, 1) ∧ decode (zcc m_X8_toLine) 36 = .ok (.iload_n 2, 1) ∧ decode (zcc m_X8_toLine) 37 = .ok (.iadd, 1) ∧ decode (zcc m_X8_toLine) 38 = .ok (.iload 5, 2) ∧ decode (zcc m_X8_toLine) 40 = .ok (.ifCond .le (14), 3) ∧ decode (zcc m_X8_toLine) 43 = .ok (.iconst 2, 1) ∧ decode (zcc m_X8_toLine) 44 = .ok (.aload_n 0, 1) ∧ decode (zcc m_X8_toLine) 45 = .ok (.getfield 21, 3) := by decide +kernel
set_option maxRecDepth 20000 in
theorem eg_X8_toLine_32 : decode (zcc m_X8_toLine) 48 = .ok (.iconst 0, 1) ∧ decode (zcc m_X8_toLine) 49 = .ok (.iaload, 1) ∧ decode (zcc m_X8_toLine) 50 = .ok (.imul, 1) ∧ decode (zcc m_X8_toLine) 51 = .ok (.goto (5), 3) ∧ decode (zcc m_X8_toLine) 54 = .ok (.iload 4, 2) ∧ decode (zcc m_X8_toLine) 56 = .ok (.iastore, 1) ∧ decode (zcc m_X8_toLine) 57 = .ok (.aload_n 0, 1) ∧ decode (zcc m_X8_toLine) 58 = .ok (.iload_n 1, 1) := by decide +kernel
set_option maxRecDepth 20000 in
theorem eg_X8_toLine_40 : decode (zcc m_X8_toLine) 59 = .ok (.iconst 0, 1) ∧ decode (zcc m_X8_toLine) 60 = .ok (.iload 5, 2) ∧ decode (zcc m_X8_toLine) 62 = .ok (.ifCond .le (8), 3) ∧ decode (zcc m_X8_toLine) 65 = .ok (.iload 5, 2) ∧ decode (zcc m_X8_toLine) 67 = .ok (.goto (4), 3) ∧ decode (zcc m_X8_toLine) 70 = .ok (.iconst 0, 1) ∧ decode (zcc m_X8_toLine) 71 = .ok (.invokevirtual 198, 3) ∧ decode (zcc m_X8_toLine) 74 = .ok (.return_, 1) := by decide +kernel
theorem d_X8_toLine_0 : zD m_X8_toLine 0 (.aload_n 0) 1 1 := ⟨eg_X8_toLine_0.1, rfl⟩
theorem d_X8_toLine_1 : zD m_X8_toLine 1 (.getfield 7) 3 4 := ⟨eg_X8_toLine_0.2.1, rfl⟩
theorem d_X8_toLine_4 : zD m_X8_toLine 4 (.iload_n 1) 1 5 := ⟨eg_X8_toLine_0.2.2.1, rfl⟩
theorem d_X8_toLine_5 : zD m_X8_toLine 5 (.bipush 48) 2 7 := ⟨eg_X8_toLine_0.2.2.2.1, rfl⟩
theorem d_X8_toLine_7 : zD m_X8_toLine 7 (.iadd) 1 8 := ⟨eg_X8_toLine_0.2.2.2.2.1, rfl⟩
theorem d_X8_toLine_8 : zD m_X8_toLine 8 (.iload_n 2) 1 9 := ⟨eg_X8_toLine_0.2.2.2.2.2.1, rfl⟩
theorem d_X8_toLine_9 : zD m_X8_toLine 9 (.iadd) 1 10 := ⟨eg_X8_toLine_0.2.2.2.2.2.2.1, rfl⟩
theorem d_X8_toLine_10 : zD m_X8_toLine 10 (.iaload) 1 11 := ⟨eg_X8_toLine_0.2.2.2.2.2.2.2, rfl⟩
theorem d_X8_toLine_11 : zD m_X8_toLine 11 (.iload_n 3) 1 12 := ⟨eg_X8_toLine_8.1, rfl⟩
theorem d_X8_toLine_12 : zD m_X8_toLine 12 (.iadd) 1 13 := ⟨eg_X8_toLine_8.2.1, rfl⟩
theorem d_X8_toLine_13 : zD m_X8_toLine 13 (.istore 4) 2 15 := ⟨eg_X8_toLine_8.2.2.1, rfl⟩
theorem d_X8_toLine_15 : zD m_X8_toLine 15 (.iload 4) 2 17 := ⟨eg_X8_toLine_8.2.2.2.1, rfl⟩
theorem d_X8_toLine_17 : zD m_X8_toLine 17 (.iconst 2) 1 18 := ⟨eg_X8_toLine_8.2.2.2.2.1, rfl⟩
theorem d_X8_toLine_18 : zD m_X8_toLine 18 (.aload_n 0) 1 19 := ⟨eg_X8_toLine_8.2.2.2.2.2.1, rfl⟩
theorem d_X8_toLine_19 : zD m_X8_toLine 19 (.getfield 21) 3 22 := ⟨eg_X8_toLine_8.2.2.2.2.2.2.1, rfl⟩
theorem d_X8_toLine_22 : zD m_X8_toLine 22 (.iconst 0) 1 23 := ⟨eg_X8_toLine_8.2.2.2.2.2.2.2, rfl⟩
theorem d_X8_toLine_23 : zD m_X8_toLine 23 (.iaload) 1 24 := ⟨eg_X8_toLine_16.1, rfl⟩
theorem d_X8_toLine_24 : zD m_X8_toLine 24 (.imul) 1 25 := ⟨eg_X8_toLine_16.2.1, rfl⟩
theorem d_X8_toLine_25 : zD m_X8_toLine 25 (.isub) 1 26 := ⟨eg_X8_toLine_16.2.2.1, rfl⟩
theorem d_X8_toLine_26 : zD m_X8_toLine 26 (.istore 5) 2 28 := ⟨eg_X8_toLine_16.2.2.2.1, rfl⟩
theorem d_X8_toLine_28 : zD m_X8_toLine 28 (.aload_n 0) 1 29 := ⟨eg_X8_toLine_16.2.2.2.2.1, rfl⟩
theorem d_X8_toLine_29 : zD m_X8_toLine 29 (.getfield 7) 3 32 := ⟨eg_X8_toLine_16.2.2.2.2.2.1, rfl⟩
theorem d_X8_toLine_32 : zD m_X8_toLine 32 (.iload_n 1) 1 33 := ⟨eg_X8_toLine_16.2.2.2.2.2.2.1, rfl⟩
theorem d_X8_toLine_33 : zD m_X8_toLine 33 (.bipush 48) 2 35 := ⟨eg_X8_toLine_16.2.2.2.2.2.2.2, rfl⟩
theorem d_X8_toLine_35 : zD m_X8_toLine 35 (.iadd) 1 36 := ⟨eg_X8_toLine_24.1, rfl⟩
theorem d_X8_toLine_36 : zD m_X8_toLine 36 (.iload_n 2) 1 37 := ⟨eg_X8_toLine_24.2.1, rfl⟩
theorem d_X8_toLine_37 : zD m_X8_toLine 37 (.iadd) 1 38 := ⟨eg_X8_toLine_24.2.2.1, rfl⟩
theorem d_X8_toLine_38 : zD m_X8_toLine 38 (.iload 5) 2 40 := ⟨eg_X8_toLine_24.2.2.2.1, rfl⟩
theorem d_X8_toLine_40 : zDj m_X8_toLine 40 (.ifCond .le) 43 54 := ⟨14, eg_X8_toLine_24.2.2.2.2.1, rfl, by decide⟩
theorem d_X8_toLine_43 : zD m_X8_toLine 43 (.iconst 2) 1 44 := ⟨eg_X8_toLine_24.2.2.2.2.2.1, rfl⟩
theorem d_X8_toLine_44 : zD m_X8_toLine 44 (.aload_n 0) 1 45 := ⟨eg_X8_toLine_24.2.2.2.2.2.2.1, rfl⟩
theorem d_X8_toLine_45 : zD m_X8_toLine 45 (.getfield 21) 3 48 := ⟨eg_X8_toLine_24.2.2.2.2.2.2.2, rfl⟩
theorem d_X8_toLine_48 : zD m_X8_toLine 48 (.iconst 0) 1 49 := ⟨eg_X8_toLine_32.1, rfl⟩
theorem d_X8_toLine_49 : zD m_X8_toLine 49 (.iaload) 1 50 := ⟨eg_X8_toLine_32.2.1, rfl⟩
theorem d_X8_toLine_50 : zD m_X8_toLine 50 (.imul) 1 51 := ⟨eg_X8_toLine_32.2.2.1, rfl⟩
theorem d_X8_toLine_51 : zDj m_X8_toLine 51 (.goto) 54 56 := ⟨5, eg_X8_toLine_32.2.2.2.1, rfl, by decide⟩
theorem d_X8_toLine_54 : zD m_X8_toLine 54 (.iload 4) 2 56 := ⟨eg_X8_toLine_32.2.2.2.2.1, rfl⟩
theorem d_X8_toLine_56 : zD m_X8_toLine 56 (.iastore) 1 57 := ⟨eg_X8_toLine_32.2.2.2.2.2.1, rfl⟩
theorem d_X8_toLine_57 : zD m_X8_toLine 57 (.aload_n 0) 1 58 := ⟨eg_X8_toLine_32.2.2.2.2.2.2.1, rfl⟩
theorem d_X8_toLine_58 : zD m_X8_toLine 58 (.iload_n 1) 1 59 := ⟨eg_X8_toLine_32.2.2.2.2.2.2.2, rfl⟩
theorem d_X8_toLine_59 : zD m_X8_toLine 59 (.iconst 0) 1 60 := ⟨eg_X8_toLine_40.1, rfl⟩
theorem d_X8_toLine_60 : zD m_X8_toLine 60 (.iload 5) 2 62 := ⟨eg_X8_toLine_40.2.1, rfl⟩
theorem d_X8_toLine_62 : zDj m_X8_toLine 62 (.ifCond .le) 65 70 := ⟨8, eg_X8_toLine_40.2.2.1, rfl, by decide⟩
theorem d_X8_toLine_65 : zD m_X8_toLine 65 (.iload 5) 2 67 := ⟨eg_X8_toLine_40.2.2.2.1, rfl⟩
theorem d_X8_toLine_67 : zDj m_X8_toLine 67 (.goto) 70 71 := ⟨4, eg_X8_toLine_40.2.2.2.2.1, rfl, by decide⟩
theorem d_X8_toLine_70 : zD m_X8_toLine 70 (.iconst 0) 1 71 := ⟨eg_X8_toLine_40.2.2.2.2.2.1, rfl⟩
theorem d_X8_toLine_71 : zD m_X8_toLine 71 (.invokevirtual 198) 3 74 := ⟨eg_X8_toLine_40.2.2.2.2.2.2.1, rfl⟩
theorem d_X8_toLine_74 : decode (zcc m_X8_toLine) 74 = .ok (.return_, 1) := eg_X8_toLine_40.2.2.2.2.2.2.2
set_option maxRecDepth 20000 in
theorem eg_X8_traps_0 : decode (zcc m_X8_traps) 0 = .ok (.aload_n 0, 1) ∧ decode (zcc m_X8_traps) 1 = .ok (.getfield 7, 3) ∧ decode (zcc m_X8_traps) 4 = .ok (.iload_n 1, 1) ∧ decode (zcc m_X8_traps) 5 = .ok (.iload_n 2, 1) ∧ decode (zcc m_X8_traps) 6 = .ok (.iadd, 1) ∧ decode (zcc m_X8_traps) 7 = .ok (.iaload, 1) ∧ decode (zcc m_X8_traps) 8 = .ok (.ifCond .le (63), 3) ∧ decode (zcc m_X8_traps) 11 = .ok (.aload_n 0, 1) := by decide +kernel
set_option maxRecDepth 20000 in
theorem eg_X8_traps_8 : decode (zcc m_X8_traps) 12 = .ok (.getfield 27, 3) ∧ decode (zcc m_X8_traps) 15 = .ok (.iload_n 2, 1) ∧ decode (zcc m_X8_traps) 16 = .ok (.iaload, 1) ∧ decode (zcc m_X8_traps) 17 = .ok (.aload_n 0, 1) ∧ decode (zcc m_X8_traps) 18 = .ok (.getfield 7, 3) ∧ decode (zcc m_X8_traps) 21 = .ok (.iload_n 1, 1) ∧ decode (zcc m_X8_traps) 22 = .ok (.bipush 56, 2) ∧ decode (zcc m_X8_traps) 24 = .ok (.iadd, 1) := by decide +kernel
set_option maxRecDepth 20000 in
theorem eg_X8_traps_16 : decode (zcc m_X8_traps) 25 = .ok (.iload_n 2, 1) ∧ decode (zcc m_X8_traps) 26 = .ok (.iadd, 1) ∧ decode (zcc m_X8_traps) 27 = .ok (.iaload, 1) ∧ decode (zcc m_X8_traps) 28 = .ok (.isub, 1) ∧ decode (zcc m_X8_traps) 29 = .ok (.aload_n 0, 1) ∧ decode (zcc m_X8_traps) 30 = .ok (.getfield 7, 3) ∧ decode (zcc m_X8_traps) 33 = .ok (.iload_n 1, 1) ∧ decode (zcc m_X8_traps) 34 = .ok (.iload_n 2, 1) := by decide +kernel
set_option maxRecDepth 20000 in
theorem eg_X8_traps_24 : decode (zcc m_X8_traps) 35 = .ok (.iadd, 1) ∧ decode (zcc m_X8_traps) 36 = .ok (.iaload, 1) ∧ decode (zcc m_X8_traps) 37 = .ok (.invokestatic 191, 3) ∧ decode (zcc m_X8_traps) 40 = .ok (.istore_n 3, 1) ∧ decode (zcc m_X8_traps) 41 = .ok (.aload_n 0, 1) ∧ decode (zcc m_X8_traps) 42 = .ok (.getfield 7, 3) ∧ decode (zcc m_X8_traps) 45 = .ok (.iload_n 1, 1) ∧ decode (zcc m_X8_traps) 46 = .ok (.iload_n 2, 1) := by decide +kernel
set_option maxRecDepth 20000 in
theorem eg_X8_traps_32 : decode (zcc m_X8_traps) 47 = .ok (.iadd, 1) ∧ decode (zcc m_X8_traps) 48 = .ok (.dup2, 1) ∧ decode (zcc m_X8_traps) 49 = .ok (.iaload, 1) ∧ decode (zcc m_X8_traps) 50 = .ok (.iload_n 3, 1) ∧ decode (zcc m_X8_traps) 51 = .ok (.isub, 1) ∧ decode (zcc m_X8_traps) 52 = .ok (.iastore, 1) ∧ decode (zcc m_X8_traps) 53 = .ok (.aload_n 0, 1) ∧ decode (zcc m_X8_traps) 54 = .ok (.getfield 7, 3) := by decide +kernel
set_option maxRecDepth 20000 in
theorem eg_X8_traps_40 : decode (zcc m_X8_traps) 57 = .ok (.iload_n 1, 1) ∧ decode (zcc m_X8_traps) 58 = .ok (.bipush 56, 2) ∧ decode (zcc m_X8_traps) 60 = .ok (.iadd, 1) ∧ decode (zcc m_X8_traps) 61 = .ok (.iload_n 2, 1) ∧ decode (zcc m_X8_traps) 62 = .ok (.iadd, 1) ∧ decode (zcc m_X8_traps) 63 = .ok (.dup2, 1) ∧ decode (zcc m_X8_traps) 64 = .ok (.iaload, 1) ∧ decode (zcc m_X8_traps) 65 = .ok (.iload_n 3, 1) := by decide +kernel
set_option maxRecDepth 20000 in
theorem eg_X8_traps_48 : decode (zcc m_X8_traps) 66 = .ok (.iadd, 1) ∧ decode (zcc m_X8_traps) 67 = .ok (.iastore, 1) ∧ decode (zcc m_X8_traps) 68 = .ok (.goto (34), 3) ∧ decode (zcc m_X8_traps) 71 = .ok (.aload_n 0, 1) ∧ decode (zcc m_X8_traps) 72 = .ok (.getfield 7, 3) ∧ decode (zcc m_X8_traps) 75 = .ok (.iload_n 1, 1) ∧ decode (zcc m_X8_traps) 76 = .ok (.iload_n 2, 1) ∧ decode (zcc m_X8_traps) 77 = .ok (.iadd, 1) := by decide +kernel
set_option maxRecDepth 20000 in
theorem eg_X8_traps_56 : decode (zcc m_X8_traps) 78 = .ok (.aload_n 0, 1) ∧ decode (zcc m_X8_traps) 79 = .ok (.getfield 7, 3) ∧ decode (zcc m_X8_traps) 82 = .ok (.iload_n 1, 1) ∧ decode (zcc m_X8_traps) 83 = .ok (.bipush 56, 2) ∧ decode (zcc m_X8_traps) 85 = .ok (.iadd, 1) ∧ decode (zcc m_X8_traps) 86 = .ok (.iload_n 2, 1) ∧ decode (zcc m_X8_traps) 87 = .ok (.iadd, 1) ∧ decode (zcc m_X8_traps) 88 = .ok (.iaload, 1) := by decide +kernel
set_option maxRecDepth 20000 in
theorem eg_X8_traps_64 : decode (zcc m_X8_traps) 89 = .ok (.iastore, 1) ∧ decode (zcc m_X8_traps) 90 = .ok (.aload_n 0, 1) ∧ decode (zcc m_X8_traps) 91 = .ok (.getfield 7, 3) ∧ decode (zcc m_X8_traps) 94 = .ok (.iload_n 1, 1) ∧ decode (zcc m_X8_traps) 95 = .ok (.bipush 56, 2) ∧ decode (zcc m_X8_traps) 97 = .ok (.iadd, 1) ∧ decode (zcc m_X8_traps) 98 = .ok (.iload_n 2, 1) ∧ decode (zcc m_X8_traps) 99 = .ok (.iadd, 1) := by decide +kernel
set_option maxRecDepth 20000 in
theorem eg_X8_traps_72 : decode (zcc m_X8_traps) 100 = .ok (.iconst 0, 1) ∧ decode (zcc m_X8_traps) 101 = .ok (.iastore, 1) ∧ decode (zcc m_X8_traps) 102 = .ok (.return_, 1) := by decide +kernel
theorem d_X8_traps_0 : zD m_X8_traps 0 (.aload_n 0) 1 1 := ⟨eg_X8_traps_0.1, rfl⟩
theorem d_X8_traps_1 : zD m_X8_traps 1 (.getfield 7) 3 4 := ⟨eg_X8_traps_0.2.1, rfl⟩
theorem d_X8_traps_4 : zD m_X8_traps 4 (.iload_n 1) 1 5 := ⟨eg_X8_traps_0.2.2.1, rfl⟩
theorem d_X8_traps_5 : zD m_X8_traps 5 (.iload_n 2) 1 6 := ⟨eg_X8_traps_0.2.2.2.1, rfl⟩
theorem d_X8_traps_6 : zD m_X8_traps 6 (.iadd) 1 7 := ⟨eg_X8_traps_0.2.2.2.2.1, rfl⟩
theorem d_X8_traps_7 : zD m_X8_traps 7 (.iaload) 1 8 := ⟨eg_X8_traps_0.2.2.2.2.2.1, rfl⟩
theorem d_X8_traps_8 : zDj m_X8_traps 8 (.ifCond .le) 11 71 := ⟨63, eg_X8_traps_0.2.2.2.2.2.2.1, rfl, by decide⟩
theorem d_X8_traps_11 : zD m_X8_traps 11 (.aload_n 0) 1 12 := ⟨eg_X8_traps_0.2.2.2.2.2.2.2, rfl⟩
theorem d_X8_traps_12 : zD m_X8_traps 12 (.getfield 27) 3 15 := ⟨eg_X8_traps_8.1, rfl⟩
theorem d_X8_traps_15 : zD m_X8_traps 15 (.iload_n 2) 1 16 := ⟨eg_X8_traps_8.2.1, rfl⟩
theorem d_X8_traps_16 : zD m_X8_traps 16 (.iaload) 1 17 := ⟨eg_X8_traps_8.2.2.1, rfl⟩
theorem d_X8_traps_17 : zD m_X8_traps 17 (.aload_n 0) 1 18 := ⟨eg_X8_traps_8.2.2.2.1, rfl⟩
theorem d_X8_traps_18 : zD m_X8_traps 18 (.getfield 7) 3 21 := ⟨eg_X8_traps_8.2.2.2.2.1, rfl⟩
theorem d_X8_traps_21 : zD m_X8_traps 21 (.iload_n 1) 1 22 := ⟨eg_X8_traps_8.2.2.2.2.2.1, rfl⟩
theorem d_X8_traps_22 : zD m_X8_traps 22 (.bipush 56) 2 24 := ⟨eg_X8_traps_8.2.2.2.2.2.2.1, rfl⟩
theorem d_X8_traps_24 : zD m_X8_traps 24 (.iadd) 1 25 := ⟨eg_X8_traps_8.2.2.2.2.2.2.2, rfl⟩
theorem d_X8_traps_25 : zD m_X8_traps 25 (.iload_n 2) 1 26 := ⟨eg_X8_traps_16.1, rfl⟩
theorem d_X8_traps_26 : zD m_X8_traps 26 (.iadd) 1 27 := ⟨eg_X8_traps_16.2.1, rfl⟩
theorem d_X8_traps_27 : zD m_X8_traps 27 (.iaload) 1 28 := ⟨eg_X8_traps_16.2.2.1, rfl⟩
theorem d_X8_traps_28 : zD m_X8_traps 28 (.isub) 1 29 := ⟨eg_X8_traps_16.2.2.2.1, rfl⟩
theorem d_X8_traps_29 : zD m_X8_traps 29 (.aload_n 0) 1 30 := ⟨eg_X8_traps_16.2.2.2.2.1, rfl⟩
theorem d_X8_traps_30 : zD m_X8_traps 30 (.getfield 7) 3 33 := ⟨eg_X8_traps_16.2.2.2.2.2.1, rfl⟩
theorem d_X8_traps_33 : zD m_X8_traps 33 (.iload_n 1) 1 34 := ⟨eg_X8_traps_16.2.2.2.2.2.2.1, rfl⟩
theorem d_X8_traps_34 : zD m_X8_traps 34 (.iload_n 2) 1 35 := ⟨eg_X8_traps_16.2.2.2.2.2.2.2, rfl⟩
theorem d_X8_traps_35 : zD m_X8_traps 35 (.iadd) 1 36 := ⟨eg_X8_traps_24.1, rfl⟩
theorem d_X8_traps_36 : zD m_X8_traps 36 (.iaload) 1 37 := ⟨eg_X8_traps_24.2.1, rfl⟩
theorem d_X8_traps_37 : zD m_X8_traps 37 (.invokestatic 191) 3 40 := ⟨eg_X8_traps_24.2.2.1, rfl⟩
theorem d_X8_traps_40 : zD m_X8_traps 40 (.istore_n 3) 1 41 := ⟨eg_X8_traps_24.2.2.2.1, rfl⟩
theorem d_X8_traps_41 : zD m_X8_traps 41 (.aload_n 0) 1 42 := ⟨eg_X8_traps_24.2.2.2.2.1, rfl⟩
theorem d_X8_traps_42 : zD m_X8_traps 42 (.getfield 7) 3 45 := ⟨eg_X8_traps_24.2.2.2.2.2.1, rfl⟩
theorem d_X8_traps_45 : zD m_X8_traps 45 (.iload_n 1) 1 46 := ⟨eg_X8_traps_24.2.2.2.2.2.2.1, rfl⟩
theorem d_X8_traps_46 : zD m_X8_traps 46 (.iload_n 2) 1 47 := ⟨eg_X8_traps_24.2.2.2.2.2.2.2, rfl⟩
theorem d_X8_traps_47 : zD m_X8_traps 47 (.iadd) 1 48 := ⟨eg_X8_traps_32.1, rfl⟩
theorem d_X8_traps_48 : zD m_X8_traps 48 (.dup2) 1 49 := ⟨eg_X8_traps_32.2.1, rfl⟩
theorem d_X8_traps_49 : zD m_X8_traps 49 (.iaload) 1 50 := ⟨eg_X8_traps_32.2.2.1, rfl⟩
theorem d_X8_traps_50 : zD m_X8_traps 50 (.iload_n 3) 1 51 := ⟨eg_X8_traps_32.2.2.2.1, rfl⟩
theorem d_X8_traps_51 : zD m_X8_traps 51 (.isub) 1 52 := ⟨eg_X8_traps_32.2.2.2.2.1, rfl⟩
theorem d_X8_traps_52 : zD m_X8_traps 52 (.iastore) 1 53 := ⟨eg_X8_traps_32.2.2.2.2.2.1, rfl⟩
theorem d_X8_traps_53 : zD m_X8_traps 53 (.aload_n 0) 1 54 := ⟨eg_X8_traps_32.2.2.2.2.2.2.1, rfl⟩
theorem d_X8_traps_54 : zD m_X8_traps 54 (.getfield 7) 3 57 := ⟨eg_X8_traps_32.2.2.2.2.2.2.2, rfl⟩
theorem d_X8_traps_57 : zD m_X8_traps 57 (.iload_n 1) 1 58 := ⟨eg_X8_traps_40.1, rfl⟩
theorem d_X8_traps_58 : zD m_X8_traps 58 (.bipush 56) 2 60 := ⟨eg_X8_traps_40.2.1, rfl⟩
theorem d_X8_traps_60 : zD m_X8_traps 60 (.iadd) 1 61 := ⟨eg_X8_traps_40.2.2.1, rfl⟩
theorem d_X8_traps_61 : zD m_X8_traps 61 (.iload_n 2) 1 62 := ⟨eg_X8_traps_40.2.2.2.1, rfl⟩
theorem d_X8_traps_62 : zD m_X8_traps 62 (.iadd) 1 63 := ⟨eg_X8_traps_40.2.2.2.2.1, rfl⟩
theorem d_X8_traps_63 : zD m_X8_traps 63 (.dup2) 1 64 := ⟨eg_X8_traps_40.2.2.2.2.2.1, rfl⟩
theorem d_X8_traps_64 : zD m_X8_traps 64 (.iaload) 1 65 := ⟨eg_X8_traps_40.2.2.2.2.2.2.1, rfl⟩
theorem d_X8_traps_65 : zD m_X8_traps 65 (.iload_n 3) 1 66 := ⟨eg_X8_traps_40.2.2.2.2.2.2.2, rfl⟩
theorem d_X8_traps_66 : zD m_X8_traps 66 (.iadd) 1 67 := ⟨eg_X8_traps_48.1, rfl⟩
theorem d_X8_traps_67 : zD m_X8_traps 67 (.iastore) 1 68 := ⟨eg_X8_traps_48.2.1, rfl⟩
theorem d_X8_traps_68 : zDj m_X8_traps 68 (.goto) 71 102 := ⟨34, eg_X8_traps_48.2.2.1, rfl, by decide⟩
theorem d_X8_traps_71 : zD m_X8_traps 71 (.aload_n 0) 1 72 := ⟨eg_X8_traps_48.2.2.2.1, rfl⟩
theorem d_X8_traps_72 : zD m_X8_traps 72 (.getfield 7) 3 75 := ⟨eg_X8_traps_48.2.2.2.2.1, rfl⟩
theorem d_X8_traps_75 : zD m_X8_traps 75 (.iload_n 1) 1 76 := ⟨eg_X8_traps_48.2.2.2.2.2.1, rfl⟩
theorem d_X8_traps_76 : zD m_X8_traps 76 (.iload_n 2) 1 77 := ⟨eg_X8_traps_48.2.2.2.2.2.2.1, rfl⟩
theorem d_X8_traps_77 : zD m_X8_traps 77 (.iadd) 1 78 := ⟨eg_X8_traps_48.2.2.2.2.2.2.2, rfl⟩
theorem d_X8_traps_78 : zD m_X8_traps 78 (.aload_n 0) 1 79 := ⟨eg_X8_traps_56.1, rfl⟩
theorem d_X8_traps_79 : zD m_X8_traps 79 (.getfield 7) 3 82 := ⟨eg_X8_traps_56.2.1, rfl⟩
theorem d_X8_traps_82 : zD m_X8_traps 82 (.iload_n 1) 1 83 := ⟨eg_X8_traps_56.2.2.1, rfl⟩
theorem d_X8_traps_83 : zD m_X8_traps 83 (.bipush 56) 2 85 := ⟨eg_X8_traps_56.2.2.2.1, rfl⟩
theorem d_X8_traps_85 : zD m_X8_traps 85 (.iadd) 1 86 := ⟨eg_X8_traps_56.2.2.2.2.1, rfl⟩
theorem d_X8_traps_86 : zD m_X8_traps 86 (.iload_n 2) 1 87 := ⟨eg_X8_traps_56.2.2.2.2.2.1, rfl⟩
theorem d_X8_traps_87 : zD m_X8_traps 87 (.iadd) 1 88 := ⟨eg_X8_traps_56.2.2.2.2.2.2.1, rfl⟩
theorem d_X8_traps_88 : zD m_X8_traps 88 (.iaload) 1 89 := ⟨eg_X8_traps_56.2.2.2.2.2.2.2, rfl⟩
theorem d_X8_traps_89 : zD m_X8_traps 89 (.iastore) 1 90 := ⟨eg_X8_traps_64.1, rfl⟩
theorem d_X8_traps_90 : zD m_X8_traps 90 (.aload_n 0) 1 91 := ⟨eg_X8_traps_64.2.1, rfl⟩
theorem d_X8_traps_91 : zD m_X8_traps 91 (.getfield 7) 3 94 := ⟨eg_X8_traps_64.2.2.1, rfl⟩
theorem d_X8_traps_94 : zD m_X8_traps 94 (.iload_n 1) 1 95 := ⟨eg_X8_traps_64.2.2.2.1, rfl⟩
theorem d_X8_traps_95 : zD m_X8_traps 95 (.bipush 56) 2 97 := ⟨eg_X8_traps_64.2.2.2.2.1, rfl⟩
theorem d_X8_traps_97 : zD m_X8_traps 97 (.iadd) 1 98 := ⟨eg_X8_traps_64.2.2.2.2.2.1, rfl⟩
theorem d_X8_traps_98 : zD m_X8_traps 98 (.iload_n 2) 1 99 := ⟨eg_X8_traps_64.2.2.2.2.2.2.1, rfl⟩
theorem d_X8_traps_99 : zD m_X8_traps 99 (.iadd) 1 100 := ⟨eg_X8_traps_64.2.2.2.2.2.2.2, rfl⟩
theorem d_X8_traps_100 : zD m_X8_traps 100 (.iconst 0) 1 101 := ⟨eg_X8_traps_72.1, rfl⟩
theorem d_X8_traps_101 : zD m_X8_traps 101 (.iastore) 1 102 := ⟨eg_X8_traps_72.2.1, rfl⟩
theorem d_X8_traps_102 : decode (zcc m_X8_traps) 102 = .ok (.return_, 1) := eg_X8_traps_72.2.2
set_option maxRecDepth 20000 in
theorem eg_X8_handsDown_0 : decode (zcc m_X8_handsDown) 0 = .ok (.iconst 0, 1) ∧ decode (zcc m_X8_handsDown) 1 = .ok (.istore 4, 2) ∧ decode (zcc m_X8_handsDown) 3 = .ok (.iload 4, 2) ∧ decode (zcc m_X8_handsDown) 5 = .ok (.bipush 8, 2) ∧ decode (zcc m_X8_handsDown) 7 = .ok (.if_icmp .ge (31), 3) ∧ decode (zcc m_X8_handsDown) 10 = .ok (.aload_n 0, 1) ∧ decode (zcc m_X8_handsDown) 11 = .ok (.iload_n 1, 1) ∧ decode (zcc m_X8_handsDown) 12 = .ok (.iload 4, 2) := by decide +kernel
set_option maxRecDepth 20000 in
theorem eg_X8_handsDown_8 : decode (zcc m_X8_handsDown) 14 = .ok (.aload_n 0, 1) ∧ decode (zcc m_X8_handsDown) 15 = .ok (.getfield 7, 3) ∧ decode (zcc m_X8_handsDown) 18 = .ok (.iload_n 1, 1) ∧ decode (zcc m_X8_handsDown) 19 = .ok (.bipush 48, 2) ∧ decode (zcc m_X8_handsDown) 21 = .ok (.iadd, 1) ∧ decode (zcc m_X8_handsDown) 22 = .ok (.bipush 8, 2) ∧ decode (zcc m_X8_handsDown) 24 = .ok (.isub, 1) ∧ decode (zcc m_X8_handsDown) 25 = .ok (.iload 4, 2) := by decide +kernel
set_option maxRecDepth 20000 in
theorem eg_X8_handsDown_16 : decode (zcc m_X8_handsDown) 27 = .ok (.iadd, 1) ∧ decode (zcc m_X8_handsDown) 28 = .ok (.iaload, 1) ∧ decode (zcc m_X8_handsDown) 29 = .ok (.invokevirtual 216, 3) ∧ decode (zcc m_X8_handsDown) 32 = .ok (.iinc 4 1, 3) ∧ decode (zcc m_X8_handsDown) 35 = .ok (.goto (-32), 3) ∧ decode (zcc m_X8_handsDown) 38 = .ok (.bipush 47, 2) ∧ decode (zcc m_X8_handsDown) 40 = .ok (.istore 4, 2) ∧ decode (zcc m_X8_handsDown) 42 = .ok (.iload 4, 2) := by decide +kernel
set_option maxRecDepth 20000 in
theorem eg_X8_handsDown_24 : decode (zcc m_X8_handsDown) 44 = .ok (.ifCond .lt (41), 3) ∧ decode (zcc m_X8_handsDown) 47 = .ok (.aload_n 0, 1) ∧ decode (zcc m_X8_handsDown) 48 = .ok (.getfield 7, 3) ∧ decode (zcc m_X8_handsDown) 51 = .ok (.iload_n 1, 1) ∧ decode (zcc m_X8_handsDown) 52 = .ok (.iload 4, 2) ∧ decode (zcc m_X8_handsDown) 54 = .ok (.iadd, 1) ∧ decode (zcc m_X8_handsDown) 55 = .ok (.iload 4, 2) ∧ decode (zcc m_X8_handsDown) 57 = .ok (.bipush 8, 2) := by decide +kernel
set_option maxRecDepth 20000 in
theorem eg_X8_handsDown_32 : decode (zcc m_X8_handsDown) 59 = .ok (.if_icmp .ge (7), 3) ∧ decode (zcc m_X8_handsDown) 62 = .ok (.iconst 0, 1) ∧ decode (zcc m_X8_handsDown) 63 = .ok (.goto (15), 3) ∧ decode (zcc m_X8_handsDown) 66 = .ok (.aload_n 0, 1) ∧ decode (zcc m_X8_handsDown) 67 = .ok (.getfield 7, 3) ∧ decode (zcc m_X8_handsDown) 70 = .ok (.iload_n 1, 1) ∧ decode (zcc m_X8_handsDown) 71 = .ok (.iload 4, 2) ∧ decode (zcc m_X8_handsDown) 73 = .ok (.iadd, 1) := by decide +kernel
set_option maxRecDepth 20000 in
theorem eg_X8_handsDown_40 : decode (zcc m_X8_handsDown) 74 = .ok (.bipush 8, 2) ∧ decode (zcc m_X8_handsDown) 76 = .ok (.isub, 1) ∧ decode (zcc m_X8_handsDown) 77 = .ok (.iaload, 1) ∧ decode (zcc m_X8_handsDown) 78 = .ok (.iastore, 1) ∧ decode (zcc m_X8_handsDown) 79 = .ok (.iinc 4 (-1), 3) ∧ decode (zcc m_X8_handsDown) 82 = .ok (.goto (-40), 3) ∧ decode (zcc m_X8_handsDown) 85 = .ok (.iconst 0, 1) ∧ decode (zcc m_X8_handsDown) 86 = .ok (.istore 4, 2) := by decide +kernel
set_option maxRecDepth 20000 in
theorem eg_X8_handsDown_48 : decode (zcc m_X8_handsDown) 88 = .ok (.iload 4, 2) ∧ decode (zcc m_X8_handsDown) 90 = .ok (.bipush 48, 2) ∧ decode (zcc m_X8_handsDown) 92 = .ok (.if_icmp .ge (20), 3) ∧ decode (zcc m_X8_handsDown) 95 = .ok (.iload_n 2, 1) ∧ decode (zcc m_X8_handsDown) 96 = .ok (.ifCond .eq (10), 3) ∧ decode (zcc m_X8_handsDown) 99 = .ok (.aload_n 0, 1) ∧ decode (zcc m_X8_handsDown) 100 = .ok (.iload_n 1, 1) ∧ decode (zcc m_X8_handsDown) 101 = .ok (.iload 4, 2) := by decide +kernel
set_option maxRecDepth 20000 in
theorem eg_X8_handsDown_56 : decode (zcc m_X8_handsDown) 103 = .ok (.invokevirtual 219, 3) ∧ decode (zcc m_X8_handsDown) 106 = .ok (.iinc 4 1, 3) ∧ decode (zcc m_X8_handsDown) 109 = .ok (.goto (-21), 3) ∧ decode (zcc m_X8_handsDown) 112 = .ok (.iconst 0, 1) ∧ decode (zcc m_X8_handsDown) 113 = .ok (.istore 4, 2) ∧ decode (zcc m_X8_handsDown) 115 = .ok (.iload 4, 2) ∧ decode (zcc m_X8_handsDown) 117 = .ok (.bipush 48, 2) ∧ decode (zcc m_X8_handsDown) 119 = .ok (.if_icmp .ge (30), 3) := by decide +kernel
set_option maxRecDepth 20000 in
theorem eg_X8_handsDown_64 : decode (zcc m_X8_handsDown) 122 = .ok (.aload_n 0, 1) ∧ decode (zcc m_X8_handsDown) 123 = .ok (.iload_n 1, 1) ∧ decode (zcc m_X8_handsDown) 124 = .ok (.iload 4, 2) ∧ decode (zcc m_X8_handsDown) 126 = .ok (.aload_n 0, 1) ∧ decode (zcc m_X8_handsDown) 127 = .ok (.getfield 7, 3) ∧ decode (zcc m_X8_handsDown) 130 = .ok (.iload_n 1, 1) ∧ decode (zcc m_X8_handsDown) 131 = .ok (.bipush 104, 2) ∧ decode (zcc m_X8_handsDown) 133 = .ok (.iadd, 1) := by decide +kernel
set_option maxRecDepth 20000 in
theorem eg_X8_handsDown_72 : decode (zcc m_X8_handsDown) 134 = .ok (.iload 4, 2) ∧ decode (zcc m_X8_handsDown) 136 = .ok (.iadd, 1) ∧ decode (zcc m_X8_handsDown) 137 = .ok (.iaload, 1) ∧ decode (zcc m_X8_handsDown) 138 = .ok (.iload_n 3, 1) ∧ decode (zcc m_X8_handsDown) 139 = .ok (.imul, 1) ∧ decode (zcc m_X8_handsDown) 140 = .ok (.invokevirtual 207, 3) ∧ decode (zcc m_X8_handsDown) 143 = .ok (.iinc 4 1, 3) ∧ decode (zcc m_X8_handsDown) 146 = .ok (.goto (-31), 3) := by decide +kernel
set_option maxRecDepth 20000 in
theorem eg_X8_handsDown_80 : decode (zcc m_X8_handsDown) 149 = .ok (.aload_n 0, 1) ∧ decode (zcc m_X8_handsDown) 150 = .ok (.iload_n 1, 1) ∧ decode (zcc m_X8_handsDown) 151 = .ok (.invokevirtual 210, 3) ∧ decode (zcc m_X8_handsDown) 154 = .ok (.return_, 1) := by decide +kernel
theorem d_X8_handsDown_0 : zD m_X8_handsDown 0 (.iconst 0) 1 1 := ⟨eg_X8_handsDown_0.1, rfl⟩
theorem d_X8_handsDown_1 : zD m_X8_handsDown 1 (.istore 4) 2 3 := ⟨eg_X8_handsDown_0.2.1, rfl⟩
theorem d_X8_handsDown_3 : zD m_X8_handsDown 3 (.iload 4) 2 5 := ⟨eg_X8_handsDown_0.2.2.1, rfl⟩
theorem d_X8_handsDown_5 : zD m_X8_handsDown 5 (.bipush 8) 2 7 := ⟨eg_X8_handsDown_0.2.2.2.1, rfl⟩
theorem d_X8_handsDown_7 : zDj m_X8_handsDown 7 (.if_icmp .ge) 10 38 := ⟨31, eg_X8_handsDown_0.2.2.2.2.1, rfl, by decide⟩
theorem d_X8_handsDown_10 : zD m_X8_handsDown 10 (.aload_n 0) 1 11 := ⟨eg_X8_handsDown_0.2.2.2.2.2.1, rfl⟩
theorem d_X8_handsDown_11 : zD m_X8_handsDown 11 (.iload_n 1) 1 12 := ⟨eg_X8_handsDown_0.2.2.2.2.2.2.1, rfl⟩
theorem d_X8_handsDown_12 : zD m_X8_handsDown 12 (.iload 4) 2 14 := ⟨eg_X8_handsDown_0.2.2.2.2.2.2.2, rfl⟩
theorem d_X8_handsDown_14 : zD m_X8_handsDown 14 (.aload_n 0) 1 15 := ⟨eg_X8_handsDown_8.1, rfl⟩
theorem d_X8_handsDown_15 : zD m_X8_handsDown 15 (.getfield 7) 3 18 := ⟨eg_X8_handsDown_8.2.1, rfl⟩
theorem d_X8_handsDown_18 : zD m_X8_handsDown 18 (.iload_n 1) 1 19 := ⟨eg_X8_handsDown_8.2.2.1, rfl⟩
theorem d_X8_handsDown_19 : zD m_X8_handsDown 19 (.bipush 48) 2 21 := ⟨eg_X8_handsDown_8.2.2.2.1, rfl⟩
theorem d_X8_handsDown_21 : zD m_X8_handsDown 21 (.iadd) 1 22 := ⟨eg_X8_handsDown_8.2.2.2.2.1, rfl⟩
theorem d_X8_handsDown_22 : zD m_X8_handsDown 22 (.bipush 8) 2 24 := ⟨eg_X8_handsDown_8.2.2.2.2.2.1, rfl⟩
theorem d_X8_handsDown_24 : zD m_X8_handsDown 24 (.isub) 1 25 := ⟨eg_X8_handsDown_8.2.2.2.2.2.2.1, rfl⟩
theorem d_X8_handsDown_25 : zD m_X8_handsDown 25 (.iload 4) 2 27 := ⟨eg_X8_handsDown_8.2.2.2.2.2.2.2, rfl⟩
theorem d_X8_handsDown_27 : zD m_X8_handsDown 27 (.iadd) 1 28 := ⟨eg_X8_handsDown_16.1, rfl⟩
theorem d_X8_handsDown_28 : zD m_X8_handsDown 28 (.iaload) 1 29 := ⟨eg_X8_handsDown_16.2.1, rfl⟩
theorem d_X8_handsDown_29 : zD m_X8_handsDown 29 (.invokevirtual 216) 3 32 := ⟨eg_X8_handsDown_16.2.2.1, rfl⟩
theorem d_X8_handsDown_32 : zD m_X8_handsDown 32 (.iinc 4 1) 3 35 := ⟨eg_X8_handsDown_16.2.2.2.1, rfl⟩
theorem d_X8_handsDown_35 : zDj m_X8_handsDown 35 (.goto) 38 3 := ⟨-32, eg_X8_handsDown_16.2.2.2.2.1, rfl, by decide⟩
theorem d_X8_handsDown_38 : zD m_X8_handsDown 38 (.bipush 47) 2 40 := ⟨eg_X8_handsDown_16.2.2.2.2.2.1, rfl⟩
theorem d_X8_handsDown_40 : zD m_X8_handsDown 40 (.istore 4) 2 42 := ⟨eg_X8_handsDown_16.2.2.2.2.2.2.1, rfl⟩
theorem d_X8_handsDown_42 : zD m_X8_handsDown 42 (.iload 4) 2 44 := ⟨eg_X8_handsDown_16.2.2.2.2.2.2.2, rfl⟩
theorem d_X8_handsDown_44 : zDj m_X8_handsDown 44 (.ifCond .lt) 47 85 := ⟨41, eg_X8_handsDown_24.1, rfl, by decide⟩
theorem d_X8_handsDown_47 : zD m_X8_handsDown 47 (.aload_n 0) 1 48 := ⟨eg_X8_handsDown_24.2.1, rfl⟩
theorem d_X8_handsDown_48 : zD m_X8_handsDown 48 (.getfield 7) 3 51 := ⟨eg_X8_handsDown_24.2.2.1, rfl⟩
theorem d_X8_handsDown_51 : zD m_X8_handsDown 51 (.iload_n 1) 1 52 := ⟨eg_X8_handsDown_24.2.2.2.1, rfl⟩
theorem d_X8_handsDown_52 : zD m_X8_handsDown 52 (.iload 4) 2 54 := ⟨eg_X8_handsDown_24.2.2.2.2.1, rfl⟩
theorem d_X8_handsDown_54 : zD m_X8_handsDown 54 (.iadd) 1 55 := ⟨eg_X8_handsDown_24.2.2.2.2.2.1, rfl⟩
theorem d_X8_handsDown_55 : zD m_X8_handsDown 55 (.iload 4) 2 57 := ⟨eg_X8_handsDown_24.2.2.2.2.2.2.1, rfl⟩
theorem d_X8_handsDown_57 : zD m_X8_handsDown 57 (.bipush 8) 2 59 := ⟨eg_X8_handsDown_24.2.2.2.2.2.2.2, rfl⟩
theorem d_X8_handsDown_59 : zDj m_X8_handsDown 59 (.if_icmp .ge) 62 66 := ⟨7, eg_X8_handsDown_32.1, rfl, by decide⟩
theorem d_X8_handsDown_62 : zD m_X8_handsDown 62 (.iconst 0) 1 63 := ⟨eg_X8_handsDown_32.2.1, rfl⟩
theorem d_X8_handsDown_63 : zDj m_X8_handsDown 63 (.goto) 66 78 := ⟨15, eg_X8_handsDown_32.2.2.1, rfl, by decide⟩
theorem d_X8_handsDown_66 : zD m_X8_handsDown 66 (.aload_n 0) 1 67 := ⟨eg_X8_handsDown_32.2.2.2.1, rfl⟩
theorem d_X8_handsDown_67 : zD m_X8_handsDown 67 (.getfield 7) 3 70 := ⟨eg_X8_handsDown_32.2.2.2.2.1, rfl⟩
theorem d_X8_handsDown_70 : zD m_X8_handsDown 70 (.iload_n 1) 1 71 := ⟨eg_X8_handsDown_32.2.2.2.2.2.1, rfl⟩
theorem d_X8_handsDown_71 : zD m_X8_handsDown 71 (.iload 4) 2 73 := ⟨eg_X8_handsDown_32.2.2.2.2.2.2.1, rfl⟩
theorem d_X8_handsDown_73 : zD m_X8_handsDown 73 (.iadd) 1 74 := ⟨eg_X8_handsDown_32.2.2.2.2.2.2.2, rfl⟩
theorem d_X8_handsDown_74 : zD m_X8_handsDown 74 (.bipush 8) 2 76 := ⟨eg_X8_handsDown_40.1, rfl⟩
theorem d_X8_handsDown_76 : zD m_X8_handsDown 76 (.isub) 1 77 := ⟨eg_X8_handsDown_40.2.1, rfl⟩
theorem d_X8_handsDown_77 : zD m_X8_handsDown 77 (.iaload) 1 78 := ⟨eg_X8_handsDown_40.2.2.1, rfl⟩
theorem d_X8_handsDown_78 : zD m_X8_handsDown 78 (.iastore) 1 79 := ⟨eg_X8_handsDown_40.2.2.2.1, rfl⟩
theorem d_X8_handsDown_79 : zD m_X8_handsDown 79 (.iinc 4 (-1)) 3 82 := ⟨eg_X8_handsDown_40.2.2.2.2.1, rfl⟩
theorem d_X8_handsDown_82 : zDj m_X8_handsDown 82 (.goto) 85 42 := ⟨-40, eg_X8_handsDown_40.2.2.2.2.2.1, rfl, by decide⟩
theorem d_X8_handsDown_85 : zD m_X8_handsDown 85 (.iconst 0) 1 86 := ⟨eg_X8_handsDown_40.2.2.2.2.2.2.1, rfl⟩
theorem d_X8_handsDown_86 : zD m_X8_handsDown 86 (.istore 4) 2 88 := ⟨eg_X8_handsDown_40.2.2.2.2.2.2.2, rfl⟩
theorem d_X8_handsDown_88 : zD m_X8_handsDown 88 (.iload 4) 2 90 := ⟨eg_X8_handsDown_48.1, rfl⟩
theorem d_X8_handsDown_90 : zD m_X8_handsDown 90 (.bipush 48) 2 92 := ⟨eg_X8_handsDown_48.2.1, rfl⟩
theorem d_X8_handsDown_92 : zDj m_X8_handsDown 92 (.if_icmp .ge) 95 112 := ⟨20, eg_X8_handsDown_48.2.2.1, rfl, by decide⟩
theorem d_X8_handsDown_95 : zD m_X8_handsDown 95 (.iload_n 2) 1 96 := ⟨eg_X8_handsDown_48.2.2.2.1, rfl⟩
theorem d_X8_handsDown_96 : zDj m_X8_handsDown 96 (.ifCond .eq) 99 106 := ⟨10, eg_X8_handsDown_48.2.2.2.2.1, rfl, by decide⟩
theorem d_X8_handsDown_99 : zD m_X8_handsDown 99 (.aload_n 0) 1 100 := ⟨eg_X8_handsDown_48.2.2.2.2.2.1, rfl⟩
theorem d_X8_handsDown_100 : zD m_X8_handsDown 100 (.iload_n 1) 1 101 := ⟨eg_X8_handsDown_48.2.2.2.2.2.2.1, rfl⟩
theorem d_X8_handsDown_101 : zD m_X8_handsDown 101 (.iload 4) 2 103 := ⟨eg_X8_handsDown_48.2.2.2.2.2.2.2, rfl⟩
theorem d_X8_handsDown_103 : zD m_X8_handsDown 103 (.invokevirtual 219) 3 106 := ⟨eg_X8_handsDown_56.1, rfl⟩
theorem d_X8_handsDown_106 : zD m_X8_handsDown 106 (.iinc 4 1) 3 109 := ⟨eg_X8_handsDown_56.2.1, rfl⟩
theorem d_X8_handsDown_109 : zDj m_X8_handsDown 109 (.goto) 112 88 := ⟨-21, eg_X8_handsDown_56.2.2.1, rfl, by decide⟩
theorem d_X8_handsDown_112 : zD m_X8_handsDown 112 (.iconst 0) 1 113 := ⟨eg_X8_handsDown_56.2.2.2.1, rfl⟩
theorem d_X8_handsDown_113 : zD m_X8_handsDown 113 (.istore 4) 2 115 := ⟨eg_X8_handsDown_56.2.2.2.2.1, rfl⟩
theorem d_X8_handsDown_115 : zD m_X8_handsDown 115 (.iload 4) 2 117 := ⟨eg_X8_handsDown_56.2.2.2.2.2.1, rfl⟩
theorem d_X8_handsDown_117 : zD m_X8_handsDown 117 (.bipush 48) 2 119 := ⟨eg_X8_handsDown_56.2.2.2.2.2.2.1, rfl⟩
theorem d_X8_handsDown_119 : zDj m_X8_handsDown 119 (.if_icmp .ge) 122 149 := ⟨30, eg_X8_handsDown_56.2.2.2.2.2.2.2, rfl, by decide⟩
theorem d_X8_handsDown_122 : zD m_X8_handsDown 122 (.aload_n 0) 1 123 := ⟨eg_X8_handsDown_64.1, rfl⟩
theorem d_X8_handsDown_123 : zD m_X8_handsDown 123 (.iload_n 1) 1 124 := ⟨eg_X8_handsDown_64.2.1, rfl⟩
theorem d_X8_handsDown_124 : zD m_X8_handsDown 124 (.iload 4) 2 126 := ⟨eg_X8_handsDown_64.2.2.1, rfl⟩
theorem d_X8_handsDown_126 : zD m_X8_handsDown 126 (.aload_n 0) 1 127 := ⟨eg_X8_handsDown_64.2.2.2.1, rfl⟩
theorem d_X8_handsDown_127 : zD m_X8_handsDown 127 (.getfield 7) 3 130 := ⟨eg_X8_handsDown_64.2.2.2.2.1, rfl⟩
theorem d_X8_handsDown_130 : zD m_X8_handsDown 130 (.iload_n 1) 1 131 := ⟨eg_X8_handsDown_64.2.2.2.2.2.1, rfl⟩
theorem d_X8_handsDown_131 : zD m_X8_handsDown 131 (.bipush 104) 2 133 := ⟨eg_X8_handsDown_64.2.2.2.2.2.2.1, rfl⟩
theorem d_X8_handsDown_133 : zD m_X8_handsDown 133 (.iadd) 1 134 := ⟨eg_X8_handsDown_64.2.2.2.2.2.2.2, rfl⟩
theorem d_X8_handsDown_134 : zD m_X8_handsDown 134 (.iload 4) 2 136 := ⟨eg_X8_handsDown_72.1, rfl⟩
theorem d_X8_handsDown_136 : zD m_X8_handsDown 136 (.iadd) 1 137 := ⟨eg_X8_handsDown_72.2.1, rfl⟩
theorem d_X8_handsDown_137 : zD m_X8_handsDown 137 (.iaload) 1 138 := ⟨eg_X8_handsDown_72.2.2.1, rfl⟩
theorem d_X8_handsDown_138 : zD m_X8_handsDown 138 (.iload_n 3) 1 139 := ⟨eg_X8_handsDown_72.2.2.2.1, rfl⟩
theorem d_X8_handsDown_139 : zD m_X8_handsDown 139 (.imul) 1 140 := ⟨eg_X8_handsDown_72.2.2.2.2.1, rfl⟩
theorem d_X8_handsDown_140 : zD m_X8_handsDown 140 (.invokevirtual 207) 3 143 := ⟨eg_X8_handsDown_72.2.2.2.2.2.1, rfl⟩
theorem d_X8_handsDown_143 : zD m_X8_handsDown 143 (.iinc 4 1) 3 146 := ⟨eg_X8_handsDown_72.2.2.2.2.2.2.1, rfl⟩
theorem d_X8_handsDown_146 : zDj m_X8_handsDown 146 (.goto) 149 115 := ⟨-31, eg_X8_handsDown_72.2.2.2.2.2.2.2, rfl, by decide⟩
theorem d_X8_handsDown_149 : zD m_X8_handsDown 149 (.aload_n 0) 1 150 := ⟨eg_X8_handsDown_80.1, rfl⟩
theorem d_X8_handsDown_150 : zD m_X8_handsDown 150 (.iload_n 1) 1 151 := ⟨eg_X8_handsDown_80.2.1, rfl⟩
theorem d_X8_handsDown_151 : zD m_X8_handsDown 151 (.invokevirtual 210) 3 154 := ⟨eg_X8_handsDown_80.2.2.1, rfl⟩
theorem d_X8_handsDown_154 : decode (zcc m_X8_handsDown) 154 = .ok (.return_, 1) := eg_X8_handsDown_80.2.2.2
set_option maxRecDepth 20000 in
theorem eg_X8_lineSum_0 : decode (zcc m_X8_lineSum) 0 = .ok (.aload_n 0, 1) ∧ decode (zcc m_X8_lineSum) 1 = .ok (.iload_n 1, 1) ∧ decode (zcc m_X8_lineSum) 2 = .ok (.bipush 48, 2) ∧ decode (zcc m_X8_lineSum) 4 = .ok (.iadd, 1) ∧ decode (zcc m_X8_lineSum) 5 = .ok (.bipush 8, 2) ∧ decode (zcc m_X8_lineSum) 7 = .ok (.invokevirtual 213, 3) ∧ decode (zcc m_X8_lineSum) 10 = .ok (.ireturn, 1) := by decide +kernel
theorem d_X8_lineSum_0 : zD m_X8_lineSum 0 (.aload_n 0) 1 1 := ⟨eg_X8_lineSum_0.1, rfl⟩
theorem d_X8_lineSum_1 : zD m_X8_lineSum 1 (.iload_n 1) 1 2 := ⟨eg_X8_lineSum_0.2.1, rfl⟩
theorem d_X8_lineSum_2 : zD m_X8_lineSum 2 (.bipush 48) 2 4 := ⟨eg_X8_lineSum_0.2.2.1, rfl⟩
theorem d_X8_lineSum_4 : zD m_X8_lineSum 4 (.iadd) 1 5 := ⟨eg_X8_lineSum_0.2.2.2.1, rfl⟩
theorem d_X8_lineSum_5 : zD m_X8_lineSum 5 (.bipush 8) 2 7 := ⟨eg_X8_lineSum_0.2.2.2.2.1, rfl⟩
theorem d_X8_lineSum_7 : zD m_X8_lineSum 7 (.invokevirtual 213) 3 10 := ⟨eg_X8_lineSum_0.2.2.2.2.2.1, rfl⟩
theorem d_X8_lineSum_10 : decode (zcc m_X8_lineSum) 10 = .ok (.ireturn, 1) := eg_X8_lineSum_0.2.2.2.2.2.2
set_option maxRecDepth 20000 in
theorem eg_X8_down_0 : decode (zcc m_X8_down) 0 = .ok (.aload_n 0, 1) ∧ decode (zcc m_X8_down) 1 = .ok (.iconst 0, 1) ∧ decode (zcc m_X8_down) 2 = .ok (.iconst 1, 1) ∧ decode (zcc m_X8_down) 3 = .ok (.aload_n 0, 1) ∧ decode (zcc m_X8_down) 4 = .ok (.getfield 21, 3) ∧ decode (zcc m_X8_down) 7 = .ok (.iconst 3, 1) ∧ decode (zcc m_X8_down) 8 = .ok (.iaload, 1) ∧ decode (zcc m_X8_down) 9 = .ok (.invokevirtual 222, 3) := by decide +kernel
set_option maxRecDepth 20000 in
theorem eg_X8_down_8 : decode (zcc m_X8_down) 12 = .ok (.aload_n 0, 1) ∧ decode (zcc m_X8_down) 13 = .ok (.iconst 0, 1) ∧ decode (zcc m_X8_down) 14 = .ok (.invokevirtual 226, 3) ∧ decode (zcc m_X8_down) 17 = .ok (.ireturn, 1) := by decide +kernel
theorem d_X8_down_0 : zD m_X8_down 0 (.aload_n 0) 1 1 := ⟨eg_X8_down_0.1, rfl⟩
theorem d_X8_down_1 : zD m_X8_down 1 (.iconst 0) 1 2 := ⟨eg_X8_down_0.2.1, rfl⟩
theorem d_X8_down_2 : zD m_X8_down 2 (.iconst 1) 1 3 := ⟨eg_X8_down_0.2.2.1, rfl⟩
theorem d_X8_down_3 : zD m_X8_down 3 (.aload_n 0) 1 4 := ⟨eg_X8_down_0.2.2.2.1, rfl⟩
theorem d_X8_down_4 : zD m_X8_down 4 (.getfield 21) 3 7 := ⟨eg_X8_down_0.2.2.2.2.1, rfl⟩
theorem d_X8_down_7 : zD m_X8_down 7 (.iconst 3) 1 8 := ⟨eg_X8_down_0.2.2.2.2.2.1, rfl⟩
theorem d_X8_down_8 : zD m_X8_down 8 (.iaload) 1 9 := ⟨eg_X8_down_0.2.2.2.2.2.2.1, rfl⟩
theorem d_X8_down_9 : zD m_X8_down 9 (.invokevirtual 222) 3 12 := ⟨eg_X8_down_0.2.2.2.2.2.2.2, rfl⟩
theorem d_X8_down_12 : zD m_X8_down 12 (.aload_n 0) 1 13 := ⟨eg_X8_down_8.1, rfl⟩
theorem d_X8_down_13 : zD m_X8_down 13 (.iconst 0) 1 14 := ⟨eg_X8_down_8.2.1, rfl⟩
theorem d_X8_down_14 : zD m_X8_down 14 (.invokevirtual 226) 3 17 := ⟨eg_X8_down_8.2.2.1, rfl⟩
theorem d_X8_down_17 : decode (zcc m_X8_down) 17 = .ok (.ireturn, 1) := eg_X8_down_8.2.2.2
set_option maxRecDepth 20000 in
theorem eg_X8_takes_0 : decode (zcc m_X8_takes) 0 = .ok (.aload_n 0, 1) ∧ decode (zcc m_X8_takes) 1 = .ok (.getfield 7, 3) ∧ decode (zcc m_X8_takes) 4 = .ok (.iload_n 1, 1) ∧ decode (zcc m_X8_takes) 5 = .ok (.bipush 48, 2) ∧ decode (zcc m_X8_takes) 7 = .ok (.iadd, 1) ∧ decode (zcc m_X8_takes) 8 = .ok (.bipush 8, 2) ∧ decode (zcc m_X8_takes) 10 = .ok (.iadd, 1) ∧ decode (zcc m_X8_takes) 11 = .ok (.iconst 1, 1) := by decide +kernel
set_option maxRecDepth 20000 in
theorem eg_X8_takes_8 : decode (zcc m_X8_takes) 12 = .ok (.isub, 1) ∧ decode (zcc m_X8_takes) 13 = .ok (.iaload, 1) ∧ decode (zcc m_X8_takes) 14 = .ok (.istore_n 2, 1) ∧ decode (zcc m_X8_takes) 15 = .ok (.bipush 7, 2) ∧ decode (zcc m_X8_takes) 17 = .ok (.istore_n 3, 1) ∧ decode (zcc m_X8_takes) 18 = .ok (.iload_n 3, 1) ∧ decode (zcc m_X8_takes) 19 = .ok (.ifCond .le (33), 3) ∧ decode (zcc m_X8_takes) 22 = .ok (.aload_n 0, 1) := by decide +kernel
set_option maxRecDepth 20000 in
theorem eg_X8_takes_16 : decode (zcc m_X8_takes) 23 = .ok (.getfield 7, 3) ∧ decode (zcc m_X8_takes) 26 = .ok (.iload_n 1, 1) ∧ decode (zcc m_X8_takes) 27 = .ok (.bipush 48, 2) ∧ decode (zcc m_X8_takes) 29 = .ok (.iadd, 1) ∧ decode (zcc m_X8_takes) 30 = .ok (.iload_n 3, 1) ∧ decode (zcc m_X8_takes) 31 = .ok (.iadd, 1) ∧ decode (zcc m_X8_takes) 32 = .ok (.aload_n 0, 1) ∧ decode (zcc m_X8_takes) 33 = .ok (.getfield 7, 3) := by decide +kernel
set_option maxRecDepth 20000 in
theorem eg_X8_takes_24 : decode (zcc m_X8_takes) 36 = .ok (.iload_n 1, 1) ∧ decode (zcc m_X8_takes) 37 = .ok (.bipush 48, 2) ∧ decode (zcc m_X8_takes) 39 = .ok (.iadd, 1) ∧ decode (zcc m_X8_takes) 40 = .ok (.iload_n 3, 1) ∧ decode (zcc m_X8_takes) 41 = .ok (.iadd, 1) ∧ decode (zcc m_X8_takes) 42 = .ok (.iconst 1, 1) ∧ decode (zcc m_X8_takes) 43 = .ok (.isub, 1) ∧ decode (zcc m_X8_takes) 44 = .ok (.iaload, 1) := by decide +kernel
set_option maxRecDepth 20000 in
theorem eg_X8_takes_32 : decode (zcc m_X8_takes) 45 = .ok (.iastore, 1) ∧ decode (zcc m_X8_takes) 46 = .ok (.iinc 3 (-1), 3) ∧ decode (zcc m_X8_takes) 49 = .ok (.goto (-31), 3) ∧ decode (zcc m_X8_takes) 52 = .ok (.aload_n 0, 1) ∧ decode (zcc m_X8_takes) 53 = .ok (.getfield 7, 3) ∧ decode (zcc m_X8_takes) 56 = .ok (.iload_n 1, 1) ∧ decode (zcc m_X8_takes) 57 = .ok (.bipush 48, 2) ∧ decode (zcc m_X8_takes) 59 = .ok (.iadd, 1) := by decide +kernel
set_option maxRecDepth 20000 in
theorem eg_X8_takes_40 : decode (zcc m_X8_takes) 60 = .ok (.iconst 0, 1) ∧ decode (zcc m_X8_takes) 61 = .ok (.iastore, 1) ∧ decode (zcc m_X8_takes) 62 = .ok (.aload_n 0, 1) ∧ decode (zcc m_X8_takes) 63 = .ok (.iload_n 1, 1) ∧ decode (zcc m_X8_takes) 64 = .ok (.iconst 1, 1) ∧ decode (zcc m_X8_takes) 65 = .ok (.iload_n 2, 1) ∧ decode (zcc m_X8_takes) 66 = .ok (.invokevirtual 198, 3) ∧ decode (zcc m_X8_takes) 69 = .ok (.iload_n 2, 1) := by decide +kernel
set_option maxRecDepth 20000 in
theorem eg_X8_takes_48 : decode (zcc m_X8_takes) 70 = .ok (.ireturn, 1) := by decide +kernel
theorem d_X8_takes_0 : zD m_X8_takes 0 (.aload_n 0) 1 1 := ⟨eg_X8_takes_0.1, rfl⟩
theorem d_X8_takes_1 : zD m_X8_takes 1 (.getfield 7) 3 4 := ⟨eg_X8_takes_0.2.1, rfl⟩
theorem d_X8_takes_4 : zD m_X8_takes 4 (.iload_n 1) 1 5 := ⟨eg_X8_takes_0.2.2.1, rfl⟩
theorem d_X8_takes_5 : zD m_X8_takes 5 (.bipush 48) 2 7 := ⟨eg_X8_takes_0.2.2.2.1, rfl⟩
theorem d_X8_takes_7 : zD m_X8_takes 7 (.iadd) 1 8 := ⟨eg_X8_takes_0.2.2.2.2.1, rfl⟩
theorem d_X8_takes_8 : zD m_X8_takes 8 (.bipush 8) 2 10 := ⟨eg_X8_takes_0.2.2.2.2.2.1, rfl⟩
theorem d_X8_takes_10 : zD m_X8_takes 10 (.iadd) 1 11 := ⟨eg_X8_takes_0.2.2.2.2.2.2.1, rfl⟩
theorem d_X8_takes_11 : zD m_X8_takes 11 (.iconst 1) 1 12 := ⟨eg_X8_takes_0.2.2.2.2.2.2.2, rfl⟩
theorem d_X8_takes_12 : zD m_X8_takes 12 (.isub) 1 13 := ⟨eg_X8_takes_8.1, rfl⟩
theorem d_X8_takes_13 : zD m_X8_takes 13 (.iaload) 1 14 := ⟨eg_X8_takes_8.2.1, rfl⟩
theorem d_X8_takes_14 : zD m_X8_takes 14 (.istore_n 2) 1 15 := ⟨eg_X8_takes_8.2.2.1, rfl⟩
theorem d_X8_takes_15 : zD m_X8_takes 15 (.bipush 7) 2 17 := ⟨eg_X8_takes_8.2.2.2.1, rfl⟩
theorem d_X8_takes_17 : zD m_X8_takes 17 (.istore_n 3) 1 18 := ⟨eg_X8_takes_8.2.2.2.2.1, rfl⟩
theorem d_X8_takes_18 : zD m_X8_takes 18 (.iload_n 3) 1 19 := ⟨eg_X8_takes_8.2.2.2.2.2.1, rfl⟩
theorem d_X8_takes_19 : zDj m_X8_takes 19 (.ifCond .le) 22 52 := ⟨33, eg_X8_takes_8.2.2.2.2.2.2.1, rfl, by decide⟩
theorem d_X8_takes_22 : zD m_X8_takes 22 (.aload_n 0) 1 23 := ⟨eg_X8_takes_8.2.2.2.2.2.2.2, rfl⟩
theorem d_X8_takes_23 : zD m_X8_takes 23 (.getfield 7) 3 26 := ⟨eg_X8_takes_16.1, rfl⟩
theorem d_X8_takes_26 : zD m_X8_takes 26 (.iload_n 1) 1 27 := ⟨eg_X8_takes_16.2.1, rfl⟩
theorem d_X8_takes_27 : zD m_X8_takes 27 (.bipush 48) 2 29 := ⟨eg_X8_takes_16.2.2.1, rfl⟩
theorem d_X8_takes_29 : zD m_X8_takes 29 (.iadd) 1 30 := ⟨eg_X8_takes_16.2.2.2.1, rfl⟩
theorem d_X8_takes_30 : zD m_X8_takes 30 (.iload_n 3) 1 31 := ⟨eg_X8_takes_16.2.2.2.2.1, rfl⟩
theorem d_X8_takes_31 : zD m_X8_takes 31 (.iadd) 1 32 := ⟨eg_X8_takes_16.2.2.2.2.2.1, rfl⟩
theorem d_X8_takes_32 : zD m_X8_takes 32 (.aload_n 0) 1 33 := ⟨eg_X8_takes_16.2.2.2.2.2.2.1, rfl⟩
theorem d_X8_takes_33 : zD m_X8_takes 33 (.getfield 7) 3 36 := ⟨eg_X8_takes_16.2.2.2.2.2.2.2, rfl⟩
theorem d_X8_takes_36 : zD m_X8_takes 36 (.iload_n 1) 1 37 := ⟨eg_X8_takes_24.1, rfl⟩
theorem d_X8_takes_37 : zD m_X8_takes 37 (.bipush 48) 2 39 := ⟨eg_X8_takes_24.2.1, rfl⟩
theorem d_X8_takes_39 : zD m_X8_takes 39 (.iadd) 1 40 := ⟨eg_X8_takes_24.2.2.1, rfl⟩
theorem d_X8_takes_40 : zD m_X8_takes 40 (.iload_n 3) 1 41 := ⟨eg_X8_takes_24.2.2.2.1, rfl⟩
theorem d_X8_takes_41 : zD m_X8_takes 41 (.iadd) 1 42 := ⟨eg_X8_takes_24.2.2.2.2.1, rfl⟩
theorem d_X8_takes_42 : zD m_X8_takes 42 (.iconst 1) 1 43 := ⟨eg_X8_takes_24.2.2.2.2.2.1, rfl⟩
theorem d_X8_takes_43 : zD m_X8_takes 43 (.isub) 1 44 := ⟨eg_X8_takes_24.2.2.2.2.2.2.1, rfl⟩
theorem d_X8_takes_44 : zD m_X8_takes 44 (.iaload) 1 45 := ⟨eg_X8_takes_24.2.2.2.2.2.2.2, rfl⟩
theorem d_X8_takes_45 : zD m_X8_takes 45 (.iastore) 1 46 := ⟨eg_X8_takes_32.1, rfl⟩
theorem d_X8_takes_46 : zD m_X8_takes 46 (.iinc 3 (-1)) 3 49 := ⟨eg_X8_takes_32.2.1, rfl⟩
theorem d_X8_takes_49 : zDj m_X8_takes 49 (.goto) 52 18 := ⟨-31, eg_X8_takes_32.2.2.1, rfl, by decide⟩
theorem d_X8_takes_52 : zD m_X8_takes 52 (.aload_n 0) 1 53 := ⟨eg_X8_takes_32.2.2.2.1, rfl⟩
theorem d_X8_takes_53 : zD m_X8_takes 53 (.getfield 7) 3 56 := ⟨eg_X8_takes_32.2.2.2.2.1, rfl⟩
theorem d_X8_takes_56 : zD m_X8_takes 56 (.iload_n 1) 1 57 := ⟨eg_X8_takes_32.2.2.2.2.2.1, rfl⟩
theorem d_X8_takes_57 : zD m_X8_takes 57 (.bipush 48) 2 59 := ⟨eg_X8_takes_32.2.2.2.2.2.2.1, rfl⟩
theorem d_X8_takes_59 : zD m_X8_takes 59 (.iadd) 1 60 := ⟨eg_X8_takes_32.2.2.2.2.2.2.2, rfl⟩
theorem d_X8_takes_60 : zD m_X8_takes 60 (.iconst 0) 1 61 := ⟨eg_X8_takes_40.1, rfl⟩
theorem d_X8_takes_61 : zD m_X8_takes 61 (.iastore) 1 62 := ⟨eg_X8_takes_40.2.1, rfl⟩
theorem d_X8_takes_62 : zD m_X8_takes 62 (.aload_n 0) 1 63 := ⟨eg_X8_takes_40.2.2.1, rfl⟩
theorem d_X8_takes_63 : zD m_X8_takes 63 (.iload_n 1) 1 64 := ⟨eg_X8_takes_40.2.2.2.1, rfl⟩
theorem d_X8_takes_64 : zD m_X8_takes 64 (.iconst 1) 1 65 := ⟨eg_X8_takes_40.2.2.2.2.1, rfl⟩
theorem d_X8_takes_65 : zD m_X8_takes 65 (.iload_n 2) 1 66 := ⟨eg_X8_takes_40.2.2.2.2.2.1, rfl⟩
theorem d_X8_takes_66 : zD m_X8_takes 66 (.invokevirtual 198) 3 69 := ⟨eg_X8_takes_40.2.2.2.2.2.2.1, rfl⟩
theorem d_X8_takes_69 : zD m_X8_takes 69 (.iload_n 2) 1 70 := ⟨eg_X8_takes_40.2.2.2.2.2.2.2, rfl⟩
theorem d_X8_takes_70 : decode (zcc m_X8_takes) 70 = .ok (.ireturn, 1) := eg_X8_takes_48
set_option maxRecDepth 20000 in
theorem eg_X8_shadeOf_0 : decode (zcc m_X8_shadeOf) 0 = .ok (.sipush 255, 3) ∧ decode (zcc m_X8_shadeOf) 3 = .ok (.iload_n 1, 1) ∧ decode (zcc m_X8_shadeOf) 4 = .ok (.aload_n 0, 1) ∧ decode (zcc m_X8_shadeOf) 5 = .ok (.getfield 21, 3) ∧ decode (zcc m_X8_shadeOf) 8 = .ok (.iconst 4, 1) ∧ decode (zcc m_X8_shadeOf) 9 = .ok (.iaload, 1) ∧ decode (zcc m_X8_shadeOf) 10 = .ok (.imul, 1) ∧ decode (zcc m_X8_shadeOf) 11 = .ok (.aload_n 0, 1) := by decide +kernel
set_option maxRecDepth 20000 in
theorem eg_X8_shadeOf_8 : decode (zcc m_X8_shadeOf) 12 = .ok (.getfield 21, 3) ∧ decode (zcc m_X8_shadeOf) 15 = .ok (.iconst 5, 1) ∧ decode (zcc m_X8_shadeOf) 16 = .ok (.iaload, 1) ∧ decode (zcc m_X8_shadeOf) 17 = .ok (.idiv, 1) ∧ decode (zcc m_X8_shadeOf) 18 = .ok (.invokestatic 191, 3) ∧ decode (zcc m_X8_shadeOf) 21 = .ok (.ireturn, 1) := by decide +kernel
theorem d_X8_shadeOf_0 : zD m_X8_shadeOf 0 (.sipush 255) 3 3 := ⟨eg_X8_shadeOf_0.1, rfl⟩
theorem d_X8_shadeOf_3 : zD m_X8_shadeOf 3 (.iload_n 1) 1 4 := ⟨eg_X8_shadeOf_0.2.1, rfl⟩
theorem d_X8_shadeOf_4 : zD m_X8_shadeOf 4 (.aload_n 0) 1 5 := ⟨eg_X8_shadeOf_0.2.2.1, rfl⟩
theorem d_X8_shadeOf_5 : zD m_X8_shadeOf 5 (.getfield 21) 3 8 := ⟨eg_X8_shadeOf_0.2.2.2.1, rfl⟩
theorem d_X8_shadeOf_8 : zD m_X8_shadeOf 8 (.iconst 4) 1 9 := ⟨eg_X8_shadeOf_0.2.2.2.2.1, rfl⟩
theorem d_X8_shadeOf_9 : zD m_X8_shadeOf 9 (.iaload) 1 10 := ⟨eg_X8_shadeOf_0.2.2.2.2.2.1, rfl⟩
theorem d_X8_shadeOf_10 : zD m_X8_shadeOf 10 (.imul) 1 11 := ⟨eg_X8_shadeOf_0.2.2.2.2.2.2.1, rfl⟩
theorem d_X8_shadeOf_11 : zD m_X8_shadeOf 11 (.aload_n 0) 1 12 := ⟨eg_X8_shadeOf_0.2.2.2.2.2.2.2, rfl⟩
theorem d_X8_shadeOf_12 : zD m_X8_shadeOf 12 (.getfield 21) 3 15 := ⟨eg_X8_shadeOf_8.1, rfl⟩
theorem d_X8_shadeOf_15 : zD m_X8_shadeOf 15 (.iconst 5) 1 16 := ⟨eg_X8_shadeOf_8.2.1, rfl⟩
theorem d_X8_shadeOf_16 : zD m_X8_shadeOf 16 (.iaload) 1 17 := ⟨eg_X8_shadeOf_8.2.2.1, rfl⟩
theorem d_X8_shadeOf_17 : zD m_X8_shadeOf 17 (.idiv) 1 18 := ⟨eg_X8_shadeOf_8.2.2.2.1, rfl⟩
theorem d_X8_shadeOf_18 : zD m_X8_shadeOf 18 (.invokestatic 191) 3 21 := ⟨eg_X8_shadeOf_8.2.2.2.2.1, rfl⟩
theorem d_X8_shadeOf_21 : decode (zcc m_X8_shadeOf) 21 = .ok (.ireturn, 1) := eg_X8_shadeOf_8.2.2.2.2.2
set_option maxRecDepth 20000 in
theorem eg_X8_read_0 : decode (zcc m_X8_read) 0 = .ok (.aload_n 0, 1) ∧ decode (zcc m_X8_read) 1 = .ok (.aload_n 0, 1) ∧ decode (zcc m_X8_read) 2 = .ok (.iconst 0, 1) ∧ decode (zcc m_X8_read) 3 = .ok (.invokevirtual 229, 3) ∧ decode (zcc m_X8_read) 6 = .ok (.invokevirtual 232, 3) ∧ decode (zcc m_X8_read) 9 = .ok (.ireturn, 1) := by decide +kernel
theorem d_X8_read_0 : zD m_X8_read 0 (.aload_n 0) 1 1 := ⟨eg_X8_read_0.1, rfl⟩
theorem d_X8_read_1 : zD m_X8_read 1 (.aload_n 0) 1 2 := ⟨eg_X8_read_0.2.1, rfl⟩
theorem d_X8_read_2 : zD m_X8_read 2 (.iconst 0) 1 3 := ⟨eg_X8_read_0.2.2.1, rfl⟩
theorem d_X8_read_3 : zD m_X8_read 3 (.invokevirtual 229) 3 6 := ⟨eg_X8_read_0.2.2.2.1, rfl⟩
theorem d_X8_read_6 : zD m_X8_read 6 (.invokevirtual 232) 3 9 := ⟨eg_X8_read_0.2.2.2.2.1, rfl⟩
theorem d_X8_read_9 : decode (zcc m_X8_read) 9 = .ok (.ireturn, 1) := eg_X8_read_0.2.2.2.2.2
set_option maxRecDepth 20000 in
theorem eg_X8_line_0 : decode (zcc m_X8_line) 0 = .ok (.iload_n 1, 1) ∧ decode (zcc m_X8_line) 1 = .ok (.i2l, 1) ∧ decode (zcc m_X8_line) 2 = .ok (.lconst 0, 1) ∧ decode (zcc m_X8_line) 3 = .ok (.ldc2_w 235, 3) ∧ decode (zcc m_X8_line) 6 = .ok (.invokestatic 92, 3) ∧ decode (zcc m_X8_line) 9 = .ok (.ifCond .eq (15), 3) ∧ decode (zcc m_X8_line) 12 = .ok (.aload_n 0, 1) ∧ decode (zcc m_X8_line) 13 = .ok (.getfield 7, 3) := by decide +kernel
set_option maxRecDepth 20000 in
theorem eg_X8_line_8 : decode (zcc m_X8_line) 16 = .ok (.bipush 48, 2) ∧ decode (zcc m_X8_line) 18 = .ok (.iload_n 1, 1) ∧ decode (zcc m_X8_line) 19 = .ok (.iadd, 1) ∧ decode (zcc m_X8_line) 20 = .ok (.iaload, 1) ∧ decode (zcc m_X8_line) 21 = .ok (.goto (4), 3) ∧ decode (zcc m_X8_line) 24 = .ok (.iconst (-1), 1) ∧ decode (zcc m_X8_line) 25 = .ok (.ireturn, 1) := by decide +kernel
theorem d_X8_line_0 : zD m_X8_line 0 (.iload_n 1) 1 1 := ⟨eg_X8_line_0.1, rfl⟩
theorem d_X8_line_1 : zD m_X8_line 1 (.i2l) 1 2 := ⟨eg_X8_line_0.2.1, rfl⟩
theorem d_X8_line_2 : zD m_X8_line 2 (.lconst 0) 1 3 := ⟨eg_X8_line_0.2.2.1, rfl⟩
theorem d_X8_line_3 : zD m_X8_line 3 (.ldc2_w 235) 3 6 := ⟨eg_X8_line_0.2.2.2.1, rfl⟩
theorem d_X8_line_6 : zD m_X8_line 6 (.invokestatic 92) 3 9 := ⟨eg_X8_line_0.2.2.2.2.1, rfl⟩
theorem d_X8_line_9 : zDj m_X8_line 9 (.ifCond .eq) 12 24 := ⟨15, eg_X8_line_0.2.2.2.2.2.1, rfl, by decide⟩
theorem d_X8_line_12 : zD m_X8_line 12 (.aload_n 0) 1 13 := ⟨eg_X8_line_0.2.2.2.2.2.2.1, rfl⟩
theorem d_X8_line_13 : zD m_X8_line 13 (.getfield 7) 3 16 := ⟨eg_X8_line_0.2.2.2.2.2.2.2, rfl⟩
theorem d_X8_line_16 : zD m_X8_line 16 (.bipush 48) 2 18 := ⟨eg_X8_line_8.1, rfl⟩
theorem d_X8_line_18 : zD m_X8_line 18 (.iload_n 1) 1 19 := ⟨eg_X8_line_8.2.1, rfl⟩
theorem d_X8_line_19 : zD m_X8_line 19 (.iadd) 1 20 := ⟨eg_X8_line_8.2.2.1, rfl⟩
theorem d_X8_line_20 : zD m_X8_line 20 (.iaload) 1 21 := ⟨eg_X8_line_8.2.2.2.1, rfl⟩
theorem d_X8_line_21 : zDj m_X8_line 21 (.goto) 24 25 := ⟨4, eg_X8_line_8.2.2.2.2.1, rfl, by decide⟩
theorem d_X8_line_24 : zD m_X8_line 24 (.iconst (-1)) 1 25 := ⟨eg_X8_line_8.2.2.2.2.2.1, rfl⟩
theorem d_X8_line_25 : decode (zcc m_X8_line) 25 = .ok (.ireturn, 1) := eg_X8_line_8.2.2.2.2.2.2
set_option maxRecDepth 20000 in
theorem eg_X8_now_0 : decode (zcc m_X8_now) 0 = .ok (.iconst 0, 1) ∧ decode (zcc m_X8_now) 1 = .ok (.istore_n 2, 1) ∧ decode (zcc m_X8_now) 2 = .ok (.iconst 0, 1) ∧ decode (zcc m_X8_now) 3 = .ok (.istore_n 3, 1) ∧ decode (zcc m_X8_now) 4 = .ok (.iload_n 3, 1) ∧ decode (zcc m_X8_now) 5 = .ok (.bipush 48, 2) ∧ decode (zcc m_X8_now) 7 = .ok (.if_icmp .ge (35), 3) ∧ decode (zcc m_X8_now) 10 = .ok (.iload_n 2, 1) := by decide +kernel
set_option maxRecDepth 20000 in
theorem eg_X8_now_8 : decode (zcc m_X8_now) 11 = .ok (.aload_n 0, 1) ∧ decode (zcc m_X8_now) 12 = .ok (.getfield 7, 3) ∧ decode (zcc m_X8_now) 15 = .ok (.iload_n 3, 1) ∧ decode (zcc m_X8_now) 16 = .ok (.iaload, 1) ∧ decode (zcc m_X8_now) 17 = .ok (.aload_n 0, 1) ∧ decode (zcc m_X8_now) 18 = .ok (.getfield 21, 3) ∧ decode (zcc m_X8_now) 21 = .ok (.iconst 0, 1) ∧ decode (zcc m_X8_now) 22 = .ok (.iaload, 1) := by decide +kernel
set_option maxRecDepth 20000 in
theorem eg_X8_now_16 : decode (zcc m_X8_now) 23 = .ok (.if_icmp .lt (7), 3) ∧ decode (zcc m_X8_now) 26 = .ok (.iconst 1, 1) ∧ decode (zcc m_X8_now) 27 = .ok (.goto (4), 3) ∧ decode (zcc m_X8_now) 30 = .ok (.iconst 0, 1) ∧ decode (zcc m_X8_now) 31 = .ok (.invokestatic 237, 3) ∧ decode (zcc m_X8_now) 34 = .ok (.iadd, 1) ∧ decode (zcc m_X8_now) 35 = .ok (.istore_n 2, 1) ∧ decode (zcc m_X8_now) 36 = .ok (.iinc 3 1, 3) := by decide +kernel
set_option maxRecDepth 20000 in
theorem eg_X8_now_24 : decode (zcc m_X8_now) 39 = .ok (.goto (-35), 3) ∧ decode (zcc m_X8_now) 42 = .ok (.iload_n 1, 1) ∧ decode (zcc m_X8_now) 43 = .ok (.tableswitch 91 0 6 #[41, 50, 57, 67, 74, 81, 84], 41) ∧ decode (zcc m_X8_now) 84 = .ok (.aload_n 0, 1) ∧ decode (zcc m_X8_now) 85 = .ok (.iconst 0, 1) ∧ decode (zcc m_X8_now) 86 = .ok (.bipush 48, 2) ∧ decode (zcc m_X8_now) 88 = .ok (.invokevirtual 213, 3) ∧ decode (zcc m_X8_now) 91 = .ok (.i2l, 1) := by decide +kernel
set_option maxRecDepth 20000 in
theorem eg_X8_now_32 : decode (zcc m_X8_now) 92 = .ok (.lreturn, 1) ∧ decode (zcc m_X8_now) 93 = .ok (.aload_n 0, 1) ∧ decode (zcc m_X8_now) 94 = .ok (.iconst 0, 1) ∧ decode (zcc m_X8_now) 95 = .ok (.invokevirtual 226, 3) ∧ decode (zcc m_X8_now) 98 = .ok (.i2l, 1) ∧ decode (zcc m_X8_now) 99 = .ok (.lreturn, 1) ∧ decode (zcc m_X8_now) 100 = .ok (.aload_n 0, 1) ∧ decode (zcc m_X8_now) 101 = .ok (.bipush 56, 2) := by decide +kernel
set_option maxRecDepth 20000 in
theorem eg_X8_now_40 : decode (zcc m_X8_now) 103 = .ok (.bipush 48, 2) ∧ decode (zcc m_X8_now) 105 = .ok (.invokevirtual 213, 3) ∧ decode (zcc m_X8_now) 108 = .ok (.i2l, 1) ∧ decode (zcc m_X8_now) 109 = .ok (.lreturn, 1) ∧ decode (zcc m_X8_now) 110 = .ok (.aload_n 0, 1) ∧ decode (zcc m_X8_now) 111 = .ok (.getfield 13, 3) ∧ decode (zcc m_X8_now) 114 = .ok (.iconst 0, 1) ∧ decode (zcc m_X8_now) 115 = .ok (.laload, 1) := by decide +kernel
set_option maxRecDepth 20000 in
theorem eg_X8_now_48 : decode (zcc m_X8_now) 116 = .ok (.lreturn, 1) ∧ decode (zcc m_X8_now) 117 = .ok (.aload_n 0, 1) ∧ decode (zcc m_X8_now) 118 = .ok (.getfield 13, 3) ∧ decode (zcc m_X8_now) 121 = .ok (.iconst 1, 1) ∧ decode (zcc m_X8_now) 122 = .ok (.laload, 1) ∧ decode (zcc m_X8_now) 123 = .ok (.lreturn, 1) ∧ decode (zcc m_X8_now) 124 = .ok (.iload_n 2, 1) ∧ decode (zcc m_X8_now) 125 = .ok (.i2l, 1) := by decide +kernel
set_option maxRecDepth 20000 in
theorem eg_X8_now_56 : decode (zcc m_X8_now) 126 = .ok (.lreturn, 1) ∧ decode (zcc m_X8_now) 127 = .ok (.aload_n 0, 1) ∧ decode (zcc m_X8_now) 128 = .ok (.getfield 13, 3) ∧ decode (zcc m_X8_now) 131 = .ok (.iconst 2, 1) ∧ decode (zcc m_X8_now) 132 = .ok (.laload, 1) ∧ decode (zcc m_X8_now) 133 = .ok (.lreturn, 1) ∧ decode (zcc m_X8_now) 134 = .ok (.ldc2_w 241, 3) ∧ decode (zcc m_X8_now) 137 = .ok (.lreturn, 1) := by decide +kernel
theorem d_X8_now_0 : zD m_X8_now 0 (.iconst 0) 1 1 := ⟨eg_X8_now_0.1, rfl⟩
theorem d_X8_now_1 : zD m_X8_now 1 (.istore_n 2) 1 2 := ⟨eg_X8_now_0.2.1, rfl⟩
theorem d_X8_now_2 : zD m_X8_now 2 (.iconst 0) 1 3 := ⟨eg_X8_now_0.2.2.1, rfl⟩
theorem d_X8_now_3 : zD m_X8_now 3 (.istore_n 3) 1 4 := ⟨eg_X8_now_0.2.2.2.1, rfl⟩
theorem d_X8_now_4 : zD m_X8_now 4 (.iload_n 3) 1 5 := ⟨eg_X8_now_0.2.2.2.2.1, rfl⟩
theorem d_X8_now_5 : zD m_X8_now 5 (.bipush 48) 2 7 := ⟨eg_X8_now_0.2.2.2.2.2.1, rfl⟩
theorem d_X8_now_7 : zDj m_X8_now 7 (.if_icmp .ge) 10 42 := ⟨35, eg_X8_now_0.2.2.2.2.2.2.1, rfl, by decide⟩
theorem d_X8_now_10 : zD m_X8_now 10 (.iload_n 2) 1 11 := ⟨eg_X8_now_0.2.2.2.2.2.2.2, rfl⟩
theorem d_X8_now_11 : zD m_X8_now 11 (.aload_n 0) 1 12 := ⟨eg_X8_now_8.1, rfl⟩
theorem d_X8_now_12 : zD m_X8_now 12 (.getfield 7) 3 15 := ⟨eg_X8_now_8.2.1, rfl⟩
theorem d_X8_now_15 : zD m_X8_now 15 (.iload_n 3) 1 16 := ⟨eg_X8_now_8.2.2.1, rfl⟩
theorem d_X8_now_16 : zD m_X8_now 16 (.iaload) 1 17 := ⟨eg_X8_now_8.2.2.2.1, rfl⟩
theorem d_X8_now_17 : zD m_X8_now 17 (.aload_n 0) 1 18 := ⟨eg_X8_now_8.2.2.2.2.1, rfl⟩
theorem d_X8_now_18 : zD m_X8_now 18 (.getfield 21) 3 21 := ⟨eg_X8_now_8.2.2.2.2.2.1, rfl⟩
theorem d_X8_now_21 : zD m_X8_now 21 (.iconst 0) 1 22 := ⟨eg_X8_now_8.2.2.2.2.2.2.1, rfl⟩
theorem d_X8_now_22 : zD m_X8_now 22 (.iaload) 1 23 := ⟨eg_X8_now_8.2.2.2.2.2.2.2, rfl⟩
theorem d_X8_now_23 : zDj m_X8_now 23 (.if_icmp .lt) 26 30 := ⟨7, eg_X8_now_16.1, rfl, by decide⟩
theorem d_X8_now_26 : zD m_X8_now 26 (.iconst 1) 1 27 := ⟨eg_X8_now_16.2.1, rfl⟩
theorem d_X8_now_27 : zDj m_X8_now 27 (.goto) 30 31 := ⟨4, eg_X8_now_16.2.2.1, rfl, by decide⟩
theorem d_X8_now_30 : zD m_X8_now 30 (.iconst 0) 1 31 := ⟨eg_X8_now_16.2.2.2.1, rfl⟩
theorem d_X8_now_31 : zD m_X8_now 31 (.invokestatic 237) 3 34 := ⟨eg_X8_now_16.2.2.2.2.1, rfl⟩
theorem d_X8_now_34 : zD m_X8_now 34 (.iadd) 1 35 := ⟨eg_X8_now_16.2.2.2.2.2.1, rfl⟩
theorem d_X8_now_35 : zD m_X8_now 35 (.istore_n 2) 1 36 := ⟨eg_X8_now_16.2.2.2.2.2.2.1, rfl⟩
theorem d_X8_now_36 : zD m_X8_now 36 (.iinc 3 1) 3 39 := ⟨eg_X8_now_16.2.2.2.2.2.2.2, rfl⟩
theorem d_X8_now_39 : zDj m_X8_now 39 (.goto) 42 4 := ⟨-35, eg_X8_now_24.1, rfl, by decide⟩
theorem d_X8_now_42 : zD m_X8_now 42 (.iload_n 1) 1 43 := ⟨eg_X8_now_24.2.1, rfl⟩
theorem d_X8_now_43 : decode (zcc m_X8_now) 43 = .ok (.tableswitch 91 0 6 #[41, 50, 57, 67, 74, 81, 84], 41) := eg_X8_now_24.2.2.1
theorem d_X8_now_84 : zD m_X8_now 84 (.aload_n 0) 1 85 := ⟨eg_X8_now_24.2.2.2.1, rfl⟩
theorem d_X8_now_85 : zD m_X8_now 85 (.iconst 0) 1 86 := ⟨eg_X8_now_24.2.2.2.2.1, rfl⟩
theorem d_X8_now_86 : zD m_X8_now 86 (.bipush 48) 2 88 := ⟨eg_X8_now_24.2.2.2.2.2.1, rfl⟩
theorem d_X8_now_88 : zD m_X8_now 88 (.invokevirtual 213) 3 91 := ⟨eg_X8_now_24.2.2.2.2.2.2.1, rfl⟩
theorem d_X8_now_91 : zD m_X8_now 91 (.i2l) 1 92 := ⟨eg_X8_now_24.2.2.2.2.2.2.2, rfl⟩
theorem d_X8_now_92 : decode (zcc m_X8_now) 92 = .ok (.lreturn, 1) := eg_X8_now_32.1
theorem d_X8_now_93 : zD m_X8_now 93 (.aload_n 0) 1 94 := ⟨eg_X8_now_32.2.1, rfl⟩
theorem d_X8_now_94 : zD m_X8_now 94 (.iconst 0) 1 95 := ⟨eg_X8_now_32.2.2.1, rfl⟩
theorem d_X8_now_95 : zD m_X8_now 95 (.invokevirtual 226) 3 98 := ⟨eg_X8_now_32.2.2.2.1, rfl⟩
theorem d_X8_now_98 : zD m_X8_now 98 (.i2l) 1 99 := ⟨eg_X8_now_32.2.2.2.2.1, rfl⟩
theorem d_X8_now_99 : decode (zcc m_X8_now) 99 = .ok (.lreturn, 1) := eg_X8_now_32.2.2.2.2.2.1
theorem d_X8_now_100 : zD m_X8_now 100 (.aload_n 0) 1 101 := ⟨eg_X8_now_32.2.2.2.2.2.2.1, rfl⟩
theorem d_X8_now_101 : zD m_X8_now 101 (.bipush 56) 2 103 := ⟨eg_X8_now_32.2.2.2.2.2.2.2, rfl⟩
theorem d_X8_now_103 : zD m_X8_now 103 (.bipush 48) 2 105 := ⟨eg_X8_now_40.1, rfl⟩
theorem d_X8_now_105 : zD m_X8_now 105 (.invokevirtual 213) 3 108 := ⟨eg_X8_now_40.2.1, rfl⟩
theorem d_X8_now_108 : zD m_X8_now 108 (.i2l) 1 109 := ⟨eg_X8_now_40.2.2.1, rfl⟩
theorem d_X8_now_109 : decode (zcc m_X8_now) 109 = .ok (.lreturn, 1) := eg_X8_now_40.2.2.2.1
theorem d_X8_now_110 : zD m_X8_now 110 (.aload_n 0) 1 111 := ⟨eg_X8_now_40.2.2.2.2.1, rfl⟩
theorem d_X8_now_111 : zD m_X8_now 111 (.getfield 13) 3 114 := ⟨eg_X8_now_40.2.2.2.2.2.1, rfl⟩
theorem d_X8_now_114 : zD m_X8_now 114 (.iconst 0) 1 115 := ⟨eg_X8_now_40.2.2.2.2.2.2.1, rfl⟩
theorem d_X8_now_115 : zD m_X8_now 115 (.laload) 1 116 := ⟨eg_X8_now_40.2.2.2.2.2.2.2, rfl⟩
theorem d_X8_now_116 : decode (zcc m_X8_now) 116 = .ok (.lreturn, 1) := eg_X8_now_48.1
theorem d_X8_now_117 : zD m_X8_now 117 (.aload_n 0) 1 118 := ⟨eg_X8_now_48.2.1, rfl⟩
theorem d_X8_now_118 : zD m_X8_now 118 (.getfield 13) 3 121 := ⟨eg_X8_now_48.2.2.1, rfl⟩
theorem d_X8_now_121 : zD m_X8_now 121 (.iconst 1) 1 122 := ⟨eg_X8_now_48.2.2.2.1, rfl⟩
theorem d_X8_now_122 : zD m_X8_now 122 (.laload) 1 123 := ⟨eg_X8_now_48.2.2.2.2.1, rfl⟩
theorem d_X8_now_123 : decode (zcc m_X8_now) 123 = .ok (.lreturn, 1) := eg_X8_now_48.2.2.2.2.2.1
theorem d_X8_now_124 : zD m_X8_now 124 (.iload_n 2) 1 125 := ⟨eg_X8_now_48.2.2.2.2.2.2.1, rfl⟩
theorem d_X8_now_125 : zD m_X8_now 125 (.i2l) 1 126 := ⟨eg_X8_now_48.2.2.2.2.2.2.2, rfl⟩
theorem d_X8_now_126 : decode (zcc m_X8_now) 126 = .ok (.lreturn, 1) := eg_X8_now_56.1
theorem d_X8_now_127 : zD m_X8_now 127 (.aload_n 0) 1 128 := ⟨eg_X8_now_56.2.1, rfl⟩
theorem d_X8_now_128 : zD m_X8_now 128 (.getfield 13) 3 131 := ⟨eg_X8_now_56.2.2.1, rfl⟩
theorem d_X8_now_131 : zD m_X8_now 131 (.iconst 2) 1 132 := ⟨eg_X8_now_56.2.2.2.1, rfl⟩
theorem d_X8_now_132 : zD m_X8_now 132 (.laload) 1 133 := ⟨eg_X8_now_56.2.2.2.2.1, rfl⟩
theorem d_X8_now_133 : decode (zcc m_X8_now) 133 = .ok (.lreturn, 1) := eg_X8_now_56.2.2.2.2.2.1
theorem d_X8_now_134 : zD m_X8_now 134 (.ldc2_w 241) 3 137 := ⟨eg_X8_now_56.2.2.2.2.2.2.1, rfl⟩
theorem d_X8_now_137 : decode (zcc m_X8_now) 137 = .ok (.lreturn, 1) := eg_X8_now_56.2.2.2.2.2.2.2
set_option maxRecDepth 20000 in
theorem eg_X8_clear_0 : decode (zcc m_X8_clear) 0 = .ok (.aload_n 0, 1) ∧ decode (zcc m_X8_clear) 1 = .ok (.iconst 0, 1) ∧ decode (zcc m_X8_clear) 2 = .ok (.bipush 104, 2) ∧ decode (zcc m_X8_clear) 4 = .ok (.invokevirtual 213, 3) ∧ decode (zcc m_X8_clear) 7 = .ok (.istore_n 1, 1) ∧ decode (zcc m_X8_clear) 8 = .ok (.iconst 0, 1) ∧ decode (zcc m_X8_clear) 9 = .ok (.istore_n 2, 1) ∧ decode (zcc m_X8_clear) 10 = .ok (.iload_n 2, 1) := by decide +kernel
set_option maxRecDepth 20000 in
theorem eg_X8_clear_8 : decode (zcc m_X8_clear) 11 = .ok (.sipush 160, 3) ∧ decode (zcc m_X8_clear) 14 = .ok (.if_icmp .ge (39), 3) ∧ decode (zcc m_X8_clear) 17 = .ok (.aload_n 0, 1) ∧ decode (zcc m_X8_clear) 18 = .ok (.getfield 7, 3) ∧ decode (zcc m_X8_clear) 21 = .ok (.iload_n 2, 1) ∧ decode (zcc m_X8_clear) 22 = .ok (.iload_n 2, 1) ∧ decode (zcc m_X8_clear) 23 = .ok (.i2l, 1) ∧ decode (zcc m_X8_clear) 24 = .ok (.ldc2_w 88, 3) := by decide +kernel
set_option maxRecDepth 20000 in
theorem eg_X8_clear_16 : decode (zcc m_X8_clear) 27 = .ok (.ldc2_w 90, 3) ∧ decode (zcc m_X8_clear) 30 = .ok (.invokestatic 92, 3) ∧ decode (zcc m_X8_clear) 33 = .ok (.ifCond .eq (12), 3) ∧ decode (zcc m_X8_clear) 36 = .ok (.aload_n 0, 1) ∧ decode (zcc m_X8_clear) 37 = .ok (.getfield 7, 3) ∧ decode (zcc m_X8_clear) 40 = .ok (.iload_n 2, 1) ∧ decode (zcc m_X8_clear) 41 = .ok (.iaload, 1) ∧ decode (zcc m_X8_clear) 42 = .ok (.goto (4), 3) := by decide +kernel
set_option maxRecDepth 20000 in
theorem eg_X8_clear_24 : decode (zcc m_X8_clear) 45 = .ok (.iconst 0, 1) ∧ decode (zcc m_X8_clear) 46 = .ok (.iastore, 1) ∧ decode (zcc m_X8_clear) 47 = .ok (.iinc 2 1, 3) ∧ decode (zcc m_X8_clear) 50 = .ok (.goto (-40), 3) ∧ decode (zcc m_X8_clear) 53 = .ok (.aload_n 0, 1) ∧ decode (zcc m_X8_clear) 54 = .ok (.invokevirtual 96, 3) ∧ decode (zcc m_X8_clear) 57 = .ok (.iload_n 1, 1) ∧ decode (zcc m_X8_clear) 58 = .ok (.ireturn, 1) := by decide +kernel
theorem d_X8_clear_0 : zD m_X8_clear 0 (.aload_n 0) 1 1 := ⟨eg_X8_clear_0.1, rfl⟩
theorem d_X8_clear_1 : zD m_X8_clear 1 (.iconst 0) 1 2 := ⟨eg_X8_clear_0.2.1, rfl⟩
theorem d_X8_clear_2 : zD m_X8_clear 2 (.bipush 104) 2 4 := ⟨eg_X8_clear_0.2.2.1, rfl⟩
theorem d_X8_clear_4 : zD m_X8_clear 4 (.invokevirtual 213) 3 7 := ⟨eg_X8_clear_0.2.2.2.1, rfl⟩
theorem d_X8_clear_7 : zD m_X8_clear 7 (.istore_n 1) 1 8 := ⟨eg_X8_clear_0.2.2.2.2.1, rfl⟩
theorem d_X8_clear_8 : zD m_X8_clear 8 (.iconst 0) 1 9 := ⟨eg_X8_clear_0.2.2.2.2.2.1, rfl⟩
theorem d_X8_clear_9 : zD m_X8_clear 9 (.istore_n 2) 1 10 := ⟨eg_X8_clear_0.2.2.2.2.2.2.1, rfl⟩
theorem d_X8_clear_10 : zD m_X8_clear 10 (.iload_n 2) 1 11 := ⟨eg_X8_clear_0.2.2.2.2.2.2.2, rfl⟩
theorem d_X8_clear_11 : zD m_X8_clear 11 (.sipush 160) 3 14 := ⟨eg_X8_clear_8.1, rfl⟩
theorem d_X8_clear_14 : zDj m_X8_clear 14 (.if_icmp .ge) 17 53 := ⟨39, eg_X8_clear_8.2.1, rfl, by decide⟩
theorem d_X8_clear_17 : zD m_X8_clear 17 (.aload_n 0) 1 18 := ⟨eg_X8_clear_8.2.2.1, rfl⟩
theorem d_X8_clear_18 : zD m_X8_clear 18 (.getfield 7) 3 21 := ⟨eg_X8_clear_8.2.2.2.1, rfl⟩
theorem d_X8_clear_21 : zD m_X8_clear 21 (.iload_n 2) 1 22 := ⟨eg_X8_clear_8.2.2.2.2.1, rfl⟩
theorem d_X8_clear_22 : zD m_X8_clear 22 (.iload_n 2) 1 23 := ⟨eg_X8_clear_8.2.2.2.2.2.1, rfl⟩
theorem d_X8_clear_23 : zD m_X8_clear 23 (.i2l) 1 24 := ⟨eg_X8_clear_8.2.2.2.2.2.2.1, rfl⟩
theorem d_X8_clear_24 : zD m_X8_clear 24 (.ldc2_w 88) 3 27 := ⟨eg_X8_clear_8.2.2.2.2.2.2.2, rfl⟩
theorem d_X8_clear_27 : zD m_X8_clear 27 (.ldc2_w 90) 3 30 := ⟨eg_X8_clear_16.1, rfl⟩
theorem d_X8_clear_30 : zD m_X8_clear 30 (.invokestatic 92) 3 33 := ⟨eg_X8_clear_16.2.1, rfl⟩
theorem d_X8_clear_33 : zDj m_X8_clear 33 (.ifCond .eq) 36 45 := ⟨12, eg_X8_clear_16.2.2.1, rfl, by decide⟩
theorem d_X8_clear_36 : zD m_X8_clear 36 (.aload_n 0) 1 37 := ⟨eg_X8_clear_16.2.2.2.1, rfl⟩
theorem d_X8_clear_37 : zD m_X8_clear 37 (.getfield 7) 3 40 := ⟨eg_X8_clear_16.2.2.2.2.1, rfl⟩
theorem d_X8_clear_40 : zD m_X8_clear 40 (.iload_n 2) 1 41 := ⟨eg_X8_clear_16.2.2.2.2.2.1, rfl⟩
theorem d_X8_clear_41 : zD m_X8_clear 41 (.iaload) 1 42 := ⟨eg_X8_clear_16.2.2.2.2.2.2.1, rfl⟩
theorem d_X8_clear_42 : zDj m_X8_clear 42 (.goto) 45 46 := ⟨4, eg_X8_clear_16.2.2.2.2.2.2.2, rfl, by decide⟩
theorem d_X8_clear_45 : zD m_X8_clear 45 (.iconst 0) 1 46 := ⟨eg_X8_clear_24.1, rfl⟩
theorem d_X8_clear_46 : zD m_X8_clear 46 (.iastore) 1 47 := ⟨eg_X8_clear_24.2.1, rfl⟩
theorem d_X8_clear_47 : zD m_X8_clear 47 (.iinc 2 1) 3 50 := ⟨eg_X8_clear_24.2.2.1, rfl⟩
theorem d_X8_clear_50 : zDj m_X8_clear 50 (.goto) 53 10 := ⟨-40, eg_X8_clear_24.2.2.2.1, rfl, by decide⟩
theorem d_X8_clear_53 : zD m_X8_clear 53 (.aload_n 0) 1 54 := ⟨eg_X8_clear_24.2.2.2.2.1, rfl⟩
theorem d_X8_clear_54 : zD m_X8_clear 54 (.invokevirtual 96) 3 57 := ⟨eg_X8_clear_24.2.2.2.2.2.1, rfl⟩
theorem d_X8_clear_57 : zD m_X8_clear 57 (.iload_n 1) 1 58 := ⟨eg_X8_clear_24.2.2.2.2.2.2.1, rfl⟩
theorem d_X8_clear_58 : decode (zcc m_X8_clear) 58 = .ok (.ireturn, 1) := eg_X8_clear_24.2.2.2.2.2.2.2
set_option maxRecDepth 20000 in
theorem eg_X8_copies_0 : decode (zcc m_X8_copies) 0 = .ok (.iconst 0, 1) ∧ decode (zcc m_X8_copies) 1 = .ok (.istore_n 3, 1) ∧ decode (zcc m_X8_copies) 2 = .ok (.iload_n 3, 1) ∧ decode (zcc m_X8_copies) 3 = .ok (.sipush 160, 3) ∧ decode (zcc m_X8_copies) 6 = .ok (.if_icmp .ge (25), 3) ∧ decode (zcc m_X8_copies) 9 = .ok (.aload_n 0, 1) ∧ decode (zcc m_X8_copies) 10 = .ok (.getfield 7, 3) ∧ decode (zcc m_X8_copies) 13 = .ok (.iload_n 1, 1) := by decide +kernel
set_option maxRecDepth 20000 in
theorem eg_X8_copies_8 : decode (zcc m_X8_copies) 14 = .ok (.iload_n 3, 1) ∧ decode (zcc m_X8_copies) 15 = .ok (.iadd, 1) ∧ decode (zcc m_X8_copies) 16 = .ok (.aload_n 0, 1) ∧ decode (zcc m_X8_copies) 17 = .ok (.getfield 7, 3) ∧ decode (zcc m_X8_copies) 20 = .ok (.iload_n 2, 1) ∧ decode (zcc m_X8_copies) 21 = .ok (.iload_n 3, 1) ∧ decode (zcc m_X8_copies) 22 = .ok (.iadd, 1) ∧ decode (zcc m_X8_copies) 23 = .ok (.iaload, 1) := by decide +kernel
set_option maxRecDepth 20000 in
theorem eg_X8_copies_16 : decode (zcc m_X8_copies) 24 = .ok (.iastore, 1) ∧ decode (zcc m_X8_copies) 25 = .ok (.iinc 3 1, 3) ∧ decode (zcc m_X8_copies) 28 = .ok (.goto (-26), 3) ∧ decode (zcc m_X8_copies) 31 = .ok (.iconst 0, 1) ∧ decode (zcc m_X8_copies) 32 = .ok (.istore_n 3, 1) ∧ decode (zcc m_X8_copies) 33 = .ok (.iload_n 3, 1) ∧ decode (zcc m_X8_copies) 34 = .ok (.iconst 3, 1) ∧ decode (zcc m_X8_copies) 35 = .ok (.if_icmp .ge (37), 3) := by decide +kernel
set_option maxRecDepth 20000 in
theorem eg_X8_copies_24 : decode (zcc m_X8_copies) 38 = .ok (.aload_n 0, 1) ∧ decode (zcc m_X8_copies) 39 = .ok (.getfield 13, 3) ∧ decode (zcc m_X8_copies) 42 = .ok (.iconst 3, 1) ∧ decode (zcc m_X8_copies) 43 = .ok (.iload_n 1, 1) ∧ decode (zcc m_X8_copies) 44 = .ok (.sipush 160, 3) ∧ decode (zcc m_X8_copies) 47 = .ok (.idiv, 1) ∧ decode (zcc m_X8_copies) 48 = .ok (.imul, 1) ∧ decode (zcc m_X8_copies) 49 = .ok (.iload_n 3, 1) := by decide +kernel
set_option maxRecDepth 20000 in
theorem eg_X8_copies_32 : decode (zcc m_X8_copies) 50 = .ok (.iadd, 1) ∧ decode (zcc m_X8_copies) 51 = .ok (.aload_n 0, 1) ∧ decode (zcc m_X8_copies) 52 = .ok (.getfield 13, 3) ∧ decode (zcc m_X8_copies) 55 = .ok (.iconst 3, 1) ∧ decode (zcc m_X8_copies) 56 = .ok (.iload_n 2, 1) ∧ decode (zcc m_X8_copies) 57 = .ok (.sipush 160, 3) ∧ decode (zcc m_X8_copies) 60 = .ok (.idiv, 1) ∧ decode (zcc m_X8_copies) 61 = .ok (.imul, 1) := by decide +kernel
set_option maxRecDepth 20000 in
theorem eg_X8_copies_40 : decode (zcc m_X8_copies) 62 = .ok (.iload_n 3, 1) ∧ decode (zcc m_X8_copies) 63 = .ok (.iadd, 1) ∧ decode (zcc m_X8_copies) 64 = .ok (.laload, 1) ∧ decode (zcc m_X8_copies) 65 = .ok (.lastore, 1) ∧ decode (zcc m_X8_copies) 66 = .ok (.iinc 3 1, 3) ∧ decode (zcc m_X8_copies) 69 = .ok (.goto (-36), 3) ∧ decode (zcc m_X8_copies) 72 = .ok (.return_, 1) := by decide +kernel
theorem d_X8_copies_0 : zD m_X8_copies 0 (.iconst 0) 1 1 := ⟨eg_X8_copies_0.1, rfl⟩
theorem d_X8_copies_1 : zD m_X8_copies 1 (.istore_n 3) 1 2 := ⟨eg_X8_copies_0.2.1, rfl⟩
theorem d_X8_copies_2 : zD m_X8_copies 2 (.iload_n 3) 1 3 := ⟨eg_X8_copies_0.2.2.1, rfl⟩
theorem d_X8_copies_3 : zD m_X8_copies 3 (.sipush 160) 3 6 := ⟨eg_X8_copies_0.2.2.2.1, rfl⟩
theorem d_X8_copies_6 : zDj m_X8_copies 6 (.if_icmp .ge) 9 31 := ⟨25, eg_X8_copies_0.2.2.2.2.1, rfl, by decide⟩
theorem d_X8_copies_9 : zD m_X8_copies 9 (.aload_n 0) 1 10 := ⟨eg_X8_copies_0.2.2.2.2.2.1, rfl⟩
theorem d_X8_copies_10 : zD m_X8_copies 10 (.getfield 7) 3 13 := ⟨eg_X8_copies_0.2.2.2.2.2.2.1, rfl⟩
theorem d_X8_copies_13 : zD m_X8_copies 13 (.iload_n 1) 1 14 := ⟨eg_X8_copies_0.2.2.2.2.2.2.2, rfl⟩
theorem d_X8_copies_14 : zD m_X8_copies 14 (.iload_n 3) 1 15 := ⟨eg_X8_copies_8.1, rfl⟩
theorem d_X8_copies_15 : zD m_X8_copies 15 (.iadd) 1 16 := ⟨eg_X8_copies_8.2.1, rfl⟩
theorem d_X8_copies_16 : zD m_X8_copies 16 (.aload_n 0) 1 17 := ⟨eg_X8_copies_8.2.2.1, rfl⟩
theorem d_X8_copies_17 : zD m_X8_copies 17 (.getfield 7) 3 20 := ⟨eg_X8_copies_8.2.2.2.1, rfl⟩
theorem d_X8_copies_20 : zD m_X8_copies 20 (.iload_n 2) 1 21 := ⟨eg_X8_copies_8.2.2.2.2.1, rfl⟩
theorem d_X8_copies_21 : zD m_X8_copies 21 (.iload_n 3) 1 22 := ⟨eg_X8_copies_8.2.2.2.2.2.1, rfl⟩
theorem d_X8_copies_22 : zD m_X8_copies 22 (.iadd) 1 23 := ⟨eg_X8_copies_8.2.2.2.2.2.2.1, rfl⟩
theorem d_X8_copies_23 : zD m_X8_copies 23 (.iaload) 1 24 := ⟨eg_X8_copies_8.2.2.2.2.2.2.2, rfl⟩
theorem d_X8_copies_24 : zD m_X8_copies 24 (.iastore) 1 25 := ⟨eg_X8_copies_16.1, rfl⟩
theorem d_X8_copies_25 : zD m_X8_copies 25 (.iinc 3 1) 3 28 := ⟨eg_X8_copies_16.2.1, rfl⟩
theorem d_X8_copies_28 : zDj m_X8_copies 28 (.goto) 31 2 := ⟨-26, eg_X8_copies_16.2.2.1, rfl, by decide⟩
theorem d_X8_copies_31 : zD m_X8_copies 31 (.iconst 0) 1 32 := ⟨eg_X8_copies_16.2.2.2.1, rfl⟩
theorem d_X8_copies_32 : zD m_X8_copies 32 (.istore_n 3) 1 33 := ⟨eg_X8_copies_16.2.2.2.2.1, rfl⟩
theorem d_X8_copies_33 : zD m_X8_copies 33 (.iload_n 3) 1 34 := ⟨eg_X8_copies_16.2.2.2.2.2.1, rfl⟩
theorem d_X8_copies_34 : zD m_X8_copies 34 (.iconst 3) 1 35 := ⟨eg_X8_copies_16.2.2.2.2.2.2.1, rfl⟩
theorem d_X8_copies_35 : zDj m_X8_copies 35 (.if_icmp .ge) 38 72 := ⟨37, eg_X8_copies_16.2.2.2.2.2.2.2, rfl, by decide⟩
theorem d_X8_copies_38 : zD m_X8_copies 38 (.aload_n 0) 1 39 := ⟨eg_X8_copies_24.1, rfl⟩
theorem d_X8_copies_39 : zD m_X8_copies 39 (.getfield 13) 3 42 := ⟨eg_X8_copies_24.2.1, rfl⟩
theorem d_X8_copies_42 : zD m_X8_copies 42 (.iconst 3) 1 43 := ⟨eg_X8_copies_24.2.2.1, rfl⟩
theorem d_X8_copies_43 : zD m_X8_copies 43 (.iload_n 1) 1 44 := ⟨eg_X8_copies_24.2.2.2.1, rfl⟩
theorem d_X8_copies_44 : zD m_X8_copies 44 (.sipush 160) 3 47 := ⟨eg_X8_copies_24.2.2.2.2.1, rfl⟩
theorem d_X8_copies_47 : zD m_X8_copies 47 (.idiv) 1 48 := ⟨eg_X8_copies_24.2.2.2.2.2.1, rfl⟩
theorem d_X8_copies_48 : zD m_X8_copies 48 (.imul) 1 49 := ⟨eg_X8_copies_24.2.2.2.2.2.2.1, rfl⟩
theorem d_X8_copies_49 : zD m_X8_copies 49 (.iload_n 3) 1 50 := ⟨eg_X8_copies_24.2.2.2.2.2.2.2, rfl⟩
theorem d_X8_copies_50 : zD m_X8_copies 50 (.iadd) 1 51 := ⟨eg_X8_copies_32.1, rfl⟩
theorem d_X8_copies_51 : zD m_X8_copies 51 (.aload_n 0) 1 52 := ⟨eg_X8_copies_32.2.1, rfl⟩
theorem d_X8_copies_52 : zD m_X8_copies 52 (.getfield 13) 3 55 := ⟨eg_X8_copies_32.2.2.1, rfl⟩
theorem d_X8_copies_55 : zD m_X8_copies 55 (.iconst 3) 1 56 := ⟨eg_X8_copies_32.2.2.2.1, rfl⟩
theorem d_X8_copies_56 : zD m_X8_copies 56 (.iload_n 2) 1 57 := ⟨eg_X8_copies_32.2.2.2.2.1, rfl⟩
theorem d_X8_copies_57 : zD m_X8_copies 57 (.sipush 160) 3 60 := ⟨eg_X8_copies_32.2.2.2.2.2.1, rfl⟩
theorem d_X8_copies_60 : zD m_X8_copies 60 (.idiv) 1 61 := ⟨eg_X8_copies_32.2.2.2.2.2.2.1, rfl⟩
theorem d_X8_copies_61 : zD m_X8_copies 61 (.imul) 1 62 := ⟨eg_X8_copies_32.2.2.2.2.2.2.2, rfl⟩
theorem d_X8_copies_62 : zD m_X8_copies 62 (.iload_n 3) 1 63 := ⟨eg_X8_copies_40.1, rfl⟩
theorem d_X8_copies_63 : zD m_X8_copies 63 (.iadd) 1 64 := ⟨eg_X8_copies_40.2.1, rfl⟩
theorem d_X8_copies_64 : zD m_X8_copies 64 (.laload) 1 65 := ⟨eg_X8_copies_40.2.2.1, rfl⟩
theorem d_X8_copies_65 : zD m_X8_copies 65 (.lastore) 1 66 := ⟨eg_X8_copies_40.2.2.2.1, rfl⟩
theorem d_X8_copies_66 : zD m_X8_copies 66 (.iinc 3 1) 3 69 := ⟨eg_X8_copies_40.2.2.2.2.1, rfl⟩
theorem d_X8_copies_69 : zDj m_X8_copies 69 (.goto) 72 33 := ⟨-36, eg_X8_copies_40.2.2.2.2.2.1, rfl, by decide⟩
theorem d_X8_copies_72 : decode (zcc m_X8_copies) 72 = .ok (.return_, 1) := eg_X8_copies_40.2.2.2.2.2.2
set_option maxRecDepth 20000 in
theorem eg_X8_shoots_0 : decode (zcc m_X8_shoots) 0 = .ok (.aload_n 0, 1) ∧ decode (zcc m_X8_shoots) 1 = .ok (.sipush 480, 3) ∧ decode (zcc m_X8_shoots) 4 = .ok (.iconst 0, 1) ∧ decode (zcc m_X8_shoots) 5 = .ok (.invokevirtual 243, 3) ∧ decode (zcc m_X8_shoots) 8 = .ok (.iconst 0, 1) ∧ decode (zcc m_X8_shoots) 9 = .ok (.istore 5, 2) ∧ decode (zcc m_X8_shoots) 11 = .ok (.iload 5, 2) ∧ decode (zcc m_X8_shoots) 13 = .ok (.bipush 8, 2) := by decide +kernel
set_option maxRecDepth 20000 in
theorem eg_X8_shoots_8 : decode (zcc m_X8_shoots) 15 = .ok (.if_icmp .ge (21), 3) ∧ decode (zcc m_X8_shoots) 18 = .ok (.aload_n 0, 1) ∧ decode (zcc m_X8_shoots) 19 = .ok (.getfield 7, 3) ∧ decode (zcc m_X8_shoots) 22 = .ok (.sipush 528, 3) ∧ decode (zcc m_X8_shoots) 25 = .ok (.iload 5, 2) ∧ decode (zcc m_X8_shoots) 27 = .ok (.iadd, 1) ∧ decode (zcc m_X8_shoots) 28 = .ok (.iconst 0, 1) ∧ decode (zcc m_X8_shoots) 29 = .ok (.iastore, 1) := by decide +kernel
set_option maxRecDepth 20000 in
theorem eg_X8_shoots_16 : decode (zcc m_X8_shoots) 30 = .ok (.iinc 5 1, 3) ∧ decode (zcc m_X8_shoots) 33 = .ok (.goto (-22), 3) ∧ decode (zcc m_X8_shoots) 36 = .ok (.aload_n 0, 1) ∧ decode (zcc m_X8_shoots) 37 = .ok (.bipush 6, 2) ∧ decode (zcc m_X8_shoots) 39 = .ok (.iload_n 1, 1) ∧ decode (zcc m_X8_shoots) 40 = .ok (.iadd, 1) ∧ decode (zcc m_X8_shoots) 41 = .ok (.iconst 1, 1) ∧ decode (zcc m_X8_shoots) 42 = .ok (.isub, 1) := by decide +kernel
set_option maxRecDepth 20000 in
theorem eg_X8_shoots_24 : decode (zcc m_X8_shoots) 43 = .ok (.iload_n 1, 1) ∧ decode (zcc m_X8_shoots) 44 = .ok (.idiv, 1) ∧ decode (zcc m_X8_shoots) 45 = .ok (.putfield 246, 3) ∧ decode (zcc m_X8_shoots) 48 = .ok (.aload_n 0, 1) ∧ decode (zcc m_X8_shoots) 49 = .ok (.bipush 8, 2) ∧ decode (zcc m_X8_shoots) 51 = .ok (.iload_n 2, 1) ∧ decode (zcc m_X8_shoots) 52 = .ok (.iadd, 1) ∧ decode (zcc m_X8_shoots) 53 = .ok (.iconst 1, 1) := by decide +kernel
set_option maxRecDepth 20000 in
theorem eg_X8_shoots_32 : decode (zcc m_X8_shoots) 54 = .ok (.isub, 1) ∧ decode (zcc m_X8_shoots) 55 = .ok (.iload_n 2, 1) ∧ decode (zcc m_X8_shoots) 56 = .ok (.idiv, 1) ∧ decode (zcc m_X8_shoots) 57 = .ok (.putfield 249, 3) ∧ decode (zcc m_X8_shoots) 60 = .ok (.iconst 0, 1) ∧ decode (zcc m_X8_shoots) 61 = .ok (.istore 5, 2) ∧ decode (zcc m_X8_shoots) 63 = .ok (.iload 5, 2) ∧ decode (zcc m_X8_shoots) 65 = .ok (.aload_n 0, 1) := by decide +kernel
set_option maxRecDepth 20000 in
theorem eg_X8_shoots_40 : decode (zcc m_X8_shoots) 66 = .ok (.getfield 246, 3) ∧ decode (zcc m_X8_shoots) 69 = .ok (.if_icmp .ge (127), 3) ∧ decode (zcc m_X8_shoots) 72 = .ok (.iconst 0, 1) ∧ decode (zcc m_X8_shoots) 73 = .ok (.istore 6, 2) ∧ decode (zcc m_X8_shoots) 75 = .ok (.iload 6, 2) ∧ decode (zcc m_X8_shoots) 77 = .ok (.iload_n 1, 1) ∧ decode (zcc m_X8_shoots) 78 = .ok (.if_icmp .ge (31), 3) ∧ decode (zcc m_X8_shoots) 81 = .ok (.iload 5, 2) := by decide +kernel
set_option maxRecDepth 20000 in
theorem eg_X8_shoots_48 : decode (zcc m_X8_shoots) 83 = .ok (.iload_n 1, 1) ∧ decode (zcc m_X8_shoots) 84 = .ok (.imul, 1) ∧ decode (zcc m_X8_shoots) 85 = .ok (.iload 6, 2) ∧ decode (zcc m_X8_shoots) 87 = .ok (.iadd, 1) ∧ decode (zcc m_X8_shoots) 88 = .ok (.bipush 6, 2) ∧ decode (zcc m_X8_shoots) 90 = .ok (.if_icmp .ge (19), 3) ∧ decode (zcc m_X8_shoots) 93 = .ok (.aload_n 0, 1) ∧ decode (zcc m_X8_shoots) 94 = .ok (.sipush 480, 3) := by decide +kernel
set_option maxRecDepth 20000 in
theorem eg_X8_shoots_56 : decode (zcc m_X8_shoots) 97 = .ok (.iload_n 3, 1) ∧ decode (zcc m_X8_shoots) 98 = .ok (.iload 4, 2) ∧ decode (zcc m_X8_shoots) 100 = .ok (.invokevirtual 222, 3) ∧ decode (zcc m_X8_shoots) 103 = .ok (.iinc 6 1, 3) ∧ decode (zcc m_X8_shoots) 106 = .ok (.goto (-31), 3) ∧ decode (zcc m_X8_shoots) 109 = .ok (.iconst 0, 1) ∧ decode (zcc m_X8_shoots) 110 = .ok (.istore 6, 2) ∧ decode (zcc m_X8_shoots) 112 = .ok (.iload 6, 2) := by decide +kernel
set_option maxRecDepth 20000 in
theorem eg_X8_shoots_64 : decode (zcc m_X8_shoots) 114 = .ok (.aload_n 0, 1) ∧ decode (zcc m_X8_shoots) 115 = .ok (.getfield 249, 3) ∧ decode (zcc m_X8_shoots) 118 = .ok (.if_icmp .ge (72), 3) ∧ decode (zcc m_X8_shoots) 121 = .ok (.iconst 0, 1) ∧ decode (zcc m_X8_shoots) 122 = .ok (.istore 7, 2) ∧ decode (zcc m_X8_shoots) 124 = .ok (.iconst 0, 1) ∧ decode (zcc m_X8_shoots) 125 = .ok (.istore 8, 2) ∧ decode (zcc m_X8_shoots) 127 = .ok (.iload 8, 2) := by decide +kernel
set_option maxRecDepth 20000 in
theorem eg_X8_shoots_72 : decode (zcc m_X8_shoots) 129 = .ok (.iload_n 2, 1) ∧ decode (zcc m_X8_shoots) 130 = .ok (.if_icmp .ge (33), 3) ∧ decode (zcc m_X8_shoots) 133 = .ok (.iload 6, 2) ∧ decode (zcc m_X8_shoots) 135 = .ok (.iload_n 2, 1) ∧ decode (zcc m_X8_shoots) 136 = .ok (.imul, 1) ∧ decode (zcc m_X8_shoots) 137 = .ok (.iload 8, 2) ∧ decode (zcc m_X8_shoots) 139 = .ok (.iadd, 1) ∧ decode (zcc m_X8_shoots) 140 = .ok (.bipush 8, 2) := by decide +kernel
set_option maxRecDepth 20000 in
theorem eg_X8_shoots_80 : decode (zcc m_X8_shoots) 142 = .ok (.if_icmp .ge (21), 3) ∧ decode (zcc m_X8_shoots) 145 = .ok (.iload 7, 2) ∧ decode (zcc m_X8_shoots) 147 = .ok (.aload_n 0, 1) ∧ decode (zcc m_X8_shoots) 148 = .ok (.sipush 480, 3) ∧ decode (zcc m_X8_shoots) 151 = .ok (.invokevirtual 229, 3) ∧ decode (zcc m_X8_shoots) 154 = .ok (.iadd, 1) ∧ decode (zcc m_X8_shoots) 155 = .ok (.istore 7, 2) ∧ decode (zcc m_X8_shoots) 157 = .ok (.iinc 8 1, 3) := by decide +kernel
set_option maxRecDepth 20000 in
theorem eg_X8_shoots_88 : decode (zcc m_X8_shoots) 160 = .ok (.goto (-33), 3) ∧ decode (zcc m_X8_shoots) 163 = .ok (.aload_n 0, 1) ∧ decode (zcc m_X8_shoots) 164 = .ok (.getfield 51, 3) ∧ decode (zcc m_X8_shoots) 167 = .ok (.iload 5, 2) ∧ decode (zcc m_X8_shoots) 169 = .ok (.aload_n 0, 1) ∧ decode (zcc m_X8_shoots) 170 = .ok (.getfield 249, 3) ∧ decode (zcc m_X8_shoots) 173 = .ok (.imul, 1) ∧ decode (zcc m_X8_shoots) 174 = .ok (.iload 6, 2) := by decide +kernel
set_option maxRecDepth 20000 in
theorem eg_X8_shoots_96 : decode (zcc m_X8_shoots) 176 = .ok (.iadd, 1) ∧ decode (zcc m_X8_shoots) 177 = .ok (.aload_n 0, 1) ∧ decode (zcc m_X8_shoots) 178 = .ok (.iload 7, 2) ∧ decode (zcc m_X8_shoots) 180 = .ok (.invokevirtual 232, 3) ∧ decode (zcc m_X8_shoots) 183 = .ok (.iastore, 1) ∧ decode (zcc m_X8_shoots) 184 = .ok (.iinc 6 1, 3) ∧ decode (zcc m_X8_shoots) 187 = .ok (.goto (-75), 3) ∧ decode (zcc m_X8_shoots) 190 = .ok (.iinc 5 1, 3) := by decide +kernel
set_option maxRecDepth 20000 in
theorem eg_X8_shoots_104 : decode (zcc m_X8_shoots) 193 = .ok (.goto (-130), 3) ∧ decode (zcc m_X8_shoots) 196 = .ok (.return_, 1) := by decide +kernel
theorem d_X8_shoots_0 : zD m_X8_shoots 0 (.aload_n 0) 1 1 := ⟨eg_X8_shoots_0.1, rfl⟩
theorem d_X8_shoots_1 : zD m_X8_shoots 1 (.sipush 480) 3 4 := ⟨eg_X8_shoots_0.2.1, rfl⟩
theorem d_X8_shoots_4 : zD m_X8_shoots 4 (.iconst 0) 1 5 := ⟨eg_X8_shoots_0.2.2.1, rfl⟩
theorem d_X8_shoots_5 : zD m_X8_shoots 5 (.invokevirtual 243) 3 8 := ⟨eg_X8_shoots_0.2.2.2.1, rfl⟩
theorem d_X8_shoots_8 : zD m_X8_shoots 8 (.iconst 0) 1 9 := ⟨eg_X8_shoots_0.2.2.2.2.1, rfl⟩
theorem d_X8_shoots_9 : zD m_X8_shoots 9 (.istore 5) 2 11 := ⟨eg_X8_shoots_0.2.2.2.2.2.1, rfl⟩
theorem d_X8_shoots_11 : zD m_X8_shoots 11 (.iload 5) 2 13 := ⟨eg_X8_shoots_0.2.2.2.2.2.2.1, rfl⟩
theorem d_X8_shoots_13 : zD m_X8_shoots 13 (.bipush 8) 2 15 := ⟨eg_X8_shoots_0.2.2.2.2.2.2.2, rfl⟩
theorem d_X8_shoots_15 : zDj m_X8_shoots 15 (.if_icmp .ge) 18 36 := ⟨21, eg_X8_shoots_8.1, rfl, by decide⟩
theorem d_X8_shoots_18 : zD m_X8_shoots 18 (.aload_n 0) 1 19 := ⟨eg_X8_shoots_8.2.1, rfl⟩
theorem d_X8_shoots_19 : zD m_X8_shoots 19 (.getfield 7) 3 22 := ⟨eg_X8_shoots_8.2.2.1, rfl⟩
theorem d_X8_shoots_22 : zD m_X8_shoots 22 (.sipush 528) 3 25 := ⟨eg_X8_shoots_8.2.2.2.1, rfl⟩
theorem d_X8_shoots_25 : zD m_X8_shoots 25 (.iload 5) 2 27 := ⟨eg_X8_shoots_8.2.2.2.2.1, rfl⟩
theorem d_X8_shoots_27 : zD m_X8_shoots 27 (.iadd) 1 28 := ⟨eg_X8_shoots_8.2.2.2.2.2.1, rfl⟩
theorem d_X8_shoots_28 : zD m_X8_shoots 28 (.iconst 0) 1 29 := ⟨eg_X8_shoots_8.2.2.2.2.2.2.1, rfl⟩
theorem d_X8_shoots_29 : zD m_X8_shoots 29 (.iastore) 1 30 := ⟨eg_X8_shoots_8.2.2.2.2.2.2.2, rfl⟩
theorem d_X8_shoots_30 : zD m_X8_shoots 30 (.iinc 5 1) 3 33 := ⟨eg_X8_shoots_16.1, rfl⟩
theorem d_X8_shoots_33 : zDj m_X8_shoots 33 (.goto) 36 11 := ⟨-22, eg_X8_shoots_16.2.1, rfl, by decide⟩
theorem d_X8_shoots_36 : zD m_X8_shoots 36 (.aload_n 0) 1 37 := ⟨eg_X8_shoots_16.2.2.1, rfl⟩
theorem d_X8_shoots_37 : zD m_X8_shoots 37 (.bipush 6) 2 39 := ⟨eg_X8_shoots_16.2.2.2.1, rfl⟩
theorem d_X8_shoots_39 : zD m_X8_shoots 39 (.iload_n 1) 1 40 := ⟨eg_X8_shoots_16.2.2.2.2.1, rfl⟩
theorem d_X8_shoots_40 : zD m_X8_shoots 40 (.iadd) 1 41 := ⟨eg_X8_shoots_16.2.2.2.2.2.1, rfl⟩
theorem d_X8_shoots_41 : zD m_X8_shoots 41 (.iconst 1) 1 42 := ⟨eg_X8_shoots_16.2.2.2.2.2.2.1, rfl⟩
theorem d_X8_shoots_42 : zD m_X8_shoots 42 (.isub) 1 43 := ⟨eg_X8_shoots_16.2.2.2.2.2.2.2, rfl⟩
theorem d_X8_shoots_43 : zD m_X8_shoots 43 (.iload_n 1) 1 44 := ⟨eg_X8_shoots_24.1, rfl⟩
theorem d_X8_shoots_44 : zD m_X8_shoots 44 (.idiv) 1 45 := ⟨eg_X8_shoots_24.2.1, rfl⟩
theorem d_X8_shoots_45 : zD m_X8_shoots 45 (.putfield 246) 3 48 := ⟨eg_X8_shoots_24.2.2.1, rfl⟩
theorem d_X8_shoots_48 : zD m_X8_shoots 48 (.aload_n 0) 1 49 := ⟨eg_X8_shoots_24.2.2.2.1, rfl⟩
theorem d_X8_shoots_49 : zD m_X8_shoots 49 (.bipush 8) 2 51 := ⟨eg_X8_shoots_24.2.2.2.2.1, rfl⟩
theorem d_X8_shoots_51 : zD m_X8_shoots 51 (.iload_n 2) 1 52 := ⟨eg_X8_shoots_24.2.2.2.2.2.1, rfl⟩
theorem d_X8_shoots_52 : zD m_X8_shoots 52 (.iadd) 1 53 := ⟨eg_X8_shoots_24.2.2.2.2.2.2.1, rfl⟩
theorem d_X8_shoots_53 : zD m_X8_shoots 53 (.iconst 1) 1 54 := ⟨eg_X8_shoots_24.2.2.2.2.2.2.2, rfl⟩
theorem d_X8_shoots_54 : zD m_X8_shoots 54 (.isub) 1 55 := ⟨eg_X8_shoots_32.1, rfl⟩
theorem d_X8_shoots_55 : zD m_X8_shoots 55 (.iload_n 2) 1 56 := ⟨eg_X8_shoots_32.2.1, rfl⟩
theorem d_X8_shoots_56 : zD m_X8_shoots 56 (.idiv) 1 57 := ⟨eg_X8_shoots_32.2.2.1, rfl⟩
theorem d_X8_shoots_57 : zD m_X8_shoots 57 (.putfield 249) 3 60 := ⟨eg_X8_shoots_32.2.2.2.1, rfl⟩
theorem d_X8_shoots_60 : zD m_X8_shoots 60 (.iconst 0) 1 61 := ⟨eg_X8_shoots_32.2.2.2.2.1, rfl⟩
theorem d_X8_shoots_61 : zD m_X8_shoots 61 (.istore 5) 2 63 := ⟨eg_X8_shoots_32.2.2.2.2.2.1, rfl⟩
theorem d_X8_shoots_63 : zD m_X8_shoots 63 (.iload 5) 2 65 := ⟨eg_X8_shoots_32.2.2.2.2.2.2.1, rfl⟩
theorem d_X8_shoots_65 : zD m_X8_shoots 65 (.aload_n 0) 1 66 := ⟨eg_X8_shoots_32.2.2.2.2.2.2.2, rfl⟩
theorem d_X8_shoots_66 : zD m_X8_shoots 66 (.getfield 246) 3 69 := ⟨eg_X8_shoots_40.1, rfl⟩
theorem d_X8_shoots_69 : zDj m_X8_shoots 69 (.if_icmp .ge) 72 196 := ⟨127, eg_X8_shoots_40.2.1, rfl, by decide⟩
theorem d_X8_shoots_72 : zD m_X8_shoots 72 (.iconst 0) 1 73 := ⟨eg_X8_shoots_40.2.2.1, rfl⟩
theorem d_X8_shoots_73 : zD m_X8_shoots 73 (.istore 6) 2 75 := ⟨eg_X8_shoots_40.2.2.2.1, rfl⟩
theorem d_X8_shoots_75 : zD m_X8_shoots 75 (.iload 6) 2 77 := ⟨eg_X8_shoots_40.2.2.2.2.1, rfl⟩
theorem d_X8_shoots_77 : zD m_X8_shoots 77 (.iload_n 1) 1 78 := ⟨eg_X8_shoots_40.2.2.2.2.2.1, rfl⟩
theorem d_X8_shoots_78 : zDj m_X8_shoots 78 (.if_icmp .ge) 81 109 := ⟨31, eg_X8_shoots_40.2.2.2.2.2.2.1, rfl, by decide⟩
theorem d_X8_shoots_81 : zD m_X8_shoots 81 (.iload 5) 2 83 := ⟨eg_X8_shoots_40.2.2.2.2.2.2.2, rfl⟩
theorem d_X8_shoots_83 : zD m_X8_shoots 83 (.iload_n 1) 1 84 := ⟨eg_X8_shoots_48.1, rfl⟩
theorem d_X8_shoots_84 : zD m_X8_shoots 84 (.imul) 1 85 := ⟨eg_X8_shoots_48.2.1, rfl⟩
theorem d_X8_shoots_85 : zD m_X8_shoots 85 (.iload 6) 2 87 := ⟨eg_X8_shoots_48.2.2.1, rfl⟩
theorem d_X8_shoots_87 : zD m_X8_shoots 87 (.iadd) 1 88 := ⟨eg_X8_shoots_48.2.2.2.1, rfl⟩
theorem d_X8_shoots_88 : zD m_X8_shoots 88 (.bipush 6) 2 90 := ⟨eg_X8_shoots_48.2.2.2.2.1, rfl⟩
theorem d_X8_shoots_90 : zDj m_X8_shoots 90 (.if_icmp .ge) 93 109 := ⟨19, eg_X8_shoots_48.2.2.2.2.2.1, rfl, by decide⟩
theorem d_X8_shoots_93 : zD m_X8_shoots 93 (.aload_n 0) 1 94 := ⟨eg_X8_shoots_48.2.2.2.2.2.2.1, rfl⟩
theorem d_X8_shoots_94 : zD m_X8_shoots 94 (.sipush 480) 3 97 := ⟨eg_X8_shoots_48.2.2.2.2.2.2.2, rfl⟩
theorem d_X8_shoots_97 : zD m_X8_shoots 97 (.iload_n 3) 1 98 := ⟨eg_X8_shoots_56.1, rfl⟩
theorem d_X8_shoots_98 : zD m_X8_shoots 98 (.iload 4) 2 100 := ⟨eg_X8_shoots_56.2.1, rfl⟩
theorem d_X8_shoots_100 : zD m_X8_shoots 100 (.invokevirtual 222) 3 103 := ⟨eg_X8_shoots_56.2.2.1, rfl⟩
theorem d_X8_shoots_103 : zD m_X8_shoots 103 (.iinc 6 1) 3 106 := ⟨eg_X8_shoots_56.2.2.2.1, rfl⟩
theorem d_X8_shoots_106 : zDj m_X8_shoots 106 (.goto) 109 75 := ⟨-31, eg_X8_shoots_56.2.2.2.2.1, rfl, by decide⟩
theorem d_X8_shoots_109 : zD m_X8_shoots 109 (.iconst 0) 1 110 := ⟨eg_X8_shoots_56.2.2.2.2.2.1, rfl⟩
theorem d_X8_shoots_110 : zD m_X8_shoots 110 (.istore 6) 2 112 := ⟨eg_X8_shoots_56.2.2.2.2.2.2.1, rfl⟩
theorem d_X8_shoots_112 : zD m_X8_shoots 112 (.iload 6) 2 114 := ⟨eg_X8_shoots_56.2.2.2.2.2.2.2, rfl⟩
theorem d_X8_shoots_114 : zD m_X8_shoots 114 (.aload_n 0) 1 115 := ⟨eg_X8_shoots_64.1, rfl⟩
theorem d_X8_shoots_115 : zD m_X8_shoots 115 (.getfield 249) 3 118 := ⟨eg_X8_shoots_64.2.1, rfl⟩
theorem d_X8_shoots_118 : zDj m_X8_shoots 118 (.if_icmp .ge) 121 190 := ⟨72, eg_X8_shoots_64.2.2.1, rfl, by decide⟩
theorem d_X8_shoots_121 : zD m_X8_shoots 121 (.iconst 0) 1 122 := ⟨eg_X8_shoots_64.2.2.2.1, rfl⟩
theorem d_X8_shoots_122 : zD m_X8_shoots 122 (.istore 7) 2 124 := ⟨eg_X8_shoots_64.2.2.2.2.1, rfl⟩
theorem d_X8_shoots_124 : zD m_X8_shoots 124 (.iconst 0) 1 125 := ⟨eg_X8_shoots_64.2.2.2.2.2.1, rfl⟩
theorem d_X8_shoots_125 : zD m_X8_shoots 125 (.istore 8) 2 127 := ⟨eg_X8_shoots_64.2.2.2.2.2.2.1, rfl⟩
theorem d_X8_shoots_127 : zD m_X8_shoots 127 (.iload 8) 2 129 := ⟨eg_X8_shoots_64.2.2.2.2.2.2.2, rfl⟩
theorem d_X8_shoots_129 : zD m_X8_shoots 129 (.iload_n 2) 1 130 := ⟨eg_X8_shoots_72.1, rfl⟩
theorem d_X8_shoots_130 : zDj m_X8_shoots 130 (.if_icmp .ge) 133 163 := ⟨33, eg_X8_shoots_72.2.1, rfl, by decide⟩
theorem d_X8_shoots_133 : zD m_X8_shoots 133 (.iload 6) 2 135 := ⟨eg_X8_shoots_72.2.2.1, rfl⟩
theorem d_X8_shoots_135 : zD m_X8_shoots 135 (.iload_n 2) 1 136 := ⟨eg_X8_shoots_72.2.2.2.1, rfl⟩
theorem d_X8_shoots_136 : zD m_X8_shoots 136 (.imul) 1 137 := ⟨eg_X8_shoots_72.2.2.2.2.1, rfl⟩
theorem d_X8_shoots_137 : zD m_X8_shoots 137 (.iload 8) 2 139 := ⟨eg_X8_shoots_72.2.2.2.2.2.1, rfl⟩
theorem d_X8_shoots_139 : zD m_X8_shoots 139 (.iadd) 1 140 := ⟨eg_X8_shoots_72.2.2.2.2.2.2.1, rfl⟩
theorem d_X8_shoots_140 : zD m_X8_shoots 140 (.bipush 8) 2 142 := ⟨eg_X8_shoots_72.2.2.2.2.2.2.2, rfl⟩
theorem d_X8_shoots_142 : zDj m_X8_shoots 142 (.if_icmp .ge) 145 163 := ⟨21, eg_X8_shoots_80.1, rfl, by decide⟩
theorem d_X8_shoots_145 : zD m_X8_shoots 145 (.iload 7) 2 147 := ⟨eg_X8_shoots_80.2.1, rfl⟩
theorem d_X8_shoots_147 : zD m_X8_shoots 147 (.aload_n 0) 1 148 := ⟨eg_X8_shoots_80.2.2.1, rfl⟩
theorem d_X8_shoots_148 : zD m_X8_shoots 148 (.sipush 480) 3 151 := ⟨eg_X8_shoots_80.2.2.2.1, rfl⟩
theorem d_X8_shoots_151 : zD m_X8_shoots 151 (.invokevirtual 229) 3 154 := ⟨eg_X8_shoots_80.2.2.2.2.1, rfl⟩
theorem d_X8_shoots_154 : zD m_X8_shoots 154 (.iadd) 1 155 := ⟨eg_X8_shoots_80.2.2.2.2.2.1, rfl⟩
theorem d_X8_shoots_155 : zD m_X8_shoots 155 (.istore 7) 2 157 := ⟨eg_X8_shoots_80.2.2.2.2.2.2.1, rfl⟩
theorem d_X8_shoots_157 : zD m_X8_shoots 157 (.iinc 8 1) 3 160 := ⟨eg_X8_shoots_80.2.2.2.2.2.2.2, rfl⟩
theorem d_X8_shoots_160 : zDj m_X8_shoots 160 (.goto) 163 127 := ⟨-33, eg_X8_shoots_88.1, rfl, by decide⟩
theorem d_X8_shoots_163 : zD m_X8_shoots 163 (.aload_n 0) 1 164 := ⟨eg_X8_shoots_88.2.1, rfl⟩
theorem d_X8_shoots_164 : zD m_X8_shoots 164 (.getfield 51) 3 167 := ⟨eg_X8_shoots_88.2.2.1, rfl⟩
theorem d_X8_shoots_167 : zD m_X8_shoots 167 (.iload 5) 2 169 := ⟨eg_X8_shoots_88.2.2.2.1, rfl⟩
theorem d_X8_shoots_169 : zD m_X8_shoots 169 (.aload_n 0) 1 170 := ⟨eg_X8_shoots_88.2.2.2.2.1, rfl⟩
theorem d_X8_shoots_170 : zD m_X8_shoots 170 (.getfield 249) 3 173 := ⟨eg_X8_shoots_88.2.2.2.2.2.1, rfl⟩
theorem d_X8_shoots_173 : zD m_X8_shoots 173 (.imul) 1 174 := ⟨eg_X8_shoots_88.2.2.2.2.2.2.1, rfl⟩
theorem d_X8_shoots_174 : zD m_X8_shoots 174 (.iload 6) 2 176 := ⟨eg_X8_shoots_88.2.2.2.2.2.2.2, rfl⟩
theorem d_X8_shoots_176 : zD m_X8_shoots 176 (.iadd) 1 177 := ⟨eg_X8_shoots_96.1, rfl⟩
theorem d_X8_shoots_177 : zD m_X8_shoots 177 (.aload_n 0) 1 178 := ⟨eg_X8_shoots_96.2.1, rfl⟩
theorem d_X8_shoots_178 : zD m_X8_shoots 178 (.iload 7) 2 180 := ⟨eg_X8_shoots_96.2.2.1, rfl⟩
theorem d_X8_shoots_180 : zD m_X8_shoots 180 (.invokevirtual 232) 3 183 := ⟨eg_X8_shoots_96.2.2.2.1, rfl⟩
theorem d_X8_shoots_183 : zD m_X8_shoots 183 (.iastore) 1 184 := ⟨eg_X8_shoots_96.2.2.2.2.1, rfl⟩
theorem d_X8_shoots_184 : zD m_X8_shoots 184 (.iinc 6 1) 3 187 := ⟨eg_X8_shoots_96.2.2.2.2.2.1, rfl⟩
theorem d_X8_shoots_187 : zDj m_X8_shoots 187 (.goto) 190 112 := ⟨-75, eg_X8_shoots_96.2.2.2.2.2.2.1, rfl, by decide⟩
theorem d_X8_shoots_190 : zD m_X8_shoots 190 (.iinc 5 1) 3 193 := ⟨eg_X8_shoots_96.2.2.2.2.2.2.2, rfl⟩
theorem d_X8_shoots_193 : zDj m_X8_shoots 193 (.goto) 196 63 := ⟨-130, eg_X8_shoots_104.1, rfl, by decide⟩
theorem d_X8_shoots_196 : decode (zcc m_X8_shoots) 196 = .ok (.return_, 1) := eg_X8_shoots_104.2
set_option maxRecDepth 20000 in
theorem eg_X8_isPicture_0 : decode (zcc m_X8_isPicture) 0 = .ok (.iload_n 0, 1) ∧ decode (zcc m_X8_isPicture) 1 = .ok (.i2l, 1) ∧ decode (zcc m_X8_isPicture) 2 = .ok (.lconst 1, 1) ∧ decode (zcc m_X8_isPicture) 3 = .ok (.ldc2_w 252, 3) ∧ decode (zcc m_X8_isPicture) 6 = .ok (.invokestatic 92, 3) ∧ decode (zcc m_X8_isPicture) 9 = .ok (.ifCond .eq (19), 3) ∧ decode (zcc m_X8_isPicture) 12 = .ok (.iload_n 1, 1) ∧ decode (zcc m_X8_isPicture) 13 = .ok (.i2l, 1) := by decide +kernel
set_option maxRecDepth 20000 in
theorem eg_X8_isPicture_8 : decode (zcc m_X8_isPicture) 14 = .ok (.lconst 1, 1) ∧ decode (zcc m_X8_isPicture) 15 = .ok (.ldc2_w 252, 3) ∧ decode (zcc m_X8_isPicture) 18 = .ok (.invokestatic 92, 3) ∧ decode (zcc m_X8_isPicture) 21 = .ok (.ifCond .eq (7), 3) ∧ decode (zcc m_X8_isPicture) 24 = .ok (.iconst 1, 1) ∧ decode (zcc m_X8_isPicture) 25 = .ok (.goto (4), 3) ∧ decode (zcc m_X8_isPicture) 28 = .ok (.iconst 0, 1) ∧ decode (zcc m_X8_isPicture) 29 = .ok (.ireturn, 1) := by decide +kernel
theorem d_X8_isPicture_0 : zD m_X8_isPicture 0 (.iload_n 0) 1 1 := ⟨eg_X8_isPicture_0.1, rfl⟩
theorem d_X8_isPicture_1 : zD m_X8_isPicture 1 (.i2l) 1 2 := ⟨eg_X8_isPicture_0.2.1, rfl⟩
theorem d_X8_isPicture_2 : zD m_X8_isPicture 2 (.lconst 1) 1 3 := ⟨eg_X8_isPicture_0.2.2.1, rfl⟩
theorem d_X8_isPicture_3 : zD m_X8_isPicture 3 (.ldc2_w 252) 3 6 := ⟨eg_X8_isPicture_0.2.2.2.1, rfl⟩
theorem d_X8_isPicture_6 : zD m_X8_isPicture 6 (.invokestatic 92) 3 9 := ⟨eg_X8_isPicture_0.2.2.2.2.1, rfl⟩
theorem d_X8_isPicture_9 : zDj m_X8_isPicture 9 (.ifCond .eq) 12 28 := ⟨19, eg_X8_isPicture_0.2.2.2.2.2.1, rfl, by decide⟩
theorem d_X8_isPicture_12 : zD m_X8_isPicture 12 (.iload_n 1) 1 13 := ⟨eg_X8_isPicture_0.2.2.2.2.2.2.1, rfl⟩
theorem d_X8_isPicture_13 : zD m_X8_isPicture 13 (.i2l) 1 14 := ⟨eg_X8_isPicture_0.2.2.2.2.2.2.2, rfl⟩
theorem d_X8_isPicture_14 : zD m_X8_isPicture 14 (.lconst 1) 1 15 := ⟨eg_X8_isPicture_8.1, rfl⟩
theorem d_X8_isPicture_15 : zD m_X8_isPicture 15 (.ldc2_w 252) 3 18 := ⟨eg_X8_isPicture_8.2.1, rfl⟩
theorem d_X8_isPicture_18 : zD m_X8_isPicture 18 (.invokestatic 92) 3 21 := ⟨eg_X8_isPicture_8.2.2.1, rfl⟩
theorem d_X8_isPicture_21 : zDj m_X8_isPicture 21 (.ifCond .eq) 24 28 := ⟨7, eg_X8_isPicture_8.2.2.2.1, rfl, by decide⟩
theorem d_X8_isPicture_24 : zD m_X8_isPicture 24 (.iconst 1) 1 25 := ⟨eg_X8_isPicture_8.2.2.2.2.1, rfl⟩
theorem d_X8_isPicture_25 : zDj m_X8_isPicture 25 (.goto) 28 29 := ⟨4, eg_X8_isPicture_8.2.2.2.2.2.1, rfl, by decide⟩
theorem d_X8_isPicture_28 : zD m_X8_isPicture 28 (.iconst 0) 1 29 := ⟨eg_X8_isPicture_8.2.2.2.2.2.2.1, rfl⟩
theorem d_X8_isPicture_29 : decode (zcc m_X8_isPicture) 29 = .ok (.ireturn, 1) := eg_X8_isPicture_8.2.2.2.2.2.2.2
set_option maxRecDepth 20000 in
theorem eg_X8_picture_0 : decode (zcc m_X8_picture) 0 = .ok (.iload_n 1, 1) ∧ decode (zcc m_X8_picture) 1 = .ok (.iload_n 2, 1) ∧ decode (zcc m_X8_picture) 2 = .ok (.invokestatic 254, 3) ∧ decode (zcc m_X8_picture) 5 = .ok (.ifCond .eq (44), 3) ∧ decode (zcc m_X8_picture) 8 = .ok (.iload_n 3, 1) ∧ decode (zcc m_X8_picture) 9 = .ok (.i2l, 1) ∧ decode (zcc m_X8_picture) 10 = .ok (.lconst 0, 1) ∧ decode (zcc m_X8_picture) 11 = .ok (.bipush 6, 2) := by decide +kernel
set_option maxRecDepth 20000 in
theorem eg_X8_picture_8 : decode (zcc m_X8_picture) 13 = .ok (.iload_n 1, 1) ∧ decode (zcc m_X8_picture) 14 = .ok (.iadd, 1) ∧ decode (zcc m_X8_picture) 15 = .ok (.iconst 1, 1) ∧ decode (zcc m_X8_picture) 16 = .ok (.isub, 1) ∧ decode (zcc m_X8_picture) 17 = .ok (.iload_n 1, 1) ∧ decode (zcc m_X8_picture) 18 = .ok (.idiv, 1) ∧ decode (zcc m_X8_picture) 19 = .ok (.iconst 1, 1) ∧ decode (zcc m_X8_picture) 20 = .ok (.isub, 1) := by decide +kernel
set_option maxRecDepth 20000 in
theorem eg_X8_picture_16 : decode (zcc m_X8_picture) 21 = .ok (.i2l, 1) ∧ decode (zcc m_X8_picture) 22 = .ok (.invokestatic 92, 3) ∧ decode (zcc m_X8_picture) 25 = .ok (.ifCond .eq (24), 3) ∧ decode (zcc m_X8_picture) 28 = .ok (.iload 4, 2) ∧ decode (zcc m_X8_picture) 30 = .ok (.i2l, 1) ∧ decode (zcc m_X8_picture) 31 = .ok (.lconst 0, 1) ∧ decode (zcc m_X8_picture) 32 = .ok (.bipush 8, 2) ∧ decode (zcc m_X8_picture) 34 = .ok (.iload_n 2, 1) := by decide +kernel
set_option maxRecDepth 20000 in
theorem eg_X8_picture_24 : decode (zcc m_X8_picture) 35 = .ok (.iadd, 1) ∧ decode (zcc m_X8_picture) 36 = .ok (.iconst 1, 1) ∧ decode (zcc m_X8_picture) 37 = .ok (.isub, 1) ∧ decode (zcc m_X8_picture) 38 = .ok (.iload_n 2, 1) ∧ decode (zcc m_X8_picture) 39 = .ok (.idiv, 1) ∧ decode (zcc m_X8_picture) 40 = .ok (.iconst 1, 1) ∧ decode (zcc m_X8_picture) 41 = .ok (.isub, 1) ∧ decode (zcc m_X8_picture) 42 = .ok (.i2l, 1) := by decide +kernel
set_option maxRecDepth 20000 in
theorem eg_X8_picture_32 : decode (zcc m_X8_picture) 43 = .ok (.invokestatic 92, 3) ∧ decode (zcc m_X8_picture) 46 = .ok (.ifCond .ne (5), 3) ∧ decode (zcc m_X8_picture) 49 = .ok (.iconst (-1), 1) ∧ decode (zcc m_X8_picture) 50 = .ok (.ireturn, 1) ∧ decode (zcc m_X8_picture) 51 = .ok (.aload_n 0, 1) ∧ decode (zcc m_X8_picture) 52 = .ok (.iload_n 1, 1) ∧ decode (zcc m_X8_picture) 53 = .ok (.iload_n 2, 1) ∧ decode (zcc m_X8_picture) 54 = .ok (.iconst 1, 1) := by decide +kernel
set_option maxRecDepth 20000 in
theorem eg_X8_picture_40 : decode (zcc m_X8_picture) 55 = .ok (.aload_n 0, 1) ∧ decode (zcc m_X8_picture) 56 = .ok (.getfield 21, 3) ∧ decode (zcc m_X8_picture) 59 = .ok (.iconst 3, 1) ∧ decode (zcc m_X8_picture) 60 = .ok (.iaload, 1) ∧ decode (zcc m_X8_picture) 61 = .ok (.invokevirtual 258, 3) ∧ decode (zcc m_X8_picture) 64 = .ok (.aload_n 0, 1) ∧ decode (zcc m_X8_picture) 65 = .ok (.getfield 51, 3) ∧ decode (zcc m_X8_picture) 68 = .ok (.iload_n 3, 1) := by decide +kernel
set_option maxRecDepth 20000 in
theorem eg_X8_picture_48 : decode (zcc m_X8_picture) 69 = .ok (.aload_n 0, 1) ∧ decode (zcc m_X8_picture) 70 = .ok (.getfield 249, 3) ∧ decode (zcc m_X8_picture) 73 = .ok (.imul, 1) ∧ decode (zcc m_X8_picture) 74 = .ok (.iload 4, 2) ∧ decode (zcc m_X8_picture) 76 = .ok (.iadd, 1) ∧ decode (zcc m_X8_picture) 77 = .ok (.iaload, 1) ∧ decode (zcc m_X8_picture) 78 = .ok (.ireturn, 1) := by decide +kernel
theorem d_X8_picture_0 : zD m_X8_picture 0 (.iload_n 1) 1 1 := ⟨eg_X8_picture_0.1, rfl⟩
theorem d_X8_picture_1 : zD m_X8_picture 1 (.iload_n 2) 1 2 := ⟨eg_X8_picture_0.2.1, rfl⟩
theorem d_X8_picture_2 : zD m_X8_picture 2 (.invokestatic 254) 3 5 := ⟨eg_X8_picture_0.2.2.1, rfl⟩
theorem d_X8_picture_5 : zDj m_X8_picture 5 (.ifCond .eq) 8 49 := ⟨44, eg_X8_picture_0.2.2.2.1, rfl, by decide⟩
theorem d_X8_picture_8 : zD m_X8_picture 8 (.iload_n 3) 1 9 := ⟨eg_X8_picture_0.2.2.2.2.1, rfl⟩
theorem d_X8_picture_9 : zD m_X8_picture 9 (.i2l) 1 10 := ⟨eg_X8_picture_0.2.2.2.2.2.1, rfl⟩
theorem d_X8_picture_10 : zD m_X8_picture 10 (.lconst 0) 1 11 := ⟨eg_X8_picture_0.2.2.2.2.2.2.1, rfl⟩
theorem d_X8_picture_11 : zD m_X8_picture 11 (.bipush 6) 2 13 := ⟨eg_X8_picture_0.2.2.2.2.2.2.2, rfl⟩
theorem d_X8_picture_13 : zD m_X8_picture 13 (.iload_n 1) 1 14 := ⟨eg_X8_picture_8.1, rfl⟩
theorem d_X8_picture_14 : zD m_X8_picture 14 (.iadd) 1 15 := ⟨eg_X8_picture_8.2.1, rfl⟩
theorem d_X8_picture_15 : zD m_X8_picture 15 (.iconst 1) 1 16 := ⟨eg_X8_picture_8.2.2.1, rfl⟩
theorem d_X8_picture_16 : zD m_X8_picture 16 (.isub) 1 17 := ⟨eg_X8_picture_8.2.2.2.1, rfl⟩
theorem d_X8_picture_17 : zD m_X8_picture 17 (.iload_n 1) 1 18 := ⟨eg_X8_picture_8.2.2.2.2.1, rfl⟩
theorem d_X8_picture_18 : zD m_X8_picture 18 (.idiv) 1 19 := ⟨eg_X8_picture_8.2.2.2.2.2.1, rfl⟩
theorem d_X8_picture_19 : zD m_X8_picture 19 (.iconst 1) 1 20 := ⟨eg_X8_picture_8.2.2.2.2.2.2.1, rfl⟩
theorem d_X8_picture_20 : zD m_X8_picture 20 (.isub) 1 21 := ⟨eg_X8_picture_8.2.2.2.2.2.2.2, rfl⟩
theorem d_X8_picture_21 : zD m_X8_picture 21 (.i2l) 1 22 := ⟨eg_X8_picture_16.1, rfl⟩
theorem d_X8_picture_22 : zD m_X8_picture 22 (.invokestatic 92) 3 25 := ⟨eg_X8_picture_16.2.1, rfl⟩
theorem d_X8_picture_25 : zDj m_X8_picture 25 (.ifCond .eq) 28 49 := ⟨24, eg_X8_picture_16.2.2.1, rfl, by decide⟩
theorem d_X8_picture_28 : zD m_X8_picture 28 (.iload 4) 2 30 := ⟨eg_X8_picture_16.2.2.2.1, rfl⟩
theorem d_X8_picture_30 : zD m_X8_picture 30 (.i2l) 1 31 := ⟨eg_X8_picture_16.2.2.2.2.1, rfl⟩
theorem d_X8_picture_31 : zD m_X8_picture 31 (.lconst 0) 1 32 := ⟨eg_X8_picture_16.2.2.2.2.2.1, rfl⟩
theorem d_X8_picture_32 : zD m_X8_picture 32 (.bipush 8) 2 34 := ⟨eg_X8_picture_16.2.2.2.2.2.2.1, rfl⟩
theorem d_X8_picture_34 : zD m_X8_picture 34 (.iload_n 2) 1 35 := ⟨eg_X8_picture_16.2.2.2.2.2.2.2, rfl⟩
theorem d_X8_picture_35 : zD m_X8_picture 35 (.iadd) 1 36 := ⟨eg_X8_picture_24.1, rfl⟩
theorem d_X8_picture_36 : zD m_X8_picture 36 (.iconst 1) 1 37 := ⟨eg_X8_picture_24.2.1, rfl⟩
theorem d_X8_picture_37 : zD m_X8_picture 37 (.isub) 1 38 := ⟨eg_X8_picture_24.2.2.1, rfl⟩
theorem d_X8_picture_38 : zD m_X8_picture 38 (.iload_n 2) 1 39 := ⟨eg_X8_picture_24.2.2.2.1, rfl⟩
theorem d_X8_picture_39 : zD m_X8_picture 39 (.idiv) 1 40 := ⟨eg_X8_picture_24.2.2.2.2.1, rfl⟩
theorem d_X8_picture_40 : zD m_X8_picture 40 (.iconst 1) 1 41 := ⟨eg_X8_picture_24.2.2.2.2.2.1, rfl⟩
theorem d_X8_picture_41 : zD m_X8_picture 41 (.isub) 1 42 := ⟨eg_X8_picture_24.2.2.2.2.2.2.1, rfl⟩
theorem d_X8_picture_42 : zD m_X8_picture 42 (.i2l) 1 43 := ⟨eg_X8_picture_24.2.2.2.2.2.2.2, rfl⟩
theorem d_X8_picture_43 : zD m_X8_picture 43 (.invokestatic 92) 3 46 := ⟨eg_X8_picture_32.1, rfl⟩
theorem d_X8_picture_46 : zDj m_X8_picture 46 (.ifCond .ne) 49 51 := ⟨5, eg_X8_picture_32.2.1, rfl, by decide⟩
theorem d_X8_picture_49 : zD m_X8_picture 49 (.iconst (-1)) 1 50 := ⟨eg_X8_picture_32.2.2.1, rfl⟩
theorem d_X8_picture_50 : decode (zcc m_X8_picture) 50 = .ok (.ireturn, 1) := eg_X8_picture_32.2.2.2.1
theorem d_X8_picture_51 : zD m_X8_picture 51 (.aload_n 0) 1 52 := ⟨eg_X8_picture_32.2.2.2.2.1, rfl⟩
theorem d_X8_picture_52 : zD m_X8_picture 52 (.iload_n 1) 1 53 := ⟨eg_X8_picture_32.2.2.2.2.2.1, rfl⟩
theorem d_X8_picture_53 : zD m_X8_picture 53 (.iload_n 2) 1 54 := ⟨eg_X8_picture_32.2.2.2.2.2.2.1, rfl⟩
theorem d_X8_picture_54 : zD m_X8_picture 54 (.iconst 1) 1 55 := ⟨eg_X8_picture_32.2.2.2.2.2.2.2, rfl⟩
theorem d_X8_picture_55 : zD m_X8_picture 55 (.aload_n 0) 1 56 := ⟨eg_X8_picture_40.1, rfl⟩
theorem d_X8_picture_56 : zD m_X8_picture 56 (.getfield 21) 3 59 := ⟨eg_X8_picture_40.2.1, rfl⟩
theorem d_X8_picture_59 : zD m_X8_picture 59 (.iconst 3) 1 60 := ⟨eg_X8_picture_40.2.2.1, rfl⟩
theorem d_X8_picture_60 : zD m_X8_picture 60 (.iaload) 1 61 := ⟨eg_X8_picture_40.2.2.2.1, rfl⟩
theorem d_X8_picture_61 : zD m_X8_picture 61 (.invokevirtual 258) 3 64 := ⟨eg_X8_picture_40.2.2.2.2.1, rfl⟩
theorem d_X8_picture_64 : zD m_X8_picture 64 (.aload_n 0) 1 65 := ⟨eg_X8_picture_40.2.2.2.2.2.1, rfl⟩
theorem d_X8_picture_65 : zD m_X8_picture 65 (.getfield 51) 3 68 := ⟨eg_X8_picture_40.2.2.2.2.2.2.1, rfl⟩
theorem d_X8_picture_68 : zD m_X8_picture 68 (.iload_n 3) 1 69 := ⟨eg_X8_picture_40.2.2.2.2.2.2.2, rfl⟩
theorem d_X8_picture_69 : zD m_X8_picture 69 (.aload_n 0) 1 70 := ⟨eg_X8_picture_48.1, rfl⟩
theorem d_X8_picture_70 : zD m_X8_picture 70 (.getfield 249) 3 73 := ⟨eg_X8_picture_48.2.1, rfl⟩
theorem d_X8_picture_73 : zD m_X8_picture 73 (.imul) 1 74 := ⟨eg_X8_picture_48.2.2.1, rfl⟩
theorem d_X8_picture_74 : zD m_X8_picture 74 (.iload 4) 2 76 := ⟨eg_X8_picture_48.2.2.2.1, rfl⟩
theorem d_X8_picture_76 : zD m_X8_picture 76 (.iadd) 1 77 := ⟨eg_X8_picture_48.2.2.2.2.1, rfl⟩
theorem d_X8_picture_77 : zD m_X8_picture 77 (.iaload) 1 78 := ⟨eg_X8_picture_48.2.2.2.2.2.1, rfl⟩
theorem d_X8_picture_78 : decode (zcc m_X8_picture) 78 = .ok (.ireturn, 1) := eg_X8_picture_48.2.2.2.2.2.2
set_option maxRecDepth 20000 in
theorem eg_X8_shades_0 : decode (zcc m_X8_shades) 0 = .ok (.iload_n 1, 1) ∧ decode (zcc m_X8_shades) 1 = .ok (.iload_n 2, 1) ∧ decode (zcc m_X8_shades) 2 = .ok (.invokestatic 254, 3) ∧ decode (zcc m_X8_shades) 5 = .ok (.ifCond .eq (15), 3) ∧ decode (zcc m_X8_shades) 8 = .ok (.iload_n 3, 1) ∧ decode (zcc m_X8_shades) 9 = .ok (.i2l, 1) ∧ decode (zcc m_X8_shades) 10 = .ok (.lconst 0, 1) ∧ decode (zcc m_X8_shades) 11 = .ok (.ldc2_w 252, 3) := by decide +kernel
set_option maxRecDepth 20000 in
theorem eg_X8_shades_8 : decode (zcc m_X8_shades) 14 = .ok (.invokestatic 92, 3) ∧ decode (zcc m_X8_shades) 17 = .ok (.ifCond .ne (5), 3) ∧ decode (zcc m_X8_shades) 20 = .ok (.iconst (-1), 1) ∧ decode (zcc m_X8_shades) 21 = .ok (.ireturn, 1) ∧ decode (zcc m_X8_shades) 22 = .ok (.aload_n 0, 1) ∧ decode (zcc m_X8_shades) 23 = .ok (.iload_n 1, 1) ∧ decode (zcc m_X8_shades) 24 = .ok (.iload_n 2, 1) ∧ decode (zcc m_X8_shades) 25 = .ok (.iconst 1, 1) := by decide +kernel
set_option maxRecDepth 20000 in
theorem eg_X8_shades_16 : decode (zcc m_X8_shades) 26 = .ok (.aload_n 0, 1) ∧ decode (zcc m_X8_shades) 27 = .ok (.getfield 21, 3) ∧ decode (zcc m_X8_shades) 30 = .ok (.iconst 3, 1) ∧ decode (zcc m_X8_shades) 31 = .ok (.iaload, 1) ∧ decode (zcc m_X8_shades) 32 = .ok (.invokevirtual 258, 3) ∧ decode (zcc m_X8_shades) 35 = .ok (.iconst 0, 1) ∧ decode (zcc m_X8_shades) 36 = .ok (.istore 4, 2) ∧ decode (zcc m_X8_shades) 38 = .ok (.sipush 255, 3) := by decide +kernel
set_option maxRecDepth 20000 in
theorem eg_X8_shades_24 : decode (zcc m_X8_shades) 41 = .ok (.istore 5, 2) ∧ decode (zcc m_X8_shades) 43 = .ok (.iconst 0, 1) ∧ decode (zcc m_X8_shades) 44 = .ok (.istore 6, 2) ∧ decode (zcc m_X8_shades) 46 = .ok (.iconst 0, 1) ∧ decode (zcc m_X8_shades) 47 = .ok (.istore 7, 2) ∧ decode (zcc m_X8_shades) 49 = .ok (.iconst 0, 1) ∧ decode (zcc m_X8_shades) 50 = .ok (.istore 8, 2) ∧ decode (zcc m_X8_shades) 52 = .ok (.iload 8, 2) := by decide +kernel
set_option maxRecDepth 20000 in
theorem eg_X8_shades_32 : decode (zcc m_X8_shades) 54 = .ok (.aload_n 0, 1) ∧ decode (zcc m_X8_shades) 55 = .ok (.getfield 246, 3) ∧ decode (zcc m_X8_shades) 58 = .ok (.aload_n 0, 1) ∧ decode (zcc m_X8_shades) 59 = .ok (.getfield 249, 3) ∧ decode (zcc m_X8_shades) 62 = .ok (.imul, 1) ∧ decode (zcc m_X8_shades) 63 = .ok (.if_icmp .ge (87), 3) ∧ decode (zcc m_X8_shades) 66 = .ok (.aload_n 0, 1) ∧ decode (zcc m_X8_shades) 67 = .ok (.getfield 51, 3) := by decide +kernel
set_option maxRecDepth 20000 in
theorem eg_X8_shades_40 : decode (zcc m_X8_shades) 70 = .ok (.iload 8, 2) ∧ decode (zcc m_X8_shades) 72 = .ok (.iaload, 1) ∧ decode (zcc m_X8_shades) 73 = .ok (.iload 4, 2) ∧ decode (zcc m_X8_shades) 75 = .ok (.if_icmp .le (13), 3) ∧ decode (zcc m_X8_shades) 78 = .ok (.aload_n 0, 1) ∧ decode (zcc m_X8_shades) 79 = .ok (.getfield 51, 3) ∧ decode (zcc m_X8_shades) 82 = .ok (.iload 8, 2) ∧ decode (zcc m_X8_shades) 84 = .ok (.iaload, 1) := by decide +kernel
set_option maxRecDepth 20000 in
theorem eg_X8_shades_48 : decode (zcc m_X8_shades) 85 = .ok (.goto (5), 3) ∧ decode (zcc m_X8_shades) 88 = .ok (.iload 4, 2) ∧ decode (zcc m_X8_shades) 90 = .ok (.istore 4, 2) ∧ decode (zcc m_X8_shades) 92 = .ok (.iload 5, 2) ∧ decode (zcc m_X8_shades) 94 = .ok (.aload_n 0, 1) ∧ decode (zcc m_X8_shades) 95 = .ok (.getfield 51, 3) ∧ decode (zcc m_X8_shades) 98 = .ok (.iload 8, 2) ∧ decode (zcc m_X8_shades) 100 = .ok (.iaload, 1) := by decide +kernel
set_option maxRecDepth 20000 in
theorem eg_X8_shades_56 : decode (zcc m_X8_shades) 101 = .ok (.invokestatic 191, 3) ∧ decode (zcc m_X8_shades) 104 = .ok (.istore 5, 2) ∧ decode (zcc m_X8_shades) 106 = .ok (.iload 6, 2) ∧ decode (zcc m_X8_shades) 108 = .ok (.aload_n 0, 1) ∧ decode (zcc m_X8_shades) 109 = .ok (.getfield 51, 3) ∧ decode (zcc m_X8_shades) 112 = .ok (.iload 8, 2) ∧ decode (zcc m_X8_shades) 114 = .ok (.iaload, 1) ∧ decode (zcc m_X8_shades) 115 = .ok (.iadd, 1) := by decide +kernel
set_option maxRecDepth 20000 in
theorem eg_X8_shades_64 : decode (zcc m_X8_shades) 116 = .ok (.istore 6, 2) ∧ decode (zcc m_X8_shades) 118 = .ok (.iload 7, 2) ∧ decode (zcc m_X8_shades) 120 = .ok (.aload_n 0, 1) ∧ decode (zcc m_X8_shades) 121 = .ok (.getfield 51, 3) ∧ decode (zcc m_X8_shades) 124 = .ok (.iload 8, 2) ∧ decode (zcc m_X8_shades) 126 = .ok (.iaload, 1) ∧ decode (zcc m_X8_shades) 127 = .ok (.sipush 255, 3) ∧ decode (zcc m_X8_shades) 130 = .ok (.if_icmp .ne (7), 3) := by decide +kernel
set_option maxRecDepth 20000 in
theorem eg_X8_shades_72 : decode (zcc m_X8_shades) 133 = .ok (.iconst 1, 1) ∧ decode (zcc m_X8_shades) 134 = .ok (.goto (4), 3) ∧ decode (zcc m_X8_shades) 137 = .ok (.iconst 0, 1) ∧ decode (zcc m_X8_shades) 138 = .ok (.invokestatic 237, 3) ∧ decode (zcc m_X8_shades) 141 = .ok (.iadd, 1) ∧ decode (zcc m_X8_shades) 142 = .ok (.istore 7, 2) ∧ decode (zcc m_X8_shades) 144 = .ok (.iinc 8 1, 3) ∧ decode (zcc m_X8_shades) 147 = .ok (.goto (-95), 3) := by decide +kernel
set_option maxRecDepth 20000 in
theorem eg_X8_shades_80 : decode (zcc m_X8_shades) 150 = .ok (.iload_n 3, 1) ∧ decode (zcc m_X8_shades) 151 = .ok (.ifCond .ne (8), 3) ∧ decode (zcc m_X8_shades) 154 = .ok (.iload 4, 2) ∧ decode (zcc m_X8_shades) 156 = .ok (.goto (25), 3) ∧ decode (zcc m_X8_shades) 159 = .ok (.iload_n 3, 1) ∧ decode (zcc m_X8_shades) 160 = .ok (.iconst 1, 1) ∧ decode (zcc m_X8_shades) 161 = .ok (.if_icmp .ne (8), 3) ∧ decode (zcc m_X8_shades) 164 = .ok (.iload 5, 2) := by decide +kernel
set_option maxRecDepth 20000 in
theorem eg_X8_shades_88 : decode (zcc m_X8_shades) 166 = .ok (.goto (15), 3) ∧ decode (zcc m_X8_shades) 169 = .ok (.iload_n 3, 1) ∧ decode (zcc m_X8_shades) 170 = .ok (.iconst 2, 1) ∧ decode (zcc m_X8_shades) 171 = .ok (.if_icmp .ne (8), 3) ∧ decode (zcc m_X8_shades) 174 = .ok (.iload 6, 2) ∧ decode (zcc m_X8_shades) 176 = .ok (.goto (5), 3) ∧ decode (zcc m_X8_shades) 179 = .ok (.iload 7, 2) ∧ decode (zcc m_X8_shades) 181 = .ok (.ireturn, 1) := by decide +kernel
theorem d_X8_shades_0 : zD m_X8_shades 0 (.iload_n 1) 1 1 := ⟨eg_X8_shades_0.1, rfl⟩
theorem d_X8_shades_1 : zD m_X8_shades 1 (.iload_n 2) 1 2 := ⟨eg_X8_shades_0.2.1, rfl⟩
theorem d_X8_shades_2 : zD m_X8_shades 2 (.invokestatic 254) 3 5 := ⟨eg_X8_shades_0.2.2.1, rfl⟩
theorem d_X8_shades_5 : zDj m_X8_shades 5 (.ifCond .eq) 8 20 := ⟨15, eg_X8_shades_0.2.2.2.1, rfl, by decide⟩
theorem d_X8_shades_8 : zD m_X8_shades 8 (.iload_n 3) 1 9 := ⟨eg_X8_shades_0.2.2.2.2.1, rfl⟩
theorem d_X8_shades_9 : zD m_X8_shades 9 (.i2l) 1 10 := ⟨eg_X8_shades_0.2.2.2.2.2.1, rfl⟩
theorem d_X8_shades_10 : zD m_X8_shades 10 (.lconst 0) 1 11 := ⟨eg_X8_shades_0.2.2.2.2.2.2.1, rfl⟩
theorem d_X8_shades_11 : zD m_X8_shades 11 (.ldc2_w 252) 3 14 := ⟨eg_X8_shades_0.2.2.2.2.2.2.2, rfl⟩
theorem d_X8_shades_14 : zD m_X8_shades 14 (.invokestatic 92) 3 17 := ⟨eg_X8_shades_8.1, rfl⟩
theorem d_X8_shades_17 : zDj m_X8_shades 17 (.ifCond .ne) 20 22 := ⟨5, eg_X8_shades_8.2.1, rfl, by decide⟩
theorem d_X8_shades_20 : zD m_X8_shades 20 (.iconst (-1)) 1 21 := ⟨eg_X8_shades_8.2.2.1, rfl⟩
theorem d_X8_shades_21 : decode (zcc m_X8_shades) 21 = .ok (.ireturn, 1) := eg_X8_shades_8.2.2.2.1
theorem d_X8_shades_22 : zD m_X8_shades 22 (.aload_n 0) 1 23 := ⟨eg_X8_shades_8.2.2.2.2.1, rfl⟩
theorem d_X8_shades_23 : zD m_X8_shades 23 (.iload_n 1) 1 24 := ⟨eg_X8_shades_8.2.2.2.2.2.1, rfl⟩
theorem d_X8_shades_24 : zD m_X8_shades 24 (.iload_n 2) 1 25 := ⟨eg_X8_shades_8.2.2.2.2.2.2.1, rfl⟩
theorem d_X8_shades_25 : zD m_X8_shades 25 (.iconst 1) 1 26 := ⟨eg_X8_shades_8.2.2.2.2.2.2.2, rfl⟩
theorem d_X8_shades_26 : zD m_X8_shades 26 (.aload_n 0) 1 27 := ⟨eg_X8_shades_16.1, rfl⟩
theorem d_X8_shades_27 : zD m_X8_shades 27 (.getfield 21) 3 30 := ⟨eg_X8_shades_16.2.1, rfl⟩
theorem d_X8_shades_30 : zD m_X8_shades 30 (.iconst 3) 1 31 := ⟨eg_X8_shades_16.2.2.1, rfl⟩
theorem d_X8_shades_31 : zD m_X8_shades 31 (.iaload) 1 32 := ⟨eg_X8_shades_16.2.2.2.1, rfl⟩
theorem d_X8_shades_32 : zD m_X8_shades 32 (.invokevirtual 258) 3 35 := ⟨eg_X8_shades_16.2.2.2.2.1, rfl⟩
theorem d_X8_shades_35 : zD m_X8_shades 35 (.iconst 0) 1 36 := ⟨eg_X8_shades_16.2.2.2.2.2.1, rfl⟩
theorem d_X8_shades_36 : zD m_X8_shades 36 (.istore 4) 2 38 := ⟨eg_X8_shades_16.2.2.2.2.2.2.1, rfl⟩
theorem d_X8_shades_38 : zD m_X8_shades 38 (.sipush 255) 3 41 := ⟨eg_X8_shades_16.2.2.2.2.2.2.2, rfl⟩
theorem d_X8_shades_41 : zD m_X8_shades 41 (.istore 5) 2 43 := ⟨eg_X8_shades_24.1, rfl⟩
theorem d_X8_shades_43 : zD m_X8_shades 43 (.iconst 0) 1 44 := ⟨eg_X8_shades_24.2.1, rfl⟩
theorem d_X8_shades_44 : zD m_X8_shades 44 (.istore 6) 2 46 := ⟨eg_X8_shades_24.2.2.1, rfl⟩
theorem d_X8_shades_46 : zD m_X8_shades 46 (.iconst 0) 1 47 := ⟨eg_X8_shades_24.2.2.2.1, rfl⟩
theorem d_X8_shades_47 : zD m_X8_shades 47 (.istore 7) 2 49 := ⟨eg_X8_shades_24.2.2.2.2.1, rfl⟩
theorem d_X8_shades_49 : zD m_X8_shades 49 (.iconst 0) 1 50 := ⟨eg_X8_shades_24.2.2.2.2.2.1, rfl⟩
theorem d_X8_shades_50 : zD m_X8_shades 50 (.istore 8) 2 52 := ⟨eg_X8_shades_24.2.2.2.2.2.2.1, rfl⟩
theorem d_X8_shades_52 : zD m_X8_shades 52 (.iload 8) 2 54 := ⟨eg_X8_shades_24.2.2.2.2.2.2.2, rfl⟩
theorem d_X8_shades_54 : zD m_X8_shades 54 (.aload_n 0) 1 55 := ⟨eg_X8_shades_32.1, rfl⟩
theorem d_X8_shades_55 : zD m_X8_shades 55 (.getfield 246) 3 58 := ⟨eg_X8_shades_32.2.1, rfl⟩
theorem d_X8_shades_58 : zD m_X8_shades 58 (.aload_n 0) 1 59 := ⟨eg_X8_shades_32.2.2.1, rfl⟩
theorem d_X8_shades_59 : zD m_X8_shades 59 (.getfield 249) 3 62 := ⟨eg_X8_shades_32.2.2.2.1, rfl⟩
theorem d_X8_shades_62 : zD m_X8_shades 62 (.imul) 1 63 := ⟨eg_X8_shades_32.2.2.2.2.1, rfl⟩
theorem d_X8_shades_63 : zDj m_X8_shades 63 (.if_icmp .ge) 66 150 := ⟨87, eg_X8_shades_32.2.2.2.2.2.1, rfl, by decide⟩
theorem d_X8_shades_66 : zD m_X8_shades 66 (.aload_n 0) 1 67 := ⟨eg_X8_shades_32.2.2.2.2.2.2.1, rfl⟩
theorem d_X8_shades_67 : zD m_X8_shades 67 (.getfield 51) 3 70 := ⟨eg_X8_shades_32.2.2.2.2.2.2.2, rfl⟩
theorem d_X8_shades_70 : zD m_X8_shades 70 (.iload 8) 2 72 := ⟨eg_X8_shades_40.1, rfl⟩
theorem d_X8_shades_72 : zD m_X8_shades 72 (.iaload) 1 73 := ⟨eg_X8_shades_40.2.1, rfl⟩
theorem d_X8_shades_73 : zD m_X8_shades 73 (.iload 4) 2 75 := ⟨eg_X8_shades_40.2.2.1, rfl⟩
theorem d_X8_shades_75 : zDj m_X8_shades 75 (.if_icmp .le) 78 88 := ⟨13, eg_X8_shades_40.2.2.2.1, rfl, by decide⟩
theorem d_X8_shades_78 : zD m_X8_shades 78 (.aload_n 0) 1 79 := ⟨eg_X8_shades_40.2.2.2.2.1, rfl⟩
theorem d_X8_shades_79 : zD m_X8_shades 79 (.getfield 51) 3 82 := ⟨eg_X8_shades_40.2.2.2.2.2.1, rfl⟩
theorem d_X8_shades_82 : zD m_X8_shades 82 (.iload 8) 2 84 := ⟨eg_X8_shades_40.2.2.2.2.2.2.1, rfl⟩
theorem d_X8_shades_84 : zD m_X8_shades 84 (.iaload) 1 85 := ⟨eg_X8_shades_40.2.2.2.2.2.2.2, rfl⟩
theorem d_X8_shades_85 : zDj m_X8_shades 85 (.goto) 88 90 := ⟨5, eg_X8_shades_48.1, rfl, by decide⟩
theorem d_X8_shades_88 : zD m_X8_shades 88 (.iload 4) 2 90 := ⟨eg_X8_shades_48.2.1, rfl⟩
theorem d_X8_shades_90 : zD m_X8_shades 90 (.istore 4) 2 92 := ⟨eg_X8_shades_48.2.2.1, rfl⟩
theorem d_X8_shades_92 : zD m_X8_shades 92 (.iload 5) 2 94 := ⟨eg_X8_shades_48.2.2.2.1, rfl⟩
theorem d_X8_shades_94 : zD m_X8_shades 94 (.aload_n 0) 1 95 := ⟨eg_X8_shades_48.2.2.2.2.1, rfl⟩
theorem d_X8_shades_95 : zD m_X8_shades 95 (.getfield 51) 3 98 := ⟨eg_X8_shades_48.2.2.2.2.2.1, rfl⟩
theorem d_X8_shades_98 : zD m_X8_shades 98 (.iload 8) 2 100 := ⟨eg_X8_shades_48.2.2.2.2.2.2.1, rfl⟩
theorem d_X8_shades_100 : zD m_X8_shades 100 (.iaload) 1 101 := ⟨eg_X8_shades_48.2.2.2.2.2.2.2, rfl⟩
theorem d_X8_shades_101 : zD m_X8_shades 101 (.invokestatic 191) 3 104 := ⟨eg_X8_shades_56.1, rfl⟩
theorem d_X8_shades_104 : zD m_X8_shades 104 (.istore 5) 2 106 := ⟨eg_X8_shades_56.2.1, rfl⟩
theorem d_X8_shades_106 : zD m_X8_shades 106 (.iload 6) 2 108 := ⟨eg_X8_shades_56.2.2.1, rfl⟩
theorem d_X8_shades_108 : zD m_X8_shades 108 (.aload_n 0) 1 109 := ⟨eg_X8_shades_56.2.2.2.1, rfl⟩
theorem d_X8_shades_109 : zD m_X8_shades 109 (.getfield 51) 3 112 := ⟨eg_X8_shades_56.2.2.2.2.1, rfl⟩
theorem d_X8_shades_112 : zD m_X8_shades 112 (.iload 8) 2 114 := ⟨eg_X8_shades_56.2.2.2.2.2.1, rfl⟩
theorem d_X8_shades_114 : zD m_X8_shades 114 (.iaload) 1 115 := ⟨eg_X8_shades_56.2.2.2.2.2.2.1, rfl⟩
theorem d_X8_shades_115 : zD m_X8_shades 115 (.iadd) 1 116 := ⟨eg_X8_shades_56.2.2.2.2.2.2.2, rfl⟩
theorem d_X8_shades_116 : zD m_X8_shades 116 (.istore 6) 2 118 := ⟨eg_X8_shades_64.1, rfl⟩
theorem d_X8_shades_118 : zD m_X8_shades 118 (.iload 7) 2 120 := ⟨eg_X8_shades_64.2.1, rfl⟩
theorem d_X8_shades_120 : zD m_X8_shades 120 (.aload_n 0) 1 121 := ⟨eg_X8_shades_64.2.2.1, rfl⟩
theorem d_X8_shades_121 : zD m_X8_shades 121 (.getfield 51) 3 124 := ⟨eg_X8_shades_64.2.2.2.1, rfl⟩
theorem d_X8_shades_124 : zD m_X8_shades 124 (.iload 8) 2 126 := ⟨eg_X8_shades_64.2.2.2.2.1, rfl⟩
theorem d_X8_shades_126 : zD m_X8_shades 126 (.iaload) 1 127 := ⟨eg_X8_shades_64.2.2.2.2.2.1, rfl⟩
theorem d_X8_shades_127 : zD m_X8_shades 127 (.sipush 255) 3 130 := ⟨eg_X8_shades_64.2.2.2.2.2.2.1, rfl⟩
theorem d_X8_shades_130 : zDj m_X8_shades 130 (.if_icmp .ne) 133 137 := ⟨7, eg_X8_shades_64.2.2.2.2.2.2.2, rfl, by decide⟩
theorem d_X8_shades_133 : zD m_X8_shades 133 (.iconst 1) 1 134 := ⟨eg_X8_shades_72.1, rfl⟩
theorem d_X8_shades_134 : zDj m_X8_shades 134 (.goto) 137 138 := ⟨4, eg_X8_shades_72.2.1, rfl, by decide⟩
theorem d_X8_shades_137 : zD m_X8_shades 137 (.iconst 0) 1 138 := ⟨eg_X8_shades_72.2.2.1, rfl⟩
theorem d_X8_shades_138 : zD m_X8_shades 138 (.invokestatic 237) 3 141 := ⟨eg_X8_shades_72.2.2.2.1, rfl⟩
theorem d_X8_shades_141 : zD m_X8_shades 141 (.iadd) 1 142 := ⟨eg_X8_shades_72.2.2.2.2.1, rfl⟩
theorem d_X8_shades_142 : zD m_X8_shades 142 (.istore 7) 2 144 := ⟨eg_X8_shades_72.2.2.2.2.2.1, rfl⟩
theorem d_X8_shades_144 : zD m_X8_shades 144 (.iinc 8 1) 3 147 := ⟨eg_X8_shades_72.2.2.2.2.2.2.1, rfl⟩
theorem d_X8_shades_147 : zDj m_X8_shades 147 (.goto) 150 52 := ⟨-95, eg_X8_shades_72.2.2.2.2.2.2.2, rfl, by decide⟩
theorem d_X8_shades_150 : zD m_X8_shades 150 (.iload_n 3) 1 151 := ⟨eg_X8_shades_80.1, rfl⟩
theorem d_X8_shades_151 : zDj m_X8_shades 151 (.ifCond .ne) 154 159 := ⟨8, eg_X8_shades_80.2.1, rfl, by decide⟩
theorem d_X8_shades_154 : zD m_X8_shades 154 (.iload 4) 2 156 := ⟨eg_X8_shades_80.2.2.1, rfl⟩
theorem d_X8_shades_156 : zDj m_X8_shades 156 (.goto) 159 181 := ⟨25, eg_X8_shades_80.2.2.2.1, rfl, by decide⟩
theorem d_X8_shades_159 : zD m_X8_shades 159 (.iload_n 3) 1 160 := ⟨eg_X8_shades_80.2.2.2.2.1, rfl⟩
theorem d_X8_shades_160 : zD m_X8_shades 160 (.iconst 1) 1 161 := ⟨eg_X8_shades_80.2.2.2.2.2.1, rfl⟩
theorem d_X8_shades_161 : zDj m_X8_shades 161 (.if_icmp .ne) 164 169 := ⟨8, eg_X8_shades_80.2.2.2.2.2.2.1, rfl, by decide⟩
theorem d_X8_shades_164 : zD m_X8_shades 164 (.iload 5) 2 166 := ⟨eg_X8_shades_80.2.2.2.2.2.2.2, rfl⟩
theorem d_X8_shades_166 : zDj m_X8_shades 166 (.goto) 169 181 := ⟨15, eg_X8_shades_88.1, rfl, by decide⟩
theorem d_X8_shades_169 : zD m_X8_shades 169 (.iload_n 3) 1 170 := ⟨eg_X8_shades_88.2.1, rfl⟩
theorem d_X8_shades_170 : zD m_X8_shades 170 (.iconst 2) 1 171 := ⟨eg_X8_shades_88.2.2.1, rfl⟩
theorem d_X8_shades_171 : zDj m_X8_shades 171 (.if_icmp .ne) 174 179 := ⟨8, eg_X8_shades_88.2.2.2.1, rfl, by decide⟩
theorem d_X8_shades_174 : zD m_X8_shades 174 (.iload 6) 2 176 := ⟨eg_X8_shades_88.2.2.2.2.1, rfl⟩
theorem d_X8_shades_176 : zDj m_X8_shades 176 (.goto) 179 181 := ⟨5, eg_X8_shades_88.2.2.2.2.2.1, rfl, by decide⟩
theorem d_X8_shades_179 : zD m_X8_shades 179 (.iload 7) 2 181 := ⟨eg_X8_shades_88.2.2.2.2.2.2.1, rfl⟩
theorem d_X8_shades_181 : decode (zcc m_X8_shades) 181 = .ok (.ireturn, 1) := eg_X8_shades_88.2.2.2.2.2.2.2
set_option maxRecDepth 20000 in
theorem eg_X8_late_0 : decode (zcc m_X8_late) 0 = .ok (.iload_n 1, 1) ∧ decode (zcc m_X8_late) 1 = .ok (.i2l, 1) ∧ decode (zcc m_X8_late) 2 = .ok (.lconst 0, 1) ∧ decode (zcc m_X8_late) 3 = .ok (.ldc2_w 235, 3) ∧ decode (zcc m_X8_late) 6 = .ok (.invokestatic 92, 3) ∧ decode (zcc m_X8_late) 9 = .ok (.ifCond .ne (5), 3) ∧ decode (zcc m_X8_late) 12 = .ok (.iconst (-1), 1) ∧ decode (zcc m_X8_late) 13 = .ok (.ireturn, 1) := by decide +kernel
set_option maxRecDepth 20000 in
theorem eg_X8_late_8 : decode (zcc m_X8_late) 14 = .ok (.aload_n 0, 1) ∧ decode (zcc m_X8_late) 15 = .ok (.iconst 1, 1) ∧ decode (zcc m_X8_late) 16 = .ok (.iconst 1, 1) ∧ decode (zcc m_X8_late) 17 = .ok (.iconst 1, 1) ∧ decode (zcc m_X8_late) 18 = .ok (.aload_n 0, 1) ∧ decode (zcc m_X8_late) 19 = .ok (.getfield 21, 3) ∧ decode (zcc m_X8_late) 22 = .ok (.iconst 3, 1) ∧ decode (zcc m_X8_late) 23 = .ok (.iaload, 1) := by decide +kernel
set_option maxRecDepth 20000 in
theorem eg_X8_late_16 : decode (zcc m_X8_late) 24 = .ok (.invokevirtual 258, 3) ∧ decode (zcc m_X8_late) 27 = .ok (.aload_n 0, 1) ∧ decode (zcc m_X8_late) 28 = .ok (.sipush 480, 3) ∧ decode (zcc m_X8_late) 31 = .ok (.iconst 1, 1) ∧ decode (zcc m_X8_late) 32 = .ok (.aload_n 0, 1) ∧ decode (zcc m_X8_late) 33 = .ok (.getfield 21, 3) ∧ decode (zcc m_X8_late) 36 = .ok (.iconst 3, 1) ∧ decode (zcc m_X8_late) 37 = .ok (.iaload, 1) := by decide +kernel
set_option maxRecDepth 20000 in
theorem eg_X8_late_24 : decode (zcc m_X8_late) 38 = .ok (.invokevirtual 222, 3) ∧ decode (zcc m_X8_late) 41 = .ok (.aload_n 0, 1) ∧ decode (zcc m_X8_late) 42 = .ok (.getfield 7, 3) ∧ decode (zcc m_X8_late) 45 = .ok (.sipush 528, 3) ∧ decode (zcc m_X8_late) 48 = .ok (.iload_n 1, 1) ∧ decode (zcc m_X8_late) 49 = .ok (.iadd, 1) ∧ decode (zcc m_X8_late) 50 = .ok (.iaload, 1) ∧ decode (zcc m_X8_late) 51 = .ok (.ireturn, 1) := by decide +kernel
theorem d_X8_late_0 : zD m_X8_late 0 (.iload_n 1) 1 1 := ⟨eg_X8_late_0.1, rfl⟩
theorem d_X8_late_1 : zD m_X8_late 1 (.i2l) 1 2 := ⟨eg_X8_late_0.2.1, rfl⟩
theorem d_X8_late_2 : zD m_X8_late 2 (.lconst 0) 1 3 := ⟨eg_X8_late_0.2.2.1, rfl⟩
theorem d_X8_late_3 : zD m_X8_late 3 (.ldc2_w 235) 3 6 := ⟨eg_X8_late_0.2.2.2.1, rfl⟩
theorem d_X8_late_6 : zD m_X8_late 6 (.invokestatic 92) 3 9 := ⟨eg_X8_late_0.2.2.2.2.1, rfl⟩
theorem d_X8_late_9 : zDj m_X8_late 9 (.ifCond .ne) 12 14 := ⟨5, eg_X8_late_0.2.2.2.2.2.1, rfl, by decide⟩
theorem d_X8_late_12 : zD m_X8_late 12 (.iconst (-1)) 1 13 := ⟨eg_X8_late_0.2.2.2.2.2.2.1, rfl⟩
theorem d_X8_late_13 : decode (zcc m_X8_late) 13 = .ok (.ireturn, 1) := eg_X8_late_0.2.2.2.2.2.2.2
theorem d_X8_late_14 : zD m_X8_late 14 (.aload_n 0) 1 15 := ⟨eg_X8_late_8.1, rfl⟩
theorem d_X8_late_15 : zD m_X8_late 15 (.iconst 1) 1 16 := ⟨eg_X8_late_8.2.1, rfl⟩
theorem d_X8_late_16 : zD m_X8_late 16 (.iconst 1) 1 17 := ⟨eg_X8_late_8.2.2.1, rfl⟩
theorem d_X8_late_17 : zD m_X8_late 17 (.iconst 1) 1 18 := ⟨eg_X8_late_8.2.2.2.1, rfl⟩
theorem d_X8_late_18 : zD m_X8_late 18 (.aload_n 0) 1 19 := ⟨eg_X8_late_8.2.2.2.2.1, rfl⟩
theorem d_X8_late_19 : zD m_X8_late 19 (.getfield 21) 3 22 := ⟨eg_X8_late_8.2.2.2.2.2.1, rfl⟩
theorem d_X8_late_22 : zD m_X8_late 22 (.iconst 3) 1 23 := ⟨eg_X8_late_8.2.2.2.2.2.2.1, rfl⟩
theorem d_X8_late_23 : zD m_X8_late 23 (.iaload) 1 24 := ⟨eg_X8_late_8.2.2.2.2.2.2.2, rfl⟩
theorem d_X8_late_24 : zD m_X8_late 24 (.invokevirtual 258) 3 27 := ⟨eg_X8_late_16.1, rfl⟩
theorem d_X8_late_27 : zD m_X8_late 27 (.aload_n 0) 1 28 := ⟨eg_X8_late_16.2.1, rfl⟩
theorem d_X8_late_28 : zD m_X8_late 28 (.sipush 480) 3 31 := ⟨eg_X8_late_16.2.2.1, rfl⟩
theorem d_X8_late_31 : zD m_X8_late 31 (.iconst 1) 1 32 := ⟨eg_X8_late_16.2.2.2.1, rfl⟩
theorem d_X8_late_32 : zD m_X8_late 32 (.aload_n 0) 1 33 := ⟨eg_X8_late_16.2.2.2.2.1, rfl⟩
theorem d_X8_late_33 : zD m_X8_late 33 (.getfield 21) 3 36 := ⟨eg_X8_late_16.2.2.2.2.2.1, rfl⟩
theorem d_X8_late_36 : zD m_X8_late 36 (.iconst 3) 1 37 := ⟨eg_X8_late_16.2.2.2.2.2.2.1, rfl⟩
theorem d_X8_late_37 : zD m_X8_late 37 (.iaload) 1 38 := ⟨eg_X8_late_16.2.2.2.2.2.2.2, rfl⟩
theorem d_X8_late_38 : zD m_X8_late 38 (.invokevirtual 222) 3 41 := ⟨eg_X8_late_24.1, rfl⟩
theorem d_X8_late_41 : zD m_X8_late 41 (.aload_n 0) 1 42 := ⟨eg_X8_late_24.2.1, rfl⟩
theorem d_X8_late_42 : zD m_X8_late 42 (.getfield 7) 3 45 := ⟨eg_X8_late_24.2.2.1, rfl⟩
theorem d_X8_late_45 : zD m_X8_late 45 (.sipush 528) 3 48 := ⟨eg_X8_late_24.2.2.2.1, rfl⟩
theorem d_X8_late_48 : zD m_X8_late 48 (.iload_n 1) 1 49 := ⟨eg_X8_late_24.2.2.2.2.1, rfl⟩
theorem d_X8_late_49 : zD m_X8_late 49 (.iadd) 1 50 := ⟨eg_X8_late_24.2.2.2.2.2.1, rfl⟩
theorem d_X8_late_50 : zD m_X8_late 50 (.iaload) 1 51 := ⟨eg_X8_late_24.2.2.2.2.2.2.1, rfl⟩
theorem d_X8_late_51 : decode (zcc m_X8_late) 51 = .ok (.ireturn, 1) := eg_X8_late_24.2.2.2.2.2.2.2
set_option maxRecDepth 20000 in
theorem eg_X8_smear_0 : decode (zcc m_X8_smear) 0 = .ok (.iload_n 1, 1) ∧ decode (zcc m_X8_smear) 1 = .ok (.invokestatic 183, 3) ∧ decode (zcc m_X8_smear) 4 = .ok (.ifCond .ne (5), 3) ∧ decode (zcc m_X8_smear) 7 = .ok (.iconst (-1), 1) ∧ decode (zcc m_X8_smear) 8 = .ok (.ireturn, 1) ∧ decode (zcc m_X8_smear) 9 = .ok (.iconst 0, 1) ∧ decode (zcc m_X8_smear) 10 = .ok (.istore_n 2, 1) ∧ decode (zcc m_X8_smear) 11 = .ok (.iload_n 1, 1) := by decide +kernel
set_option maxRecDepth 20000 in
theorem eg_X8_smear_8 : decode (zcc m_X8_smear) 12 = .ok (.bipush 8, 2) ∧ decode (zcc m_X8_smear) 14 = .ok (.iadd, 1) ∧ decode (zcc m_X8_smear) 15 = .ok (.istore_n 3, 1) ∧ decode (zcc m_X8_smear) 16 = .ok (.iload_n 3, 1) ∧ decode (zcc m_X8_smear) 17 = .ok (.bipush 48, 2) ∧ decode (zcc m_X8_smear) 19 = .ok (.if_icmp .ge (28), 3) ∧ decode (zcc m_X8_smear) 22 = .ok (.iload_n 2, 1) ∧ decode (zcc m_X8_smear) 23 = .ok (.aload_n 0, 1) := by decide +kernel
set_option maxRecDepth 20000 in
theorem eg_X8_smear_16 : decode (zcc m_X8_smear) 24 = .ok (.getfield 7, 3) ∧ decode (zcc m_X8_smear) 27 = .ok (.bipush 104, 2) ∧ decode (zcc m_X8_smear) 29 = .ok (.iload_n 3, 1) ∧ decode (zcc m_X8_smear) 30 = .ok (.iadd, 1) ∧ decode (zcc m_X8_smear) 31 = .ok (.iaload, 1) ∧ decode (zcc m_X8_smear) 32 = .ok (.aload_n 0, 1) ∧ decode (zcc m_X8_smear) 33 = .ok (.getfield 21, 3) ∧ decode (zcc m_X8_smear) 36 = .ok (.iconst 3, 1) := by decide +kernel
set_option maxRecDepth 20000 in
theorem eg_X8_smear_24 : decode (zcc m_X8_smear) 37 = .ok (.iaload, 1) ∧ decode (zcc m_X8_smear) 38 = .ok (.imul, 1) ∧ decode (zcc m_X8_smear) 39 = .ok (.iadd, 1) ∧ decode (zcc m_X8_smear) 40 = .ok (.istore_n 2, 1) ∧ decode (zcc m_X8_smear) 41 = .ok (.iinc 3 8, 3) ∧ decode (zcc m_X8_smear) 44 = .ok (.goto (-28), 3) ∧ decode (zcc m_X8_smear) 47 = .ok (.iload_n 2, 1) ∧ decode (zcc m_X8_smear) 48 = .ok (.ireturn, 1) := by decide +kernel
theorem d_X8_smear_0 : zD m_X8_smear 0 (.iload_n 1) 1 1 := ⟨eg_X8_smear_0.1, rfl⟩
theorem d_X8_smear_1 : zD m_X8_smear 1 (.invokestatic 183) 3 4 := ⟨eg_X8_smear_0.2.1, rfl⟩
theorem d_X8_smear_4 : zDj m_X8_smear 4 (.ifCond .ne) 7 9 := ⟨5, eg_X8_smear_0.2.2.1, rfl, by decide⟩
theorem d_X8_smear_7 : zD m_X8_smear 7 (.iconst (-1)) 1 8 := ⟨eg_X8_smear_0.2.2.2.1, rfl⟩
theorem d_X8_smear_8 : decode (zcc m_X8_smear) 8 = .ok (.ireturn, 1) := eg_X8_smear_0.2.2.2.2.1
theorem d_X8_smear_9 : zD m_X8_smear 9 (.iconst 0) 1 10 := ⟨eg_X8_smear_0.2.2.2.2.2.1, rfl⟩
theorem d_X8_smear_10 : zD m_X8_smear 10 (.istore_n 2) 1 11 := ⟨eg_X8_smear_0.2.2.2.2.2.2.1, rfl⟩
theorem d_X8_smear_11 : zD m_X8_smear 11 (.iload_n 1) 1 12 := ⟨eg_X8_smear_0.2.2.2.2.2.2.2, rfl⟩
theorem d_X8_smear_12 : zD m_X8_smear 12 (.bipush 8) 2 14 := ⟨eg_X8_smear_8.1, rfl⟩
theorem d_X8_smear_14 : zD m_X8_smear 14 (.iadd) 1 15 := ⟨eg_X8_smear_8.2.1, rfl⟩
theorem d_X8_smear_15 : zD m_X8_smear 15 (.istore_n 3) 1 16 := ⟨eg_X8_smear_8.2.2.1, rfl⟩
theorem d_X8_smear_16 : zD m_X8_smear 16 (.iload_n 3) 1 17 := ⟨eg_X8_smear_8.2.2.2.1, rfl⟩
theorem d_X8_smear_17 : zD m_X8_smear 17 (.bipush 48) 2 19 := ⟨eg_X8_smear_8.2.2.2.2.1, rfl⟩
theorem d_X8_smear_19 : zDj m_X8_smear 19 (.if_icmp .ge) 22 47 := ⟨28, eg_X8_smear_8.2.2.2.2.2.1, rfl, by decide⟩
theorem d_X8_smear_22 : zD m_X8_smear 22 (.iload_n 2) 1 23 := ⟨eg_X8_smear_8.2.2.2.2.2.2.1, rfl⟩
theorem d_X8_smear_23 : zD m_X8_smear 23 (.aload_n 0) 1 24 := ⟨eg_X8_smear_8.2.2.2.2.2.2.2, rfl⟩
theorem d_X8_smear_24 : zD m_X8_smear 24 (.getfield 7) 3 27 := ⟨eg_X8_smear_16.1, rfl⟩
theorem d_X8_smear_27 : zD m_X8_smear 27 (.bipush 104) 2 29 := ⟨eg_X8_smear_16.2.1, rfl⟩
theorem d_X8_smear_29 : zD m_X8_smear 29 (.iload_n 3) 1 30 := ⟨eg_X8_smear_16.2.2.1, rfl⟩
theorem d_X8_smear_30 : zD m_X8_smear 30 (.iadd) 1 31 := ⟨eg_X8_smear_16.2.2.2.1, rfl⟩
theorem d_X8_smear_31 : zD m_X8_smear 31 (.iaload) 1 32 := ⟨eg_X8_smear_16.2.2.2.2.1, rfl⟩
theorem d_X8_smear_32 : zD m_X8_smear 32 (.aload_n 0) 1 33 := ⟨eg_X8_smear_16.2.2.2.2.2.1, rfl⟩
theorem d_X8_smear_33 : zD m_X8_smear 33 (.getfield 21) 3 36 := ⟨eg_X8_smear_16.2.2.2.2.2.2.1, rfl⟩
theorem d_X8_smear_36 : zD m_X8_smear 36 (.iconst 3) 1 37 := ⟨eg_X8_smear_16.2.2.2.2.2.2.2, rfl⟩
theorem d_X8_smear_37 : zD m_X8_smear 37 (.iaload) 1 38 := ⟨eg_X8_smear_24.1, rfl⟩
theorem d_X8_smear_38 : zD m_X8_smear 38 (.imul) 1 39 := ⟨eg_X8_smear_24.2.1, rfl⟩
theorem d_X8_smear_39 : zD m_X8_smear 39 (.iadd) 1 40 := ⟨eg_X8_smear_24.2.2.1, rfl⟩
theorem d_X8_smear_40 : zD m_X8_smear 40 (.istore_n 2) 1 41 := ⟨eg_X8_smear_24.2.2.2.1, rfl⟩
theorem d_X8_smear_41 : zD m_X8_smear 41 (.iinc 3 8) 3 44 := ⟨eg_X8_smear_24.2.2.2.2.1, rfl⟩
theorem d_X8_smear_44 : zDj m_X8_smear 44 (.goto) 47 16 := ⟨-28, eg_X8_smear_24.2.2.2.2.2.1, rfl, by decide⟩
theorem d_X8_smear_47 : zD m_X8_smear 47 (.iload_n 2) 1 48 := ⟨eg_X8_smear_24.2.2.2.2.2.2.1, rfl⟩
theorem d_X8_smear_48 : decode (zcc m_X8_smear) 48 = .ok (.ireturn, 1) := eg_X8_smear_24.2.2.2.2.2.2.2
set_option maxRecDepth 20000 in
theorem eg_X8_spoiled_0 : decode (zcc m_X8_spoiled) 0 = .ok (.iload_n 1, 1) ∧ decode (zcc m_X8_spoiled) 1 = .ok (.i2l, 1) ∧ decode (zcc m_X8_spoiled) 2 = .ok (.lconst 0, 1) ∧ decode (zcc m_X8_spoiled) 3 = .ok (.lconst 1, 1) ∧ decode (zcc m_X8_spoiled) 4 = .ok (.invokestatic 92, 3) ∧ decode (zcc m_X8_spoiled) 7 = .ok (.ifCond .ne (5), 3) ∧ decode (zcc m_X8_spoiled) 10 = .ok (.iconst (-1), 1) ∧ decode (zcc m_X8_spoiled) 11 = .ok (.ireturn, 1) := by decide +kernel
set_option maxRecDepth 20000 in
theorem eg_X8_spoiled_8 : decode (zcc m_X8_spoiled) 12 = .ok (.aload_n 0, 1) ∧ decode (zcc m_X8_spoiled) 13 = .ok (.iconst 1, 1) ∧ decode (zcc m_X8_spoiled) 14 = .ok (.iconst 1, 1) ∧ decode (zcc m_X8_spoiled) 15 = .ok (.iconst 0, 1) ∧ decode (zcc m_X8_spoiled) 16 = .ok (.iconst 0, 1) ∧ decode (zcc m_X8_spoiled) 17 = .ok (.invokevirtual 258, 3) ∧ decode (zcc m_X8_spoiled) 20 = .ok (.iconst 0, 1) ∧ decode (zcc m_X8_spoiled) 21 = .ok (.istore_n 2, 1) := by decide +kernel
set_option maxRecDepth 20000 in
theorem eg_X8_spoiled_16 : decode (zcc m_X8_spoiled) 22 = .ok (.iload_n 2, 1) ∧ decode (zcc m_X8_spoiled) 23 = .ok (.bipush 48, 2) ∧ decode (zcc m_X8_spoiled) 25 = .ok (.if_icmp .ge (21), 3) ∧ decode (zcc m_X8_spoiled) 28 = .ok (.aload_n 0, 1) ∧ decode (zcc m_X8_spoiled) 29 = .ok (.getfield 54, 3) ∧ decode (zcc m_X8_spoiled) 32 = .ok (.iload_n 2, 1) ∧ decode (zcc m_X8_spoiled) 33 = .ok (.aload_n 0, 1) ∧ decode (zcc m_X8_spoiled) 34 = .ok (.getfield 51, 3) := by decide +kernel
set_option maxRecDepth 20000 in
theorem eg_X8_spoiled_24 : decode (zcc m_X8_spoiled) 37 = .ok (.iload_n 2, 1) ∧ decode (zcc m_X8_spoiled) 38 = .ok (.iaload, 1) ∧ decode (zcc m_X8_spoiled) 39 = .ok (.iastore, 1) ∧ decode (zcc m_X8_spoiled) 40 = .ok (.iinc 2 1, 3) ∧ decode (zcc m_X8_spoiled) 43 = .ok (.goto (-21), 3) ∧ decode (zcc m_X8_spoiled) 46 = .ok (.aload_n 0, 1) ∧ decode (zcc m_X8_spoiled) 47 = .ok (.iconst 1, 1) ∧ decode (zcc m_X8_spoiled) 48 = .ok (.iconst 1, 1) := by decide +kernel
set_option maxRecDepth 20000 in
theorem eg_X8_spoiled_32 : decode (zcc m_X8_spoiled) 49 = .ok (.iconst 1, 1) ∧ decode (zcc m_X8_spoiled) 50 = .ok (.aload_n 0, 1) ∧ decode (zcc m_X8_spoiled) 51 = .ok (.getfield 21, 3) ∧ decode (zcc m_X8_spoiled) 54 = .ok (.iconst 3, 1) ∧ decode (zcc m_X8_spoiled) 55 = .ok (.iaload, 1) ∧ decode (zcc m_X8_spoiled) 56 = .ok (.invokevirtual 258, 3) ∧ decode (zcc m_X8_spoiled) 59 = .ok (.iconst 0, 1) ∧ decode (zcc m_X8_spoiled) 60 = .ok (.istore_n 2, 1) := by decide +kernel
set_option maxRecDepth 20000 in
theorem eg_X8_spoiled_40 : decode (zcc m_X8_spoiled) 61 = .ok (.iconst 0, 1) ∧ decode (zcc m_X8_spoiled) 62 = .ok (.istore_n 3, 1) ∧ decode (zcc m_X8_spoiled) 63 = .ok (.iconst 0, 1) ∧ decode (zcc m_X8_spoiled) 64 = .ok (.istore 4, 2) ∧ decode (zcc m_X8_spoiled) 66 = .ok (.iload 4, 2) ∧ decode (zcc m_X8_spoiled) 68 = .ok (.bipush 48, 2) ∧ decode (zcc m_X8_spoiled) 70 = .ok (.if_icmp .ge (90), 3) ∧ decode (zcc m_X8_spoiled) 73 = .ok (.aload_n 0, 1) := by decide +kernel
set_option maxRecDepth 20000 in
theorem eg_X8_spoiled_48 : decode (zcc m_X8_spoiled) 74 = .ok (.getfield 51, 3) ∧ decode (zcc m_X8_spoiled) 77 = .ok (.iload 4, 2) ∧ decode (zcc m_X8_spoiled) 79 = .ok (.iaload, 1) ∧ decode (zcc m_X8_spoiled) 80 = .ok (.aload_n 0, 1) ∧ decode (zcc m_X8_spoiled) 81 = .ok (.getfield 54, 3) ∧ decode (zcc m_X8_spoiled) 84 = .ok (.iload 4, 2) ∧ decode (zcc m_X8_spoiled) 86 = .ok (.iaload, 1) ∧ decode (zcc m_X8_spoiled) 87 = .ok (.if_icmp .ge (21), 3) := by decide +kernel
set_option maxRecDepth 20000 in
theorem eg_X8_spoiled_56 : decode (zcc m_X8_spoiled) 90 = .ok (.aload_n 0, 1) ∧ decode (zcc m_X8_spoiled) 91 = .ok (.getfield 54, 3) ∧ decode (zcc m_X8_spoiled) 94 = .ok (.iload 4, 2) ∧ decode (zcc m_X8_spoiled) 96 = .ok (.iaload, 1) ∧ decode (zcc m_X8_spoiled) 97 = .ok (.aload_n 0, 1) ∧ decode (zcc m_X8_spoiled) 98 = .ok (.getfield 51, 3) ∧ decode (zcc m_X8_spoiled) 101 = .ok (.iload 4, 2) ∧ decode (zcc m_X8_spoiled) 103 = .ok (.iaload, 1) := by decide +kernel
set_option maxRecDepth 20000 in
theorem eg_X8_spoiled_64 : decode (zcc m_X8_spoiled) 104 = .ok (.isub, 1) ∧ decode (zcc m_X8_spoiled) 105 = .ok (.goto (18), 3) ∧ decode (zcc m_X8_spoiled) 108 = .ok (.aload_n 0, 1) ∧ decode (zcc m_X8_spoiled) 109 = .ok (.getfield 51, 3) ∧ decode (zcc m_X8_spoiled) 112 = .ok (.iload 4, 2) ∧ decode (zcc m_X8_spoiled) 114 = .ok (.iaload, 1) ∧ decode (zcc m_X8_spoiled) 115 = .ok (.aload_n 0, 1) ∧ decode (zcc m_X8_spoiled) 116 = .ok (.getfield 54, 3) := by decide +kernel
set_option maxRecDepth 20000 in
theorem eg_X8_spoiled_72 : decode (zcc m_X8_spoiled) 119 = .ok (.iload 4, 2) ∧ decode (zcc m_X8_spoiled) 121 = .ok (.iaload, 1) ∧ decode (zcc m_X8_spoiled) 122 = .ok (.isub, 1) ∧ decode (zcc m_X8_spoiled) 123 = .ok (.istore 5, 2) ∧ decode (zcc m_X8_spoiled) 125 = .ok (.iload_n 2, 1) ∧ decode (zcc m_X8_spoiled) 126 = .ok (.iload 5, 2) ∧ decode (zcc m_X8_spoiled) 128 = .ok (.ifCond .le (7), 3) ∧ decode (zcc m_X8_spoiled) 131 = .ok (.iconst 1, 1) := by decide +kernel
set_option maxRecDepth 20000 in
theorem eg_X8_spoiled_80 : decode (zcc m_X8_spoiled) 132 = .ok (.goto (4), 3) ∧ decode (zcc m_X8_spoiled) 135 = .ok (.iconst 0, 1) ∧ decode (zcc m_X8_spoiled) 136 = .ok (.invokestatic 237, 3) ∧ decode (zcc m_X8_spoiled) 139 = .ok (.iadd, 1) ∧ decode (zcc m_X8_spoiled) 140 = .ok (.istore_n 2, 1) ∧ decode (zcc m_X8_spoiled) 141 = .ok (.iload 5, 2) ∧ decode (zcc m_X8_spoiled) 143 = .ok (.iload_n 3, 1) ∧ decode (zcc m_X8_spoiled) 144 = .ok (.if_icmp .le (8), 3) := by decide +kernel
set_option maxRecDepth 20000 in
theorem eg_X8_spoiled_88 : decode (zcc m_X8_spoiled) 147 = .ok (.iload 5, 2) ∧ decode (zcc m_X8_spoiled) 149 = .ok (.goto (4), 3) ∧ decode (zcc m_X8_spoiled) 152 = .ok (.iload_n 3, 1) ∧ decode (zcc m_X8_spoiled) 153 = .ok (.istore_n 3, 1) ∧ decode (zcc m_X8_spoiled) 154 = .ok (.iinc 4 1, 3) ∧ decode (zcc m_X8_spoiled) 157 = .ok (.goto (-91), 3) ∧ decode (zcc m_X8_spoiled) 160 = .ok (.iload_n 1, 1) ∧ decode (zcc m_X8_spoiled) 161 = .ok (.ifCond .ne (7), 3) := by decide +kernel
set_option maxRecDepth 20000 in
theorem eg_X8_spoiled_96 : decode (zcc m_X8_spoiled) 164 = .ok (.iload_n 2, 1) ∧ decode (zcc m_X8_spoiled) 165 = .ok (.goto (4), 3) ∧ decode (zcc m_X8_spoiled) 168 = .ok (.iload_n 3, 1) ∧ decode (zcc m_X8_spoiled) 169 = .ok (.ireturn, 1) := by decide +kernel
theorem d_X8_spoiled_0 : zD m_X8_spoiled 0 (.iload_n 1) 1 1 := ⟨eg_X8_spoiled_0.1, rfl⟩
theorem d_X8_spoiled_1 : zD m_X8_spoiled 1 (.i2l) 1 2 := ⟨eg_X8_spoiled_0.2.1, rfl⟩
theorem d_X8_spoiled_2 : zD m_X8_spoiled 2 (.lconst 0) 1 3 := ⟨eg_X8_spoiled_0.2.2.1, rfl⟩
theorem d_X8_spoiled_3 : zD m_X8_spoiled 3 (.lconst 1) 1 4 := ⟨eg_X8_spoiled_0.2.2.2.1, rfl⟩
theorem d_X8_spoiled_4 : zD m_X8_spoiled 4 (.invokestatic 92) 3 7 := ⟨eg_X8_spoiled_0.2.2.2.2.1, rfl⟩
theorem d_X8_spoiled_7 : zDj m_X8_spoiled 7 (.ifCond .ne) 10 12 := ⟨5, eg_X8_spoiled_0.2.2.2.2.2.1, rfl, by decide⟩
theorem d_X8_spoiled_10 : zD m_X8_spoiled 10 (.iconst (-1)) 1 11 := ⟨eg_X8_spoiled_0.2.2.2.2.2.2.1, rfl⟩
theorem d_X8_spoiled_11 : decode (zcc m_X8_spoiled) 11 = .ok (.ireturn, 1) := eg_X8_spoiled_0.2.2.2.2.2.2.2
theorem d_X8_spoiled_12 : zD m_X8_spoiled 12 (.aload_n 0) 1 13 := ⟨eg_X8_spoiled_8.1, rfl⟩
theorem d_X8_spoiled_13 : zD m_X8_spoiled 13 (.iconst 1) 1 14 := ⟨eg_X8_spoiled_8.2.1, rfl⟩
theorem d_X8_spoiled_14 : zD m_X8_spoiled 14 (.iconst 1) 1 15 := ⟨eg_X8_spoiled_8.2.2.1, rfl⟩
theorem d_X8_spoiled_15 : zD m_X8_spoiled 15 (.iconst 0) 1 16 := ⟨eg_X8_spoiled_8.2.2.2.1, rfl⟩
theorem d_X8_spoiled_16 : zD m_X8_spoiled 16 (.iconst 0) 1 17 := ⟨eg_X8_spoiled_8.2.2.2.2.1, rfl⟩
theorem d_X8_spoiled_17 : zD m_X8_spoiled 17 (.invokevirtual 258) 3 20 := ⟨eg_X8_spoiled_8.2.2.2.2.2.1, rfl⟩
theorem d_X8_spoiled_20 : zD m_X8_spoiled 20 (.iconst 0) 1 21 := ⟨eg_X8_spoiled_8.2.2.2.2.2.2.1, rfl⟩
theorem d_X8_spoiled_21 : zD m_X8_spoiled 21 (.istore_n 2) 1 22 := ⟨eg_X8_spoiled_8.2.2.2.2.2.2.2, rfl⟩
theorem d_X8_spoiled_22 : zD m_X8_spoiled 22 (.iload_n 2) 1 23 := ⟨eg_X8_spoiled_16.1, rfl⟩
theorem d_X8_spoiled_23 : zD m_X8_spoiled 23 (.bipush 48) 2 25 := ⟨eg_X8_spoiled_16.2.1, rfl⟩
theorem d_X8_spoiled_25 : zDj m_X8_spoiled 25 (.if_icmp .ge) 28 46 := ⟨21, eg_X8_spoiled_16.2.2.1, rfl, by decide⟩
theorem d_X8_spoiled_28 : zD m_X8_spoiled 28 (.aload_n 0) 1 29 := ⟨eg_X8_spoiled_16.2.2.2.1, rfl⟩
theorem d_X8_spoiled_29 : zD m_X8_spoiled 29 (.getfield 54) 3 32 := ⟨eg_X8_spoiled_16.2.2.2.2.1, rfl⟩
theorem d_X8_spoiled_32 : zD m_X8_spoiled 32 (.iload_n 2) 1 33 := ⟨eg_X8_spoiled_16.2.2.2.2.2.1, rfl⟩
theorem d_X8_spoiled_33 : zD m_X8_spoiled 33 (.aload_n 0) 1 34 := ⟨eg_X8_spoiled_16.2.2.2.2.2.2.1, rfl⟩
theorem d_X8_spoiled_34 : zD m_X8_spoiled 34 (.getfield 51) 3 37 := ⟨eg_X8_spoiled_16.2.2.2.2.2.2.2, rfl⟩
theorem d_X8_spoiled_37 : zD m_X8_spoiled 37 (.iload_n 2) 1 38 := ⟨eg_X8_spoiled_24.1, rfl⟩
theorem d_X8_spoiled_38 : zD m_X8_spoiled 38 (.iaload) 1 39 := ⟨eg_X8_spoiled_24.2.1, rfl⟩
theorem d_X8_spoiled_39 : zD m_X8_spoiled 39 (.iastore) 1 40 := ⟨eg_X8_spoiled_24.2.2.1, rfl⟩
theorem d_X8_spoiled_40 : zD m_X8_spoiled 40 (.iinc 2 1) 3 43 := ⟨eg_X8_spoiled_24.2.2.2.1, rfl⟩
theorem d_X8_spoiled_43 : zDj m_X8_spoiled 43 (.goto) 46 22 := ⟨-21, eg_X8_spoiled_24.2.2.2.2.1, rfl, by decide⟩
theorem d_X8_spoiled_46 : zD m_X8_spoiled 46 (.aload_n 0) 1 47 := ⟨eg_X8_spoiled_24.2.2.2.2.2.1, rfl⟩
theorem d_X8_spoiled_47 : zD m_X8_spoiled 47 (.iconst 1) 1 48 := ⟨eg_X8_spoiled_24.2.2.2.2.2.2.1, rfl⟩
theorem d_X8_spoiled_48 : zD m_X8_spoiled 48 (.iconst 1) 1 49 := ⟨eg_X8_spoiled_24.2.2.2.2.2.2.2, rfl⟩
theorem d_X8_spoiled_49 : zD m_X8_spoiled 49 (.iconst 1) 1 50 := ⟨eg_X8_spoiled_32.1, rfl⟩
theorem d_X8_spoiled_50 : zD m_X8_spoiled 50 (.aload_n 0) 1 51 := ⟨eg_X8_spoiled_32.2.1, rfl⟩
theorem d_X8_spoiled_51 : zD m_X8_spoiled 51 (.getfield 21) 3 54 := ⟨eg_X8_spoiled_32.2.2.1, rfl⟩
theorem d_X8_spoiled_54 : zD m_X8_spoiled 54 (.iconst 3) 1 55 := ⟨eg_X8_spoiled_32.2.2.2.1, rfl⟩
theorem d_X8_spoiled_55 : zD m_X8_spoiled 55 (.iaload) 1 56 := ⟨eg_X8_spoiled_32.2.2.2.2.1, rfl⟩
theorem d_X8_spoiled_56 : zD m_X8_spoiled 56 (.invokevirtual 258) 3 59 := ⟨eg_X8_spoiled_32.2.2.2.2.2.1, rfl⟩
theorem d_X8_spoiled_59 : zD m_X8_spoiled 59 (.iconst 0) 1 60 := ⟨eg_X8_spoiled_32.2.2.2.2.2.2.1, rfl⟩
theorem d_X8_spoiled_60 : zD m_X8_spoiled 60 (.istore_n 2) 1 61 := ⟨eg_X8_spoiled_32.2.2.2.2.2.2.2, rfl⟩
theorem d_X8_spoiled_61 : zD m_X8_spoiled 61 (.iconst 0) 1 62 := ⟨eg_X8_spoiled_40.1, rfl⟩
theorem d_X8_spoiled_62 : zD m_X8_spoiled 62 (.istore_n 3) 1 63 := ⟨eg_X8_spoiled_40.2.1, rfl⟩
theorem d_X8_spoiled_63 : zD m_X8_spoiled 63 (.iconst 0) 1 64 := ⟨eg_X8_spoiled_40.2.2.1, rfl⟩
theorem d_X8_spoiled_64 : zD m_X8_spoiled 64 (.istore 4) 2 66 := ⟨eg_X8_spoiled_40.2.2.2.1, rfl⟩
theorem d_X8_spoiled_66 : zD m_X8_spoiled 66 (.iload 4) 2 68 := ⟨eg_X8_spoiled_40.2.2.2.2.1, rfl⟩
theorem d_X8_spoiled_68 : zD m_X8_spoiled 68 (.bipush 48) 2 70 := ⟨eg_X8_spoiled_40.2.2.2.2.2.1, rfl⟩
theorem d_X8_spoiled_70 : zDj m_X8_spoiled 70 (.if_icmp .ge) 73 160 := ⟨90, eg_X8_spoiled_40.2.2.2.2.2.2.1, rfl, by decide⟩
theorem d_X8_spoiled_73 : zD m_X8_spoiled 73 (.aload_n 0) 1 74 := ⟨eg_X8_spoiled_40.2.2.2.2.2.2.2, rfl⟩
theorem d_X8_spoiled_74 : zD m_X8_spoiled 74 (.getfield 51) 3 77 := ⟨eg_X8_spoiled_48.1, rfl⟩
theorem d_X8_spoiled_77 : zD m_X8_spoiled 77 (.iload 4) 2 79 := ⟨eg_X8_spoiled_48.2.1, rfl⟩
theorem d_X8_spoiled_79 : zD m_X8_spoiled 79 (.iaload) 1 80 := ⟨eg_X8_spoiled_48.2.2.1, rfl⟩
theorem d_X8_spoiled_80 : zD m_X8_spoiled 80 (.aload_n 0) 1 81 := ⟨eg_X8_spoiled_48.2.2.2.1, rfl⟩
theorem d_X8_spoiled_81 : zD m_X8_spoiled 81 (.getfield 54) 3 84 := ⟨eg_X8_spoiled_48.2.2.2.2.1, rfl⟩
theorem d_X8_spoiled_84 : zD m_X8_spoiled 84 (.iload 4) 2 86 := ⟨eg_X8_spoiled_48.2.2.2.2.2.1, rfl⟩
theorem d_X8_spoiled_86 : zD m_X8_spoiled 86 (.iaload) 1 87 := ⟨eg_X8_spoiled_48.2.2.2.2.2.2.1, rfl⟩
theorem d_X8_spoiled_87 : zDj m_X8_spoiled 87 (.if_icmp .ge) 90 108 := ⟨21, eg_X8_spoiled_48.2.2.2.2.2.2.2, rfl, by decide⟩
theorem d_X8_spoiled_90 : zD m_X8_spoiled 90 (.aload_n 0) 1 91 := ⟨eg_X8_spoiled_56.1, rfl⟩
theorem d_X8_spoiled_91 : zD m_X8_spoiled 91 (.getfield 54) 3 94 := ⟨eg_X8_spoiled_56.2.1, rfl⟩
theorem d_X8_spoiled_94 : zD m_X8_spoiled 94 (.iload 4) 2 96 := ⟨eg_X8_spoiled_56.2.2.1, rfl⟩
theorem d_X8_spoiled_96 : zD m_X8_spoiled 96 (.iaload) 1 97 := ⟨eg_X8_spoiled_56.2.2.2.1, rfl⟩
theorem d_X8_spoiled_97 : zD m_X8_spoiled 97 (.aload_n 0) 1 98 := ⟨eg_X8_spoiled_56.2.2.2.2.1, rfl⟩
theorem d_X8_spoiled_98 : zD m_X8_spoiled 98 (.getfield 51) 3 101 := ⟨eg_X8_spoiled_56.2.2.2.2.2.1, rfl⟩
theorem d_X8_spoiled_101 : zD m_X8_spoiled 101 (.iload 4) 2 103 := ⟨eg_X8_spoiled_56.2.2.2.2.2.2.1, rfl⟩
theorem d_X8_spoiled_103 : zD m_X8_spoiled 103 (.iaload) 1 104 := ⟨eg_X8_spoiled_56.2.2.2.2.2.2.2, rfl⟩
theorem d_X8_spoiled_104 : zD m_X8_spoiled 104 (.isub) 1 105 := ⟨eg_X8_spoiled_64.1, rfl⟩
theorem d_X8_spoiled_105 : zDj m_X8_spoiled 105 (.goto) 108 123 := ⟨18, eg_X8_spoiled_64.2.1, rfl, by decide⟩
theorem d_X8_spoiled_108 : zD m_X8_spoiled 108 (.aload_n 0) 1 109 := ⟨eg_X8_spoiled_64.2.2.1, rfl⟩
theorem d_X8_spoiled_109 : zD m_X8_spoiled 109 (.getfield 51) 3 112 := ⟨eg_X8_spoiled_64.2.2.2.1, rfl⟩
theorem d_X8_spoiled_112 : zD m_X8_spoiled 112 (.iload 4) 2 114 := ⟨eg_X8_spoiled_64.2.2.2.2.1, rfl⟩
theorem d_X8_spoiled_114 : zD m_X8_spoiled 114 (.iaload) 1 115 := ⟨eg_X8_spoiled_64.2.2.2.2.2.1, rfl⟩
theorem d_X8_spoiled_115 : zD m_X8_spoiled 115 (.aload_n 0) 1 116 := ⟨eg_X8_spoiled_64.2.2.2.2.2.2.1, rfl⟩
theorem d_X8_spoiled_116 : zD m_X8_spoiled 116 (.getfield 54) 3 119 := ⟨eg_X8_spoiled_64.2.2.2.2.2.2.2, rfl⟩
theorem d_X8_spoiled_119 : zD m_X8_spoiled 119 (.iload 4) 2 121 := ⟨eg_X8_spoiled_72.1, rfl⟩
theorem d_X8_spoiled_121 : zD m_X8_spoiled 121 (.iaload) 1 122 := ⟨eg_X8_spoiled_72.2.1, rfl⟩
theorem d_X8_spoiled_122 : zD m_X8_spoiled 122 (.isub) 1 123 := ⟨eg_X8_spoiled_72.2.2.1, rfl⟩
theorem d_X8_spoiled_123 : zD m_X8_spoiled 123 (.istore 5) 2 125 := ⟨eg_X8_spoiled_72.2.2.2.1, rfl⟩
theorem d_X8_spoiled_125 : zD m_X8_spoiled 125 (.iload_n 2) 1 126 := ⟨eg_X8_spoiled_72.2.2.2.2.1, rfl⟩
theorem d_X8_spoiled_126 : zD m_X8_spoiled 126 (.iload 5) 2 128 := ⟨eg_X8_spoiled_72.2.2.2.2.2.1, rfl⟩
theorem d_X8_spoiled_128 : zDj m_X8_spoiled 128 (.ifCond .le) 131 135 := ⟨7, eg_X8_spoiled_72.2.2.2.2.2.2.1, rfl, by decide⟩
theorem d_X8_spoiled_131 : zD m_X8_spoiled 131 (.iconst 1) 1 132 := ⟨eg_X8_spoiled_72.2.2.2.2.2.2.2, rfl⟩
theorem d_X8_spoiled_132 : zDj m_X8_spoiled 132 (.goto) 135 136 := ⟨4, eg_X8_spoiled_80.1, rfl, by decide⟩
theorem d_X8_spoiled_135 : zD m_X8_spoiled 135 (.iconst 0) 1 136 := ⟨eg_X8_spoiled_80.2.1, rfl⟩
theorem d_X8_spoiled_136 : zD m_X8_spoiled 136 (.invokestatic 237) 3 139 := ⟨eg_X8_spoiled_80.2.2.1, rfl⟩
theorem d_X8_spoiled_139 : zD m_X8_spoiled 139 (.iadd) 1 140 := ⟨eg_X8_spoiled_80.2.2.2.1, rfl⟩
theorem d_X8_spoiled_140 : zD m_X8_spoiled 140 (.istore_n 2) 1 141 := ⟨eg_X8_spoiled_80.2.2.2.2.1, rfl⟩
theorem d_X8_spoiled_141 : zD m_X8_spoiled 141 (.iload 5) 2 143 := ⟨eg_X8_spoiled_80.2.2.2.2.2.1, rfl⟩
theorem d_X8_spoiled_143 : zD m_X8_spoiled 143 (.iload_n 3) 1 144 := ⟨eg_X8_spoiled_80.2.2.2.2.2.2.1, rfl⟩
theorem d_X8_spoiled_144 : zDj m_X8_spoiled 144 (.if_icmp .le) 147 152 := ⟨8, eg_X8_spoiled_80.2.2.2.2.2.2.2, rfl, by decide⟩
theorem d_X8_spoiled_147 : zD m_X8_spoiled 147 (.iload 5) 2 149 := ⟨eg_X8_spoiled_88.1, rfl⟩
theorem d_X8_spoiled_149 : zDj m_X8_spoiled 149 (.goto) 152 153 := ⟨4, eg_X8_spoiled_88.2.1, rfl, by decide⟩
theorem d_X8_spoiled_152 : zD m_X8_spoiled 152 (.iload_n 3) 1 153 := ⟨eg_X8_spoiled_88.2.2.1, rfl⟩
theorem d_X8_spoiled_153 : zD m_X8_spoiled 153 (.istore_n 3) 1 154 := ⟨eg_X8_spoiled_88.2.2.2.1, rfl⟩
theorem d_X8_spoiled_154 : zD m_X8_spoiled 154 (.iinc 4 1) 3 157 := ⟨eg_X8_spoiled_88.2.2.2.2.1, rfl⟩
theorem d_X8_spoiled_157 : zDj m_X8_spoiled 157 (.goto) 160 66 := ⟨-91, eg_X8_spoiled_88.2.2.2.2.2.1, rfl, by decide⟩
theorem d_X8_spoiled_160 : zD m_X8_spoiled 160 (.iload_n 1) 1 161 := ⟨eg_X8_spoiled_88.2.2.2.2.2.2.1, rfl⟩
theorem d_X8_spoiled_161 : zDj m_X8_spoiled 161 (.ifCond .ne) 164 168 := ⟨7, eg_X8_spoiled_88.2.2.2.2.2.2.2, rfl, by decide⟩
theorem d_X8_spoiled_164 : zD m_X8_spoiled 164 (.iload_n 2) 1 165 := ⟨eg_X8_spoiled_96.1, rfl⟩
theorem d_X8_spoiled_165 : zDj m_X8_spoiled 165 (.goto) 168 169 := ⟨4, eg_X8_spoiled_96.2.1, rfl, by decide⟩
theorem d_X8_spoiled_168 : zD m_X8_spoiled 168 (.iload_n 3) 1 169 := ⟨eg_X8_spoiled_96.2.2.1, rfl⟩
theorem d_X8_spoiled_169 : decode (zcc m_X8_spoiled) 169 = .ok (.ireturn, 1) := eg_X8_spoiled_96.2.2.2
set_option maxRecDepth 20000 in
theorem eg_X8_full_0 : decode (zcc m_X8_full) 0 = .ok (.iload_n 1, 1) ∧ decode (zcc m_X8_full) 1 = .ok (.invokestatic 183, 3) ∧ decode (zcc m_X8_full) 4 = .ok (.ifCond .ne (5), 3) ∧ decode (zcc m_X8_full) 7 = .ok (.iconst (-1), 1) ∧ decode (zcc m_X8_full) 8 = .ok (.ireturn, 1) ∧ decode (zcc m_X8_full) 9 = .ok (.aload_n 0, 1) ∧ decode (zcc m_X8_full) 10 = .ok (.iload_n 1, 1) ∧ decode (zcc m_X8_full) 11 = .ok (.invokevirtual 204, 3) := by decide +kernel
set_option maxRecDepth 20000 in
theorem eg_X8_full_8 : decode (zcc m_X8_full) 14 = .ok (.istore_n 2, 1) ∧ decode (zcc m_X8_full) 15 = .ok (.iload_n 2, 1) ∧ decode (zcc m_X8_full) 16 = .ok (.ifCond .ne (8), 3) ∧ decode (zcc m_X8_full) 19 = .ok (.bipush (-4), 2) ∧ decode (zcc m_X8_full) 21 = .ok (.goto (15), 3) ∧ decode (zcc m_X8_full) 24 = .ok (.aload_n 0, 1) ∧ decode (zcc m_X8_full) 25 = .ok (.getfield 21, 3) ∧ decode (zcc m_X8_full) 28 = .ok (.iconst 0, 1) := by decide +kernel
set_option maxRecDepth 20000 in
theorem eg_X8_full_16 : decode (zcc m_X8_full) 29 = .ok (.iaload, 1) ∧ decode (zcc m_X8_full) 30 = .ok (.iload_n 2, 1) ∧ decode (zcc m_X8_full) 31 = .ok (.iadd, 1) ∧ decode (zcc m_X8_full) 32 = .ok (.iconst 1, 1) ∧ decode (zcc m_X8_full) 33 = .ok (.isub, 1) ∧ decode (zcc m_X8_full) 34 = .ok (.iload_n 2, 1) ∧ decode (zcc m_X8_full) 35 = .ok (.idiv, 1) ∧ decode (zcc m_X8_full) 36 = .ok (.ireturn, 1) := by decide +kernel
theorem d_X8_full_0 : zD m_X8_full 0 (.iload_n 1) 1 1 := ⟨eg_X8_full_0.1, rfl⟩
theorem d_X8_full_1 : zD m_X8_full 1 (.invokestatic 183) 3 4 := ⟨eg_X8_full_0.2.1, rfl⟩
theorem d_X8_full_4 : zDj m_X8_full 4 (.ifCond .ne) 7 9 := ⟨5, eg_X8_full_0.2.2.1, rfl, by decide⟩
theorem d_X8_full_7 : zD m_X8_full 7 (.iconst (-1)) 1 8 := ⟨eg_X8_full_0.2.2.2.1, rfl⟩
theorem d_X8_full_8 : decode (zcc m_X8_full) 8 = .ok (.ireturn, 1) := eg_X8_full_0.2.2.2.2.1
theorem d_X8_full_9 : zD m_X8_full 9 (.aload_n 0) 1 10 := ⟨eg_X8_full_0.2.2.2.2.2.1, rfl⟩
theorem d_X8_full_10 : zD m_X8_full 10 (.iload_n 1) 1 11 := ⟨eg_X8_full_0.2.2.2.2.2.2.1, rfl⟩
theorem d_X8_full_11 : zD m_X8_full 11 (.invokevirtual 204) 3 14 := ⟨eg_X8_full_0.2.2.2.2.2.2.2, rfl⟩
theorem d_X8_full_14 : zD m_X8_full 14 (.istore_n 2) 1 15 := ⟨eg_X8_full_8.1, rfl⟩
theorem d_X8_full_15 : zD m_X8_full 15 (.iload_n 2) 1 16 := ⟨eg_X8_full_8.2.1, rfl⟩
theorem d_X8_full_16 : zDj m_X8_full 16 (.ifCond .ne) 19 24 := ⟨8, eg_X8_full_8.2.2.1, rfl, by decide⟩
theorem d_X8_full_19 : zD m_X8_full 19 (.bipush (-4)) 2 21 := ⟨eg_X8_full_8.2.2.2.1, rfl⟩
theorem d_X8_full_21 : zDj m_X8_full 21 (.goto) 24 36 := ⟨15, eg_X8_full_8.2.2.2.2.1, rfl, by decide⟩
theorem d_X8_full_24 : zD m_X8_full 24 (.aload_n 0) 1 25 := ⟨eg_X8_full_8.2.2.2.2.2.1, rfl⟩
theorem d_X8_full_25 : zD m_X8_full 25 (.getfield 21) 3 28 := ⟨eg_X8_full_8.2.2.2.2.2.2.1, rfl⟩
theorem d_X8_full_28 : zD m_X8_full 28 (.iconst 0) 1 29 := ⟨eg_X8_full_8.2.2.2.2.2.2.2, rfl⟩
theorem d_X8_full_29 : zD m_X8_full 29 (.iaload) 1 30 := ⟨eg_X8_full_16.1, rfl⟩
theorem d_X8_full_30 : zD m_X8_full 30 (.iload_n 2) 1 31 := ⟨eg_X8_full_16.2.1, rfl⟩
theorem d_X8_full_31 : zD m_X8_full 31 (.iadd) 1 32 := ⟨eg_X8_full_16.2.2.1, rfl⟩
theorem d_X8_full_32 : zD m_X8_full 32 (.iconst 1) 1 33 := ⟨eg_X8_full_16.2.2.2.1, rfl⟩
theorem d_X8_full_33 : zD m_X8_full 33 (.isub) 1 34 := ⟨eg_X8_full_16.2.2.2.2.1, rfl⟩
theorem d_X8_full_34 : zD m_X8_full 34 (.iload_n 2) 1 35 := ⟨eg_X8_full_16.2.2.2.2.2.1, rfl⟩
theorem d_X8_full_35 : zD m_X8_full 35 (.idiv) 1 36 := ⟨eg_X8_full_16.2.2.2.2.2.2.1, rfl⟩
theorem d_X8_full_36 : decode (zcc m_X8_full) 36 = .ok (.ireturn, 1) := eg_X8_full_16.2.2.2.2.2.2.2
set_option maxRecDepth 20000 in
theorem eg_X8_longest_0 : decode (zcc m_X8_longest) 0 = .ok (.sipush 999, 3) ∧ decode (zcc m_X8_longest) 3 = .ok (.istore_n 1, 1) ∧ decode (zcc m_X8_longest) 4 = .ok (.iconst 0, 1) ∧ decode (zcc m_X8_longest) 5 = .ok (.istore_n 2, 1) ∧ decode (zcc m_X8_longest) 6 = .ok (.iload_n 2, 1) ∧ decode (zcc m_X8_longest) 7 = .ok (.bipush 48, 2) ∧ decode (zcc m_X8_longest) 9 = .ok (.if_icmp .ge (38), 3) ∧ decode (zcc m_X8_longest) 12 = .ok (.aload_n 0, 1) := by decide +kernel
set_option maxRecDepth 20000 in
theorem eg_X8_longest_8 : decode (zcc m_X8_longest) 13 = .ok (.iload_n 2, 1) ∧ decode (zcc m_X8_longest) 14 = .ok (.invokevirtual 204, 3) ∧ decode (zcc m_X8_longest) 17 = .ok (.ifCond .ne (7), 3) ∧ decode (zcc m_X8_longest) 20 = .ok (.iload_n 1, 1) ∧ decode (zcc m_X8_longest) 21 = .ok (.goto (19), 3) ∧ decode (zcc m_X8_longest) 24 = .ok (.iload_n 1, 1) ∧ decode (zcc m_X8_longest) 25 = .ok (.aload_n 0, 1) ∧ decode (zcc m_X8_longest) 26 = .ok (.getfield 21, 3) := by decide +kernel
set_option maxRecDepth 20000 in
theorem eg_X8_longest_16 : decode (zcc m_X8_longest) 29 = .ok (.iconst 0, 1) ∧ decode (zcc m_X8_longest) 30 = .ok (.iaload, 1) ∧ decode (zcc m_X8_longest) 31 = .ok (.aload_n 0, 1) ∧ decode (zcc m_X8_longest) 32 = .ok (.iload_n 2, 1) ∧ decode (zcc m_X8_longest) 33 = .ok (.invokevirtual 204, 3) ∧ decode (zcc m_X8_longest) 36 = .ok (.idiv, 1) ∧ decode (zcc m_X8_longest) 37 = .ok (.invokestatic 191, 3) ∧ decode (zcc m_X8_longest) 40 = .ok (.istore_n 1, 1) := by decide +kernel
set_option maxRecDepth 20000 in
theorem eg_X8_longest_24 : decode (zcc m_X8_longest) 41 = .ok (.iinc 2 1, 3) ∧ decode (zcc m_X8_longest) 44 = .ok (.goto (-38), 3) ∧ decode (zcc m_X8_longest) 47 = .ok (.iload_n 1, 1) ∧ decode (zcc m_X8_longest) 48 = .ok (.ireturn, 1) := by decide +kernel
theorem d_X8_longest_0 : zD m_X8_longest 0 (.sipush 999) 3 3 := ⟨eg_X8_longest_0.1, rfl⟩
theorem d_X8_longest_3 : zD m_X8_longest 3 (.istore_n 1) 1 4 := ⟨eg_X8_longest_0.2.1, rfl⟩
theorem d_X8_longest_4 : zD m_X8_longest 4 (.iconst 0) 1 5 := ⟨eg_X8_longest_0.2.2.1, rfl⟩
theorem d_X8_longest_5 : zD m_X8_longest 5 (.istore_n 2) 1 6 := ⟨eg_X8_longest_0.2.2.2.1, rfl⟩
theorem d_X8_longest_6 : zD m_X8_longest 6 (.iload_n 2) 1 7 := ⟨eg_X8_longest_0.2.2.2.2.1, rfl⟩
theorem d_X8_longest_7 : zD m_X8_longest 7 (.bipush 48) 2 9 := ⟨eg_X8_longest_0.2.2.2.2.2.1, rfl⟩
theorem d_X8_longest_9 : zDj m_X8_longest 9 (.if_icmp .ge) 12 47 := ⟨38, eg_X8_longest_0.2.2.2.2.2.2.1, rfl, by decide⟩
theorem d_X8_longest_12 : zD m_X8_longest 12 (.aload_n 0) 1 13 := ⟨eg_X8_longest_0.2.2.2.2.2.2.2, rfl⟩
theorem d_X8_longest_13 : zD m_X8_longest 13 (.iload_n 2) 1 14 := ⟨eg_X8_longest_8.1, rfl⟩
theorem d_X8_longest_14 : zD m_X8_longest 14 (.invokevirtual 204) 3 17 := ⟨eg_X8_longest_8.2.1, rfl⟩
theorem d_X8_longest_17 : zDj m_X8_longest 17 (.ifCond .ne) 20 24 := ⟨7, eg_X8_longest_8.2.2.1, rfl, by decide⟩
theorem d_X8_longest_20 : zD m_X8_longest 20 (.iload_n 1) 1 21 := ⟨eg_X8_longest_8.2.2.2.1, rfl⟩
theorem d_X8_longest_21 : zDj m_X8_longest 21 (.goto) 24 40 := ⟨19, eg_X8_longest_8.2.2.2.2.1, rfl, by decide⟩
theorem d_X8_longest_24 : zD m_X8_longest 24 (.iload_n 1) 1 25 := ⟨eg_X8_longest_8.2.2.2.2.2.1, rfl⟩
theorem d_X8_longest_25 : zD m_X8_longest 25 (.aload_n 0) 1 26 := ⟨eg_X8_longest_8.2.2.2.2.2.2.1, rfl⟩
theorem d_X8_longest_26 : zD m_X8_longest 26 (.getfield 21) 3 29 := ⟨eg_X8_longest_8.2.2.2.2.2.2.2, rfl⟩
theorem d_X8_longest_29 : zD m_X8_longest 29 (.iconst 0) 1 30 := ⟨eg_X8_longest_16.1, rfl⟩
theorem d_X8_longest_30 : zD m_X8_longest 30 (.iaload) 1 31 := ⟨eg_X8_longest_16.2.1, rfl⟩
theorem d_X8_longest_31 : zD m_X8_longest 31 (.aload_n 0) 1 32 := ⟨eg_X8_longest_16.2.2.1, rfl⟩
theorem d_X8_longest_32 : zD m_X8_longest 32 (.iload_n 2) 1 33 := ⟨eg_X8_longest_16.2.2.2.1, rfl⟩
theorem d_X8_longest_33 : zD m_X8_longest 33 (.invokevirtual 204) 3 36 := ⟨eg_X8_longest_16.2.2.2.2.1, rfl⟩
theorem d_X8_longest_36 : zD m_X8_longest 36 (.idiv) 1 37 := ⟨eg_X8_longest_16.2.2.2.2.2.1, rfl⟩
theorem d_X8_longest_37 : zD m_X8_longest 37 (.invokestatic 191) 3 40 := ⟨eg_X8_longest_16.2.2.2.2.2.2.1, rfl⟩
theorem d_X8_longest_40 : zD m_X8_longest 40 (.istore_n 1) 1 41 := ⟨eg_X8_longest_16.2.2.2.2.2.2.2, rfl⟩
theorem d_X8_longest_41 : zD m_X8_longest 41 (.iinc 2 1) 3 44 := ⟨eg_X8_longest_24.1, rfl⟩
theorem d_X8_longest_44 : zDj m_X8_longest 44 (.goto) 47 6 := ⟨-38, eg_X8_longest_24.2.1, rfl, by decide⟩
theorem d_X8_longest_47 : zD m_X8_longest 47 (.iload_n 1) 1 48 := ⟨eg_X8_longest_24.2.2.1, rfl⟩
theorem d_X8_longest_48 : decode (zcc m_X8_longest) 48 = .ok (.ireturn, 1) := eg_X8_longest_24.2.2.2
set_option maxRecDepth 20000 in
theorem eg_X8_enough_0 : decode (zcc m_X8_enough) 0 = .ok (.iload_n 1, 1) ∧ decode (zcc m_X8_enough) 1 = .ok (.i2l, 1) ∧ decode (zcc m_X8_enough) 2 = .ok (.lconst 1, 1) ∧ decode (zcc m_X8_enough) 3 = .ok (.ldc2_w 202, 3) ∧ decode (zcc m_X8_enough) 6 = .ok (.invokestatic 92, 3) ∧ decode (zcc m_X8_enough) 9 = .ok (.ifCond .ne (5), 3) ∧ decode (zcc m_X8_enough) 12 = .ok (.iconst (-1), 1) ∧ decode (zcc m_X8_enough) 13 = .ok (.ireturn, 1) := by decide +kernel
set_option maxRecDepth 20000 in
theorem eg_X8_enough_8 : decode (zcc m_X8_enough) 14 = .ok (.iconst 1, 1) ∧ decode (zcc m_X8_enough) 15 = .ok (.istore_n 2, 1) ∧ decode (zcc m_X8_enough) 16 = .ok (.iload_n 2, 1) ∧ decode (zcc m_X8_enough) 17 = .ok (.aload_n 0, 1) ∧ decode (zcc m_X8_enough) 18 = .ok (.invokevirtual 262, 3) ∧ decode (zcc m_X8_enough) 21 = .ok (.if_icmp .gt (68), 3) ∧ decode (zcc m_X8_enough) 24 = .ok (.iconst 1, 1) ∧ decode (zcc m_X8_enough) 25 = .ok (.istore_n 3, 1) := by decide +kernel
set_option maxRecDepth 20000 in
theorem eg_X8_enough_16 : decode (zcc m_X8_enough) 26 = .ok (.iconst 0, 1) ∧ decode (zcc m_X8_enough) 27 = .ok (.istore 4, 2) ∧ decode (zcc m_X8_enough) 29 = .ok (.iload 4, 2) ∧ decode (zcc m_X8_enough) 31 = .ok (.bipush 48, 2) ∧ decode (zcc m_X8_enough) 33 = .ok (.if_icmp .ge (44), 3) ∧ decode (zcc m_X8_enough) 36 = .ok (.iload_n 3, 1) ∧ decode (zcc m_X8_enough) 37 = .ok (.ifCond .eq (32), 3) ∧ decode (zcc m_X8_enough) 40 = .ok (.aload_n 0, 1) := by decide +kernel
set_option maxRecDepth 20000 in
theorem eg_X8_enough_24 : decode (zcc m_X8_enough) 41 = .ok (.getfield 7, 3) ∧ decode (zcc m_X8_enough) 44 = .ok (.bipush 104, 2) ∧ decode (zcc m_X8_enough) 46 = .ok (.iload 4, 2) ∧ decode (zcc m_X8_enough) 48 = .ok (.iadd, 1) ∧ decode (zcc m_X8_enough) 49 = .ok (.iaload, 1) ∧ decode (zcc m_X8_enough) 50 = .ok (.ifCond .eq (15), 3) ∧ decode (zcc m_X8_enough) 53 = .ok (.aload_n 0, 1) ∧ decode (zcc m_X8_enough) 54 = .ok (.iload 4, 2) := by decide +kernel
set_option maxRecDepth 20000 in
theorem eg_X8_enough_32 : decode (zcc m_X8_enough) 56 = .ok (.invokevirtual 204, 3) ∧ decode (zcc m_X8_enough) 59 = .ok (.iload_n 2, 1) ∧ decode (zcc m_X8_enough) 60 = .ok (.imul, 1) ∧ decode (zcc m_X8_enough) 61 = .ok (.iload_n 1, 1) ∧ decode (zcc m_X8_enough) 62 = .ok (.if_icmp .lt (7), 3) ∧ decode (zcc m_X8_enough) 65 = .ok (.iconst 1, 1) ∧ decode (zcc m_X8_enough) 66 = .ok (.goto (4), 3) ∧ decode (zcc m_X8_enough) 69 = .ok (.iconst 0, 1) := by decide +kernel
set_option maxRecDepth 20000 in
theorem eg_X8_enough_40 : decode (zcc m_X8_enough) 70 = .ok (.istore_n 3, 1) ∧ decode (zcc m_X8_enough) 71 = .ok (.iinc 4 1, 3) ∧ decode (zcc m_X8_enough) 74 = .ok (.goto (-45), 3) ∧ decode (zcc m_X8_enough) 77 = .ok (.iload_n 3, 1) ∧ decode (zcc m_X8_enough) 78 = .ok (.ifCond .eq (5), 3) ∧ decode (zcc m_X8_enough) 81 = .ok (.iload_n 2, 1) ∧ decode (zcc m_X8_enough) 82 = .ok (.ireturn, 1) ∧ decode (zcc m_X8_enough) 83 = .ok (.iinc 2 1, 3) := by decide +kernel
set_option maxRecDepth 20000 in
theorem eg_X8_enough_48 : decode (zcc m_X8_enough) 86 = .ok (.goto (-70), 3) ∧ decode (zcc m_X8_enough) 89 = .ok (.bipush (-4), 2) ∧ decode (zcc m_X8_enough) 91 = .ok (.ireturn, 1) := by decide +kernel
theorem d_X8_enough_0 : zD m_X8_enough 0 (.iload_n 1) 1 1 := ⟨eg_X8_enough_0.1, rfl⟩
theorem d_X8_enough_1 : zD m_X8_enough 1 (.i2l) 1 2 := ⟨eg_X8_enough_0.2.1, rfl⟩
theorem d_X8_enough_2 : zD m_X8_enough 2 (.lconst 1) 1 3 := ⟨eg_X8_enough_0.2.2.1, rfl⟩
theorem d_X8_enough_3 : zD m_X8_enough 3 (.ldc2_w 202) 3 6 := ⟨eg_X8_enough_0.2.2.2.1, rfl⟩
theorem d_X8_enough_6 : zD m_X8_enough 6 (.invokestatic 92) 3 9 := ⟨eg_X8_enough_0.2.2.2.2.1, rfl⟩
theorem d_X8_enough_9 : zDj m_X8_enough 9 (.ifCond .ne) 12 14 := ⟨5, eg_X8_enough_0.2.2.2.2.2.1, rfl, by decide⟩
theorem d_X8_enough_12 : zD m_X8_enough 12 (.iconst (-1)) 1 13 := ⟨eg_X8_enough_0.2.2.2.2.2.2.1, rfl⟩
theorem d_X8_enough_13 : decode (zcc m_X8_enough) 13 = .ok (.ireturn, 1) := eg_X8_enough_0.2.2.2.2.2.2.2
theorem d_X8_enough_14 : zD m_X8_enough 14 (.iconst 1) 1 15 := ⟨eg_X8_enough_8.1, rfl⟩
theorem d_X8_enough_15 : zD m_X8_enough 15 (.istore_n 2) 1 16 := ⟨eg_X8_enough_8.2.1, rfl⟩
theorem d_X8_enough_16 : zD m_X8_enough 16 (.iload_n 2) 1 17 := ⟨eg_X8_enough_8.2.2.1, rfl⟩
theorem d_X8_enough_17 : zD m_X8_enough 17 (.aload_n 0) 1 18 := ⟨eg_X8_enough_8.2.2.2.1, rfl⟩
theorem d_X8_enough_18 : zD m_X8_enough 18 (.invokevirtual 262) 3 21 := ⟨eg_X8_enough_8.2.2.2.2.1, rfl⟩
theorem d_X8_enough_21 : zDj m_X8_enough 21 (.if_icmp .gt) 24 89 := ⟨68, eg_X8_enough_8.2.2.2.2.2.1, rfl, by decide⟩
theorem d_X8_enough_24 : zD m_X8_enough 24 (.iconst 1) 1 25 := ⟨eg_X8_enough_8.2.2.2.2.2.2.1, rfl⟩
theorem d_X8_enough_25 : zD m_X8_enough 25 (.istore_n 3) 1 26 := ⟨eg_X8_enough_8.2.2.2.2.2.2.2, rfl⟩
theorem d_X8_enough_26 : zD m_X8_enough 26 (.iconst 0) 1 27 := ⟨eg_X8_enough_16.1, rfl⟩
theorem d_X8_enough_27 : zD m_X8_enough 27 (.istore 4) 2 29 := ⟨eg_X8_enough_16.2.1, rfl⟩
theorem d_X8_enough_29 : zD m_X8_enough 29 (.iload 4) 2 31 := ⟨eg_X8_enough_16.2.2.1, rfl⟩
theorem d_X8_enough_31 : zD m_X8_enough 31 (.bipush 48) 2 33 := ⟨eg_X8_enough_16.2.2.2.1, rfl⟩
theorem d_X8_enough_33 : zDj m_X8_enough 33 (.if_icmp .ge) 36 77 := ⟨44, eg_X8_enough_16.2.2.2.2.1, rfl, by decide⟩
theorem d_X8_enough_36 : zD m_X8_enough 36 (.iload_n 3) 1 37 := ⟨eg_X8_enough_16.2.2.2.2.2.1, rfl⟩
theorem d_X8_enough_37 : zDj m_X8_enough 37 (.ifCond .eq) 40 69 := ⟨32, eg_X8_enough_16.2.2.2.2.2.2.1, rfl, by decide⟩
theorem d_X8_enough_40 : zD m_X8_enough 40 (.aload_n 0) 1 41 := ⟨eg_X8_enough_16.2.2.2.2.2.2.2, rfl⟩
theorem d_X8_enough_41 : zD m_X8_enough 41 (.getfield 7) 3 44 := ⟨eg_X8_enough_24.1, rfl⟩
theorem d_X8_enough_44 : zD m_X8_enough 44 (.bipush 104) 2 46 := ⟨eg_X8_enough_24.2.1, rfl⟩
theorem d_X8_enough_46 : zD m_X8_enough 46 (.iload 4) 2 48 := ⟨eg_X8_enough_24.2.2.1, rfl⟩
theorem d_X8_enough_48 : zD m_X8_enough 48 (.iadd) 1 49 := ⟨eg_X8_enough_24.2.2.2.1, rfl⟩
theorem d_X8_enough_49 : zD m_X8_enough 49 (.iaload) 1 50 := ⟨eg_X8_enough_24.2.2.2.2.1, rfl⟩
theorem d_X8_enough_50 : zDj m_X8_enough 50 (.ifCond .eq) 53 65 := ⟨15, eg_X8_enough_24.2.2.2.2.2.1, rfl, by decide⟩
theorem d_X8_enough_53 : zD m_X8_enough 53 (.aload_n 0) 1 54 := ⟨eg_X8_enough_24.2.2.2.2.2.2.1, rfl⟩
theorem d_X8_enough_54 : zD m_X8_enough 54 (.iload 4) 2 56 := ⟨eg_X8_enough_24.2.2.2.2.2.2.2, rfl⟩
theorem d_X8_enough_56 : zD m_X8_enough 56 (.invokevirtual 204) 3 59 := ⟨eg_X8_enough_32.1, rfl⟩
theorem d_X8_enough_59 : zD m_X8_enough 59 (.iload_n 2) 1 60 := ⟨eg_X8_enough_32.2.1, rfl⟩
theorem d_X8_enough_60 : zD m_X8_enough 60 (.imul) 1 61 := ⟨eg_X8_enough_32.2.2.1, rfl⟩
theorem d_X8_enough_61 : zD m_X8_enough 61 (.iload_n 1) 1 62 := ⟨eg_X8_enough_32.2.2.2.1, rfl⟩
theorem d_X8_enough_62 : zDj m_X8_enough 62 (.if_icmp .lt) 65 69 := ⟨7, eg_X8_enough_32.2.2.2.2.1, rfl, by decide⟩
theorem d_X8_enough_65 : zD m_X8_enough 65 (.iconst 1) 1 66 := ⟨eg_X8_enough_32.2.2.2.2.2.1, rfl⟩
theorem d_X8_enough_66 : zDj m_X8_enough 66 (.goto) 69 70 := ⟨4, eg_X8_enough_32.2.2.2.2.2.2.1, rfl, by decide⟩
theorem d_X8_enough_69 : zD m_X8_enough 69 (.iconst 0) 1 70 := ⟨eg_X8_enough_32.2.2.2.2.2.2.2, rfl⟩
theorem d_X8_enough_70 : zD m_X8_enough 70 (.istore_n 3) 1 71 := ⟨eg_X8_enough_40.1, rfl⟩
theorem d_X8_enough_71 : zD m_X8_enough 71 (.iinc 4 1) 3 74 := ⟨eg_X8_enough_40.2.1, rfl⟩
theorem d_X8_enough_74 : zDj m_X8_enough 74 (.goto) 77 29 := ⟨-45, eg_X8_enough_40.2.2.1, rfl, by decide⟩
theorem d_X8_enough_77 : zD m_X8_enough 77 (.iload_n 3) 1 78 := ⟨eg_X8_enough_40.2.2.2.1, rfl⟩
theorem d_X8_enough_78 : zDj m_X8_enough 78 (.ifCond .eq) 81 83 := ⟨5, eg_X8_enough_40.2.2.2.2.1, rfl, by decide⟩
theorem d_X8_enough_81 : zD m_X8_enough 81 (.iload_n 2) 1 82 := ⟨eg_X8_enough_40.2.2.2.2.2.1, rfl⟩
theorem d_X8_enough_82 : decode (zcc m_X8_enough) 82 = .ok (.ireturn, 1) := eg_X8_enough_40.2.2.2.2.2.2.1
theorem d_X8_enough_83 : zD m_X8_enough 83 (.iinc 2 1) 3 86 := ⟨eg_X8_enough_40.2.2.2.2.2.2.2, rfl⟩
theorem d_X8_enough_86 : zDj m_X8_enough 86 (.goto) 89 16 := ⟨-70, eg_X8_enough_48.1, rfl, by decide⟩
theorem d_X8_enough_89 : zD m_X8_enough 89 (.bipush (-4)) 2 91 := ⟨eg_X8_enough_48.2.1, rfl⟩
theorem d_X8_enough_91 : decode (zcc m_X8_enough) 91 = .ok (.ireturn, 1) := eg_X8_enough_48.2.2
set_option maxRecDepth 20000 in
theorem eg_X8_hots_0 : decode (zcc m_X8_hots) 0 = .ok (.iload_n 1, 1) ∧ decode (zcc m_X8_hots) 1 = .ok (.i2l, 1) ∧ decode (zcc m_X8_hots) 2 = .ok (.lconst 1, 1) ∧ decode (zcc m_X8_hots) 3 = .ok (.ldc2_w 202, 3) ∧ decode (zcc m_X8_hots) 6 = .ok (.invokestatic 92, 3) ∧ decode (zcc m_X8_hots) 9 = .ok (.ifCond .eq (15), 3) ∧ decode (zcc m_X8_hots) 12 = .ok (.iload_n 2, 1) ∧ decode (zcc m_X8_hots) 13 = .ok (.i2l, 1) := by decide +kernel
set_option maxRecDepth 20000 in
theorem eg_X8_hots_8 : decode (zcc m_X8_hots) 14 = .ok (.lconst 1, 1) ∧ decode (zcc m_X8_hots) 15 = .ok (.ldc2_w 265, 3) ∧ decode (zcc m_X8_hots) 18 = .ok (.invokestatic 92, 3) ∧ decode (zcc m_X8_hots) 21 = .ok (.ifCond .ne (7), 3) ∧ decode (zcc m_X8_hots) 24 = .ok (.ldc2_w 241, 3) ∧ decode (zcc m_X8_hots) 27 = .ok (.lreturn, 1) ∧ decode (zcc m_X8_hots) 28 = .ok (.lconst 0, 1) ∧ decode (zcc m_X8_hots) 29 = .ok (.lstore_n 3, 1) := by decide +kernel
set_option maxRecDepth 20000 in
theorem eg_X8_hots_16 : decode (zcc m_X8_hots) 30 = .ok (.iconst 0, 1) ∧ decode (zcc m_X8_hots) 31 = .ok (.istore 5, 2) ∧ decode (zcc m_X8_hots) 33 = .ok (.iload 5, 2) ∧ decode (zcc m_X8_hots) 35 = .ok (.bipush 48, 2) ∧ decode (zcc m_X8_hots) 37 = .ok (.if_icmp .ge (40), 3) ∧ decode (zcc m_X8_hots) 40 = .ok (.lload_n 3, 1) ∧ decode (zcc m_X8_hots) 41 = .ok (.aload_n 0, 1) ∧ decode (zcc m_X8_hots) 42 = .ok (.getfield 24, 3) := by decide +kernel
set_option maxRecDepth 20000 in
theorem eg_X8_hots_24 : decode (zcc m_X8_hots) 45 = .ok (.iload 5, 2) ∧ decode (zcc m_X8_hots) 47 = .ok (.iaload, 1) ∧ decode (zcc m_X8_hots) 48 = .ok (.aload_n 0, 1) ∧ decode (zcc m_X8_hots) 49 = .ok (.getfield 21, 3) ∧ decode (zcc m_X8_hots) 52 = .ok (.iconst 1, 1) ∧ decode (zcc m_X8_hots) 53 = .ok (.iaload, 1) ∧ decode (zcc m_X8_hots) 54 = .ok (.iadd, 1) ∧ decode (zcc m_X8_hots) 55 = .ok (.iload_n 1, 1) := by decide +kernel
set_option maxRecDepth 20000 in
theorem eg_X8_hots_32 : decode (zcc m_X8_hots) 56 = .ok (.imul, 1) ∧ decode (zcc m_X8_hots) 57 = .ok (.iload_n 2, 1) ∧ decode (zcc m_X8_hots) 58 = .ok (.if_icmp .lt (10), 3) ∧ decode (zcc m_X8_hots) 61 = .ok (.lconst 1, 1) ∧ decode (zcc m_X8_hots) 62 = .ok (.iload 5, 2) ∧ decode (zcc m_X8_hots) 64 = .ok (.lshl, 1) ∧ decode (zcc m_X8_hots) 65 = .ok (.goto (4), 3) ∧ decode (zcc m_X8_hots) 68 = .ok (.lconst 0, 1) := by decide +kernel
set_option maxRecDepth 20000 in
theorem eg_X8_hots_40 : decode (zcc m_X8_hots) 69 = .ok (.lor, 1) ∧ decode (zcc m_X8_hots) 70 = .ok (.lstore_n 3, 1) ∧ decode (zcc m_X8_hots) 71 = .ok (.iinc 5 1, 3) ∧ decode (zcc m_X8_hots) 74 = .ok (.goto (-41), 3) ∧ decode (zcc m_X8_hots) 77 = .ok (.lload_n 3, 1) ∧ decode (zcc m_X8_hots) 78 = .ok (.lreturn, 1) := by decide +kernel
theorem d_X8_hots_0 : zD m_X8_hots 0 (.iload_n 1) 1 1 := ⟨eg_X8_hots_0.1, rfl⟩
theorem d_X8_hots_1 : zD m_X8_hots 1 (.i2l) 1 2 := ⟨eg_X8_hots_0.2.1, rfl⟩
theorem d_X8_hots_2 : zD m_X8_hots 2 (.lconst 1) 1 3 := ⟨eg_X8_hots_0.2.2.1, rfl⟩
theorem d_X8_hots_3 : zD m_X8_hots 3 (.ldc2_w 202) 3 6 := ⟨eg_X8_hots_0.2.2.2.1, rfl⟩
theorem d_X8_hots_6 : zD m_X8_hots 6 (.invokestatic 92) 3 9 := ⟨eg_X8_hots_0.2.2.2.2.1, rfl⟩
theorem d_X8_hots_9 : zDj m_X8_hots 9 (.ifCond .eq) 12 24 := ⟨15, eg_X8_hots_0.2.2.2.2.2.1, rfl, by decide⟩
theorem d_X8_hots_12 : zD m_X8_hots 12 (.iload_n 2) 1 13 := ⟨eg_X8_hots_0.2.2.2.2.2.2.1, rfl⟩
theorem d_X8_hots_13 : zD m_X8_hots 13 (.i2l) 1 14 := ⟨eg_X8_hots_0.2.2.2.2.2.2.2, rfl⟩
theorem d_X8_hots_14 : zD m_X8_hots 14 (.lconst 1) 1 15 := ⟨eg_X8_hots_8.1, rfl⟩
theorem d_X8_hots_15 : zD m_X8_hots 15 (.ldc2_w 265) 3 18 := ⟨eg_X8_hots_8.2.1, rfl⟩
theorem d_X8_hots_18 : zD m_X8_hots 18 (.invokestatic 92) 3 21 := ⟨eg_X8_hots_8.2.2.1, rfl⟩
theorem d_X8_hots_21 : zDj m_X8_hots 21 (.ifCond .ne) 24 28 := ⟨7, eg_X8_hots_8.2.2.2.1, rfl, by decide⟩
theorem d_X8_hots_24 : zD m_X8_hots 24 (.ldc2_w 241) 3 27 := ⟨eg_X8_hots_8.2.2.2.2.1, rfl⟩
theorem d_X8_hots_27 : decode (zcc m_X8_hots) 27 = .ok (.lreturn, 1) := eg_X8_hots_8.2.2.2.2.2.1
theorem d_X8_hots_28 : zD m_X8_hots 28 (.lconst 0) 1 29 := ⟨eg_X8_hots_8.2.2.2.2.2.2.1, rfl⟩
theorem d_X8_hots_29 : zD m_X8_hots 29 (.lstore_n 3) 1 30 := ⟨eg_X8_hots_8.2.2.2.2.2.2.2, rfl⟩
theorem d_X8_hots_30 : zD m_X8_hots 30 (.iconst 0) 1 31 := ⟨eg_X8_hots_16.1, rfl⟩
theorem d_X8_hots_31 : zD m_X8_hots 31 (.istore 5) 2 33 := ⟨eg_X8_hots_16.2.1, rfl⟩
theorem d_X8_hots_33 : zD m_X8_hots 33 (.iload 5) 2 35 := ⟨eg_X8_hots_16.2.2.1, rfl⟩
theorem d_X8_hots_35 : zD m_X8_hots 35 (.bipush 48) 2 37 := ⟨eg_X8_hots_16.2.2.2.1, rfl⟩
theorem d_X8_hots_37 : zDj m_X8_hots 37 (.if_icmp .ge) 40 77 := ⟨40, eg_X8_hots_16.2.2.2.2.1, rfl, by decide⟩
theorem d_X8_hots_40 : zD m_X8_hots 40 (.lload_n 3) 1 41 := ⟨eg_X8_hots_16.2.2.2.2.2.1, rfl⟩
theorem d_X8_hots_41 : zD m_X8_hots 41 (.aload_n 0) 1 42 := ⟨eg_X8_hots_16.2.2.2.2.2.2.1, rfl⟩
theorem d_X8_hots_42 : zD m_X8_hots 42 (.getfield 24) 3 45 := ⟨eg_X8_hots_16.2.2.2.2.2.2.2, rfl⟩
theorem d_X8_hots_45 : zD m_X8_hots 45 (.iload 5) 2 47 := ⟨eg_X8_hots_24.1, rfl⟩
theorem d_X8_hots_47 : zD m_X8_hots 47 (.iaload) 1 48 := ⟨eg_X8_hots_24.2.1, rfl⟩
theorem d_X8_hots_48 : zD m_X8_hots 48 (.aload_n 0) 1 49 := ⟨eg_X8_hots_24.2.2.1, rfl⟩
theorem d_X8_hots_49 : zD m_X8_hots 49 (.getfield 21) 3 52 := ⟨eg_X8_hots_24.2.2.2.1, rfl⟩
theorem d_X8_hots_52 : zD m_X8_hots 52 (.iconst 1) 1 53 := ⟨eg_X8_hots_24.2.2.2.2.1, rfl⟩
theorem d_X8_hots_53 : zD m_X8_hots 53 (.iaload) 1 54 := ⟨eg_X8_hots_24.2.2.2.2.2.1, rfl⟩
theorem d_X8_hots_54 : zD m_X8_hots 54 (.iadd) 1 55 := ⟨eg_X8_hots_24.2.2.2.2.2.2.1, rfl⟩
theorem d_X8_hots_55 : zD m_X8_hots 55 (.iload_n 1) 1 56 := ⟨eg_X8_hots_24.2.2.2.2.2.2.2, rfl⟩
theorem d_X8_hots_56 : zD m_X8_hots 56 (.imul) 1 57 := ⟨eg_X8_hots_32.1, rfl⟩
theorem d_X8_hots_57 : zD m_X8_hots 57 (.iload_n 2) 1 58 := ⟨eg_X8_hots_32.2.1, rfl⟩
theorem d_X8_hots_58 : zDj m_X8_hots 58 (.if_icmp .lt) 61 68 := ⟨10, eg_X8_hots_32.2.2.1, rfl, by decide⟩
theorem d_X8_hots_61 : zD m_X8_hots 61 (.lconst 1) 1 62 := ⟨eg_X8_hots_32.2.2.2.1, rfl⟩
theorem d_X8_hots_62 : zD m_X8_hots 62 (.iload 5) 2 64 := ⟨eg_X8_hots_32.2.2.2.2.1, rfl⟩
theorem d_X8_hots_64 : zD m_X8_hots 64 (.lshl) 1 65 := ⟨eg_X8_hots_32.2.2.2.2.2.1, rfl⟩
theorem d_X8_hots_65 : zDj m_X8_hots 65 (.goto) 68 69 := ⟨4, eg_X8_hots_32.2.2.2.2.2.2.1, rfl, by decide⟩
theorem d_X8_hots_68 : zD m_X8_hots 68 (.lconst 0) 1 69 := ⟨eg_X8_hots_32.2.2.2.2.2.2.2, rfl⟩
theorem d_X8_hots_69 : zD m_X8_hots 69 (.lor) 1 70 := ⟨eg_X8_hots_40.1, rfl⟩
theorem d_X8_hots_70 : zD m_X8_hots 70 (.lstore_n 3) 1 71 := ⟨eg_X8_hots_40.2.1, rfl⟩
theorem d_X8_hots_71 : zD m_X8_hots 71 (.iinc 5 1) 3 74 := ⟨eg_X8_hots_40.2.2.1, rfl⟩
theorem d_X8_hots_74 : zDj m_X8_hots 74 (.goto) 77 33 := ⟨-41, eg_X8_hots_40.2.2.2.1, rfl, by decide⟩
theorem d_X8_hots_77 : zD m_X8_hots 77 (.lload_n 3) 1 78 := ⟨eg_X8_hots_40.2.2.2.2.1, rfl⟩
theorem d_X8_hots_78 : decode (zcc m_X8_hots) 78 = .ok (.lreturn, 1) := eg_X8_hots_40.2.2.2.2.2
set_option maxRecDepth 20000 in
theorem eg_X8_mended_0 : decode (zcc m_X8_mended) 0 = .ok (.iload_n 1, 1) ∧ decode (zcc m_X8_mended) 1 = .ok (.invokestatic 183, 3) ∧ decode (zcc m_X8_mended) 4 = .ok (.ifCond .ne (5), 3) ∧ decode (zcc m_X8_mended) 7 = .ok (.iconst (-1), 1) ∧ decode (zcc m_X8_mended) 8 = .ok (.ireturn, 1) ∧ decode (zcc m_X8_mended) 9 = .ok (.iconst 0, 1) ∧ decode (zcc m_X8_mended) 10 = .ok (.istore_n 2, 1) ∧ decode (zcc m_X8_mended) 11 = .ok (.iconst 0, 1) := by decide +kernel
set_option maxRecDepth 20000 in
theorem eg_X8_mended_8 : decode (zcc m_X8_mended) 12 = .ok (.istore_n 3, 1) ∧ decode (zcc m_X8_mended) 13 = .ok (.iconst 0, 1) ∧ decode (zcc m_X8_mended) 14 = .ok (.istore 4, 2) ∧ decode (zcc m_X8_mended) 16 = .ok (.iload 4, 2) ∧ decode (zcc m_X8_mended) 18 = .ok (.bipush 48, 2) ∧ decode (zcc m_X8_mended) 20 = .ok (.if_icmp .ge (114), 3) ∧ decode (zcc m_X8_mended) 23 = .ok (.iload 4, 2) ∧ decode (zcc m_X8_mended) 25 = .ok (.bipush 8, 2) := by decide +kernel
set_option maxRecDepth 20000 in
theorem eg_X8_mended_16 : decode (zcc m_X8_mended) 27 = .ok (.irem, 1) ∧ decode (zcc m_X8_mended) 28 = .ok (.iload_n 1, 1) ∧ decode (zcc m_X8_mended) 29 = .ok (.bipush 8, 2) ∧ decode (zcc m_X8_mended) 31 = .ok (.irem, 1) ∧ decode (zcc m_X8_mended) 32 = .ok (.if_icmp .ne (25), 3) ∧ decode (zcc m_X8_mended) 35 = .ok (.iload 4, 2) ∧ decode (zcc m_X8_mended) 37 = .ok (.iload_n 1, 1) ∧ decode (zcc m_X8_mended) 38 = .ok (.isub, 1) := by decide +kernel
set_option maxRecDepth 20000 in
theorem eg_X8_mended_24 : decode (zcc m_X8_mended) 39 = .ok (.bipush 8, 2) ∧ decode (zcc m_X8_mended) 41 = .ok (.if_icmp .eq (12), 3) ∧ decode (zcc m_X8_mended) 44 = .ok (.iload_n 1, 1) ∧ decode (zcc m_X8_mended) 45 = .ok (.iload 4, 2) ∧ decode (zcc m_X8_mended) 47 = .ok (.isub, 1) ∧ decode (zcc m_X8_mended) 48 = .ok (.bipush 8, 2) ∧ decode (zcc m_X8_mended) 50 = .ok (.if_icmp .ne (7), 3) ∧ decode (zcc m_X8_mended) 53 = .ok (.iconst 1, 1) := by decide +kernel
set_option maxRecDepth 20000 in
theorem eg_X8_mended_32 : decode (zcc m_X8_mended) 54 = .ok (.goto (4), 3) ∧ decode (zcc m_X8_mended) 57 = .ok (.iconst 0, 1) ∧ decode (zcc m_X8_mended) 58 = .ok (.istore 5, 2) ∧ decode (zcc m_X8_mended) 60 = .ok (.iload 4, 2) ∧ decode (zcc m_X8_mended) 62 = .ok (.bipush 8, 2) ∧ decode (zcc m_X8_mended) 64 = .ok (.idiv, 1) ∧ decode (zcc m_X8_mended) 65 = .ok (.iload_n 1, 1) ∧ decode (zcc m_X8_mended) 66 = .ok (.bipush 8, 2) := by decide +kernel
set_option maxRecDepth 20000 in
theorem eg_X8_mended_40 : decode (zcc m_X8_mended) 68 = .ok (.idiv, 1) ∧ decode (zcc m_X8_mended) 69 = .ok (.if_icmp .ne (23), 3) ∧ decode (zcc m_X8_mended) 72 = .ok (.iload 4, 2) ∧ decode (zcc m_X8_mended) 74 = .ok (.iload_n 1, 1) ∧ decode (zcc m_X8_mended) 75 = .ok (.isub, 1) ∧ decode (zcc m_X8_mended) 76 = .ok (.iconst 1, 1) ∧ decode (zcc m_X8_mended) 77 = .ok (.if_icmp .eq (11), 3) ∧ decode (zcc m_X8_mended) 80 = .ok (.iload_n 1, 1) := by decide +kernel
set_option maxRecDepth 20000 in
theorem eg_X8_mended_48 : decode (zcc m_X8_mended) 81 = .ok (.iload 4, 2) ∧ decode (zcc m_X8_mended) 83 = .ok (.isub, 1) ∧ decode (zcc m_X8_mended) 84 = .ok (.iconst 1, 1) ∧ decode (zcc m_X8_mended) 85 = .ok (.if_icmp .ne (7), 3) ∧ decode (zcc m_X8_mended) 88 = .ok (.iconst 1, 1) ∧ decode (zcc m_X8_mended) 89 = .ok (.goto (4), 3) ∧ decode (zcc m_X8_mended) 92 = .ok (.iconst 0, 1) ∧ decode (zcc m_X8_mended) 93 = .ok (.istore 6, 2) := by decide +kernel
set_option maxRecDepth 20000 in
theorem eg_X8_mended_56 : decode (zcc m_X8_mended) 95 = .ok (.iload 5, 2) ∧ decode (zcc m_X8_mended) 97 = .ok (.ifCond .ne (8), 3) ∧ decode (zcc m_X8_mended) 100 = .ok (.iload 6, 2) ∧ decode (zcc m_X8_mended) 102 = .ok (.ifCond .eq (26), 3) ∧ decode (zcc m_X8_mended) 105 = .ok (.aload_n 0, 1) ∧ decode (zcc m_X8_mended) 106 = .ok (.getfield 24, 3) ∧ decode (zcc m_X8_mended) 109 = .ok (.iload 4, 2) ∧ decode (zcc m_X8_mended) 111 = .ok (.iaload, 1) := by decide +kernel
set_option maxRecDepth 20000 in
theorem eg_X8_mended_64 : decode (zcc m_X8_mended) 112 = .ok (.ifCond .ne (16), 3) ∧ decode (zcc m_X8_mended) 115 = .ok (.iload_n 2, 1) ∧ decode (zcc m_X8_mended) 116 = .ok (.aload_n 0, 1) ∧ decode (zcc m_X8_mended) 117 = .ok (.getfield 7, 3) ∧ decode (zcc m_X8_mended) 120 = .ok (.iload 4, 2) ∧ decode (zcc m_X8_mended) 122 = .ok (.iaload, 1) ∧ decode (zcc m_X8_mended) 123 = .ok (.iadd, 1) ∧ decode (zcc m_X8_mended) 124 = .ok (.istore_n 2, 1) := by decide +kernel
set_option maxRecDepth 20000 in
theorem eg_X8_mended_72 : decode (zcc m_X8_mended) 125 = .ok (.iinc 3 1, 3) ∧ decode (zcc m_X8_mended) 128 = .ok (.iinc 4 1, 3) ∧ decode (zcc m_X8_mended) 131 = .ok (.goto (-115), 3) ∧ decode (zcc m_X8_mended) 134 = .ok (.iload_n 3, 1) ∧ decode (zcc m_X8_mended) 135 = .ok (.ifCond .ne (8), 3) ∧ decode (zcc m_X8_mended) 138 = .ok (.bipush (-4), 2) ∧ decode (zcc m_X8_mended) 140 = .ok (.goto (6), 3) ∧ decode (zcc m_X8_mended) 143 = .ok (.iload_n 2, 1) := by decide +kernel
set_option maxRecDepth 20000 in
theorem eg_X8_mended_80 : decode (zcc m_X8_mended) 144 = .ok (.iload_n 3, 1) ∧ decode (zcc m_X8_mended) 145 = .ok (.idiv, 1) ∧ decode (zcc m_X8_mended) 146 = .ok (.ireturn, 1) := by decide +kernel
theorem d_X8_mended_0 : zD m_X8_mended 0 (.iload_n 1) 1 1 := ⟨eg_X8_mended_0.1, rfl⟩
theorem d_X8_mended_1 : zD m_X8_mended 1 (.invokestatic 183) 3 4 := ⟨eg_X8_mended_0.2.1, rfl⟩
theorem d_X8_mended_4 : zDj m_X8_mended 4 (.ifCond .ne) 7 9 := ⟨5, eg_X8_mended_0.2.2.1, rfl, by decide⟩
theorem d_X8_mended_7 : zD m_X8_mended 7 (.iconst (-1)) 1 8 := ⟨eg_X8_mended_0.2.2.2.1, rfl⟩
theorem d_X8_mended_8 : decode (zcc m_X8_mended) 8 = .ok (.ireturn, 1) := eg_X8_mended_0.2.2.2.2.1
theorem d_X8_mended_9 : zD m_X8_mended 9 (.iconst 0) 1 10 := ⟨eg_X8_mended_0.2.2.2.2.2.1, rfl⟩
theorem d_X8_mended_10 : zD m_X8_mended 10 (.istore_n 2) 1 11 := ⟨eg_X8_mended_0.2.2.2.2.2.2.1, rfl⟩
theorem d_X8_mended_11 : zD m_X8_mended 11 (.iconst 0) 1 12 := ⟨eg_X8_mended_0.2.2.2.2.2.2.2, rfl⟩
theorem d_X8_mended_12 : zD m_X8_mended 12 (.istore_n 3) 1 13 := ⟨eg_X8_mended_8.1, rfl⟩
theorem d_X8_mended_13 : zD m_X8_mended 13 (.iconst 0) 1 14 := ⟨eg_X8_mended_8.2.1, rfl⟩
theorem d_X8_mended_14 : zD m_X8_mended 14 (.istore 4) 2 16 := ⟨eg_X8_mended_8.2.2.1, rfl⟩
theorem d_X8_mended_16 : zD m_X8_mended 16 (.iload 4) 2 18 := ⟨eg_X8_mended_8.2.2.2.1, rfl⟩
theorem d_X8_mended_18 : zD m_X8_mended 18 (.bipush 48) 2 20 := ⟨eg_X8_mended_8.2.2.2.2.1, rfl⟩
theorem d_X8_mended_20 : zDj m_X8_mended 20 (.if_icmp .ge) 23 134 := ⟨114, eg_X8_mended_8.2.2.2.2.2.1, rfl, by decide⟩
theorem d_X8_mended_23 : zD m_X8_mended 23 (.iload 4) 2 25 := ⟨eg_X8_mended_8.2.2.2.2.2.2.1, rfl⟩
theorem d_X8_mended_25 : zD m_X8_mended 25 (.bipush 8) 2 27 := ⟨eg_X8_mended_8.2.2.2.2.2.2.2, rfl⟩
theorem d_X8_mended_27 : zD m_X8_mended 27 (.irem) 1 28 := ⟨eg_X8_mended_16.1, rfl⟩
theorem d_X8_mended_28 : zD m_X8_mended 28 (.iload_n 1) 1 29 := ⟨eg_X8_mended_16.2.1, rfl⟩
theorem d_X8_mended_29 : zD m_X8_mended 29 (.bipush 8) 2 31 := ⟨eg_X8_mended_16.2.2.1, rfl⟩
theorem d_X8_mended_31 : zD m_X8_mended 31 (.irem) 1 32 := ⟨eg_X8_mended_16.2.2.2.1, rfl⟩
theorem d_X8_mended_32 : zDj m_X8_mended 32 (.if_icmp .ne) 35 57 := ⟨25, eg_X8_mended_16.2.2.2.2.1, rfl, by decide⟩
theorem d_X8_mended_35 : zD m_X8_mended 35 (.iload 4) 2 37 := ⟨eg_X8_mended_16.2.2.2.2.2.1, rfl⟩
theorem d_X8_mended_37 : zD m_X8_mended 37 (.iload_n 1) 1 38 := ⟨eg_X8_mended_16.2.2.2.2.2.2.1, rfl⟩
theorem d_X8_mended_38 : zD m_X8_mended 38 (.isub) 1 39 := ⟨eg_X8_mended_16.2.2.2.2.2.2.2, rfl⟩
theorem d_X8_mended_39 : zD m_X8_mended 39 (.bipush 8) 2 41 := ⟨eg_X8_mended_24.1, rfl⟩
theorem d_X8_mended_41 : zDj m_X8_mended 41 (.if_icmp .eq) 44 53 := ⟨12, eg_X8_mended_24.2.1, rfl, by decide⟩
theorem d_X8_mended_44 : zD m_X8_mended 44 (.iload_n 1) 1 45 := ⟨eg_X8_mended_24.2.2.1, rfl⟩
theorem d_X8_mended_45 : zD m_X8_mended 45 (.iload 4) 2 47 := ⟨eg_X8_mended_24.2.2.2.1, rfl⟩
theorem d_X8_mended_47 : zD m_X8_mended 47 (.isub) 1 48 := ⟨eg_X8_mended_24.2.2.2.2.1, rfl⟩
theorem d_X8_mended_48 : zD m_X8_mended 48 (.bipush 8) 2 50 := ⟨eg_X8_mended_24.2.2.2.2.2.1, rfl⟩
theorem d_X8_mended_50 : zDj m_X8_mended 50 (.if_icmp .ne) 53 57 := ⟨7, eg_X8_mended_24.2.2.2.2.2.2.1, rfl, by decide⟩
theorem d_X8_mended_53 : zD m_X8_mended 53 (.iconst 1) 1 54 := ⟨eg_X8_mended_24.2.2.2.2.2.2.2, rfl⟩
theorem d_X8_mended_54 : zDj m_X8_mended 54 (.goto) 57 58 := ⟨4, eg_X8_mended_32.1, rfl, by decide⟩
theorem d_X8_mended_57 : zD m_X8_mended 57 (.iconst 0) 1 58 := ⟨eg_X8_mended_32.2.1, rfl⟩
theorem d_X8_mended_58 : zD m_X8_mended 58 (.istore 5) 2 60 := ⟨eg_X8_mended_32.2.2.1, rfl⟩
theorem d_X8_mended_60 : zD m_X8_mended 60 (.iload 4) 2 62 := ⟨eg_X8_mended_32.2.2.2.1, rfl⟩
theorem d_X8_mended_62 : zD m_X8_mended 62 (.bipush 8) 2 64 := ⟨eg_X8_mended_32.2.2.2.2.1, rfl⟩
theorem d_X8_mended_64 : zD m_X8_mended 64 (.idiv) 1 65 := ⟨eg_X8_mended_32.2.2.2.2.2.1, rfl⟩
theorem d_X8_mended_65 : zD m_X8_mended 65 (.iload_n 1) 1 66 := ⟨eg_X8_mended_32.2.2.2.2.2.2.1, rfl⟩
theorem d_X8_mended_66 : zD m_X8_mended 66 (.bipush 8) 2 68 := ⟨eg_X8_mended_32.2.2.2.2.2.2.2, rfl⟩
theorem d_X8_mended_68 : zD m_X8_mended 68 (.idiv) 1 69 := ⟨eg_X8_mended_40.1, rfl⟩
theorem d_X8_mended_69 : zDj m_X8_mended 69 (.if_icmp .ne) 72 92 := ⟨23, eg_X8_mended_40.2.1, rfl, by decide⟩
theorem d_X8_mended_72 : zD m_X8_mended 72 (.iload 4) 2 74 := ⟨eg_X8_mended_40.2.2.1, rfl⟩
theorem d_X8_mended_74 : zD m_X8_mended 74 (.iload_n 1) 1 75 := ⟨eg_X8_mended_40.2.2.2.1, rfl⟩
theorem d_X8_mended_75 : zD m_X8_mended 75 (.isub) 1 76 := ⟨eg_X8_mended_40.2.2.2.2.1, rfl⟩
theorem d_X8_mended_76 : zD m_X8_mended 76 (.iconst 1) 1 77 := ⟨eg_X8_mended_40.2.2.2.2.2.1, rfl⟩
theorem d_X8_mended_77 : zDj m_X8_mended 77 (.if_icmp .eq) 80 88 := ⟨11, eg_X8_mended_40.2.2.2.2.2.2.1, rfl, by decide⟩
theorem d_X8_mended_80 : zD m_X8_mended 80 (.iload_n 1) 1 81 := ⟨eg_X8_mended_40.2.2.2.2.2.2.2, rfl⟩
theorem d_X8_mended_81 : zD m_X8_mended 81 (.iload 4) 2 83 := ⟨eg_X8_mended_48.1, rfl⟩
theorem d_X8_mended_83 : zD m_X8_mended 83 (.isub) 1 84 := ⟨eg_X8_mended_48.2.1, rfl⟩
theorem d_X8_mended_84 : zD m_X8_mended 84 (.iconst 1) 1 85 := ⟨eg_X8_mended_48.2.2.1, rfl⟩
theorem d_X8_mended_85 : zDj m_X8_mended 85 (.if_icmp .ne) 88 92 := ⟨7, eg_X8_mended_48.2.2.2.1, rfl, by decide⟩
theorem d_X8_mended_88 : zD m_X8_mended 88 (.iconst 1) 1 89 := ⟨eg_X8_mended_48.2.2.2.2.1, rfl⟩
theorem d_X8_mended_89 : zDj m_X8_mended 89 (.goto) 92 93 := ⟨4, eg_X8_mended_48.2.2.2.2.2.1, rfl, by decide⟩
theorem d_X8_mended_92 : zD m_X8_mended 92 (.iconst 0) 1 93 := ⟨eg_X8_mended_48.2.2.2.2.2.2.1, rfl⟩
theorem d_X8_mended_93 : zD m_X8_mended 93 (.istore 6) 2 95 := ⟨eg_X8_mended_48.2.2.2.2.2.2.2, rfl⟩
theorem d_X8_mended_95 : zD m_X8_mended 95 (.iload 5) 2 97 := ⟨eg_X8_mended_56.1, rfl⟩
theorem d_X8_mended_97 : zDj m_X8_mended 97 (.ifCond .ne) 100 105 := ⟨8, eg_X8_mended_56.2.1, rfl, by decide⟩
theorem d_X8_mended_100 : zD m_X8_mended 100 (.iload 6) 2 102 := ⟨eg_X8_mended_56.2.2.1, rfl⟩
theorem d_X8_mended_102 : zDj m_X8_mended 102 (.ifCond .eq) 105 128 := ⟨26, eg_X8_mended_56.2.2.2.1, rfl, by decide⟩
theorem d_X8_mended_105 : zD m_X8_mended 105 (.aload_n 0) 1 106 := ⟨eg_X8_mended_56.2.2.2.2.1, rfl⟩
theorem d_X8_mended_106 : zD m_X8_mended 106 (.getfield 24) 3 109 := ⟨eg_X8_mended_56.2.2.2.2.2.1, rfl⟩
theorem d_X8_mended_109 : zD m_X8_mended 109 (.iload 4) 2 111 := ⟨eg_X8_mended_56.2.2.2.2.2.2.1, rfl⟩
theorem d_X8_mended_111 : zD m_X8_mended 111 (.iaload) 1 112 := ⟨eg_X8_mended_56.2.2.2.2.2.2.2, rfl⟩
theorem d_X8_mended_112 : zDj m_X8_mended 112 (.ifCond .ne) 115 128 := ⟨16, eg_X8_mended_64.1, rfl, by decide⟩
theorem d_X8_mended_115 : zD m_X8_mended 115 (.iload_n 2) 1 116 := ⟨eg_X8_mended_64.2.1, rfl⟩
theorem d_X8_mended_116 : zD m_X8_mended 116 (.aload_n 0) 1 117 := ⟨eg_X8_mended_64.2.2.1, rfl⟩
theorem d_X8_mended_117 : zD m_X8_mended 117 (.getfield 7) 3 120 := ⟨eg_X8_mended_64.2.2.2.1, rfl⟩
theorem d_X8_mended_120 : zD m_X8_mended 120 (.iload 4) 2 122 := ⟨eg_X8_mended_64.2.2.2.2.1, rfl⟩
theorem d_X8_mended_122 : zD m_X8_mended 122 (.iaload) 1 123 := ⟨eg_X8_mended_64.2.2.2.2.2.1, rfl⟩
theorem d_X8_mended_123 : zD m_X8_mended 123 (.iadd) 1 124 := ⟨eg_X8_mended_64.2.2.2.2.2.2.1, rfl⟩
theorem d_X8_mended_124 : zD m_X8_mended 124 (.istore_n 2) 1 125 := ⟨eg_X8_mended_64.2.2.2.2.2.2.2, rfl⟩
theorem d_X8_mended_125 : zD m_X8_mended 125 (.iinc 3 1) 3 128 := ⟨eg_X8_mended_72.1, rfl⟩
theorem d_X8_mended_128 : zD m_X8_mended 128 (.iinc 4 1) 3 131 := ⟨eg_X8_mended_72.2.1, rfl⟩
theorem d_X8_mended_131 : zDj m_X8_mended 131 (.goto) 134 16 := ⟨-115, eg_X8_mended_72.2.2.1, rfl, by decide⟩
theorem d_X8_mended_134 : zD m_X8_mended 134 (.iload_n 3) 1 135 := ⟨eg_X8_mended_72.2.2.2.1, rfl⟩
theorem d_X8_mended_135 : zDj m_X8_mended 135 (.ifCond .ne) 138 143 := ⟨8, eg_X8_mended_72.2.2.2.2.1, rfl, by decide⟩
theorem d_X8_mended_138 : zD m_X8_mended 138 (.bipush (-4)) 2 140 := ⟨eg_X8_mended_72.2.2.2.2.2.1, rfl⟩
theorem d_X8_mended_140 : zDj m_X8_mended 140 (.goto) 143 146 := ⟨6, eg_X8_mended_72.2.2.2.2.2.2.1, rfl, by decide⟩
theorem d_X8_mended_143 : zD m_X8_mended 143 (.iload_n 2) 1 144 := ⟨eg_X8_mended_72.2.2.2.2.2.2.2, rfl⟩
theorem d_X8_mended_144 : zD m_X8_mended 144 (.iload_n 3) 1 145 := ⟨eg_X8_mended_80.1, rfl⟩
theorem d_X8_mended_145 : zD m_X8_mended 145 (.idiv) 1 146 := ⟨eg_X8_mended_80.2.1, rfl⟩
theorem d_X8_mended_146 : decode (zcc m_X8_mended) 146 = .ok (.ireturn, 1) := eg_X8_mended_80.2.2
set_option maxRecDepth 20000 in
theorem eg_X8_full__0 : decode (zcc m_X8_full_) 0 = .ok (.iconst 1, 1) ∧ decode (zcc m_X8_full_) 1 = .ok (.aload_n 0, 1) ∧ decode (zcc m_X8_full_) 2 = .ok (.getfield 21, 3) ∧ decode (zcc m_X8_full_) 5 = .ok (.bipush 6, 2) ∧ decode (zcc m_X8_full_) 7 = .ok (.iaload, 1) ∧ decode (zcc m_X8_full_) 8 = .ok (.ishl, 1) ∧ decode (zcc m_X8_full_) 9 = .ok (.iconst 1, 1) ∧ decode (zcc m_X8_full_) 10 = .ok (.isub, 1) := by decide +kernel
set_option maxRecDepth 20000 in
theorem eg_X8_full__8 : decode (zcc m_X8_full_) 11 = .ok (.ireturn, 1) := by decide +kernel
theorem d_X8_full__0 : zD m_X8_full_ 0 (.iconst 1) 1 1 := ⟨eg_X8_full__0.1, rfl⟩
theorem d_X8_full__1 : zD m_X8_full_ 1 (.aload_n 0) 1 2 := ⟨eg_X8_full__0.2.1, rfl⟩
theorem d_X8_full__2 : zD m_X8_full_ 2 (.getfield 21) 3 5 := ⟨eg_X8_full__0.2.2.1, rfl⟩
theorem d_X8_full__5 : zD m_X8_full_ 5 (.bipush 6) 2 7 := ⟨eg_X8_full__0.2.2.2.1, rfl⟩
theorem d_X8_full__7 : zD m_X8_full_ 7 (.iaload) 1 8 := ⟨eg_X8_full__0.2.2.2.2.1, rfl⟩
theorem d_X8_full__8 : zD m_X8_full_ 8 (.ishl) 1 9 := ⟨eg_X8_full__0.2.2.2.2.2.1, rfl⟩
theorem d_X8_full__9 : zD m_X8_full_ 9 (.iconst 1) 1 10 := ⟨eg_X8_full__0.2.2.2.2.2.2.1, rfl⟩
theorem d_X8_full__10 : zD m_X8_full_ 10 (.isub) 1 11 := ⟨eg_X8_full__0.2.2.2.2.2.2.2, rfl⟩
theorem d_X8_full__11 : decode (zcc m_X8_full_) 11 = .ok (.ireturn, 1) := eg_X8_full__8
set_option maxRecDepth 20000 in
theorem eg_X8_isWord_0 : decode (zcc m_X8_isWord) 0 = .ok (.iload_n 1, 1) ∧ decode (zcc m_X8_isWord) 1 = .ok (.i2l, 1) ∧ decode (zcc m_X8_isWord) 2 = .ok (.lconst 0, 1) ∧ decode (zcc m_X8_isWord) 3 = .ok (.aload_n 0, 1) ∧ decode (zcc m_X8_isWord) 4 = .ok (.invokevirtual 267, 3) ∧ decode (zcc m_X8_isWord) 7 = .ok (.i2l, 1) ∧ decode (zcc m_X8_isWord) 8 = .ok (.invokestatic 92, 3) ∧ decode (zcc m_X8_isWord) 11 = .ok (.ireturn, 1) := by decide +kernel
theorem d_X8_isWord_0 : zD m_X8_isWord 0 (.iload_n 1) 1 1 := ⟨eg_X8_isWord_0.1, rfl⟩
theorem d_X8_isWord_1 : zD m_X8_isWord 1 (.i2l) 1 2 := ⟨eg_X8_isWord_0.2.1, rfl⟩
theorem d_X8_isWord_2 : zD m_X8_isWord 2 (.lconst 0) 1 3 := ⟨eg_X8_isWord_0.2.2.1, rfl⟩
theorem d_X8_isWord_3 : zD m_X8_isWord 3 (.aload_n 0) 1 4 := ⟨eg_X8_isWord_0.2.2.2.1, rfl⟩
theorem d_X8_isWord_4 : zD m_X8_isWord 4 (.invokevirtual 267) 3 7 := ⟨eg_X8_isWord_0.2.2.2.2.1, rfl⟩
theorem d_X8_isWord_7 : zD m_X8_isWord 7 (.i2l) 1 8 := ⟨eg_X8_isWord_0.2.2.2.2.2.1, rfl⟩
theorem d_X8_isWord_8 : zD m_X8_isWord 8 (.invokestatic 92) 3 11 := ⟨eg_X8_isWord_0.2.2.2.2.2.2.1, rfl⟩
theorem d_X8_isWord_11 : decode (zcc m_X8_isWord) 11 = .ok (.ireturn, 1) := eg_X8_isWord_0.2.2.2.2.2.2.2
set_option maxRecDepth 20000 in
theorem eg_X8_isHigh_0 : decode (zcc m_X8_isHigh) 0 = .ok (.iload_n 2, 1) ∧ decode (zcc m_X8_isHigh) 1 = .ok (.aload_n 0, 1) ∧ decode (zcc m_X8_isHigh) 2 = .ok (.getfield 21, 3) ∧ decode (zcc m_X8_isHigh) 5 = .ok (.bipush 6, 2) ∧ decode (zcc m_X8_isHigh) 7 = .ok (.iaload, 1) ∧ decode (zcc m_X8_isHigh) 8 = .ok (.irem, 1) ∧ decode (zcc m_X8_isHigh) 9 = .ok (.istore_n 3, 1) ∧ decode (zcc m_X8_isHigh) 10 = .ok (.iload_n 1, 1) := by decide +kernel
set_option maxRecDepth 20000 in
theorem eg_X8_isHigh_8 : decode (zcc m_X8_isHigh) 11 = .ok (.iload_n 3, 1) ∧ decode (zcc m_X8_isHigh) 12 = .ok (.ifCond .ge (15), 3) ∧ decode (zcc m_X8_isHigh) 15 = .ok (.iload_n 3, 1) ∧ decode (zcc m_X8_isHigh) 16 = .ok (.aload_n 0, 1) ∧ decode (zcc m_X8_isHigh) 17 = .ok (.getfield 21, 3) ∧ decode (zcc m_X8_isHigh) 20 = .ok (.bipush 6, 2) ∧ decode (zcc m_X8_isHigh) 22 = .ok (.iaload, 1) ∧ decode (zcc m_X8_isHigh) 23 = .ok (.iadd, 1) := by decide +kernel
set_option maxRecDepth 20000 in
theorem eg_X8_isHigh_16 : decode (zcc m_X8_isHigh) 24 = .ok (.goto (4), 3) ∧ decode (zcc m_X8_isHigh) 27 = .ok (.iload_n 3, 1) ∧ decode (zcc m_X8_isHigh) 28 = .ok (.ishr, 1) ∧ decode (zcc m_X8_isHigh) 29 = .ok (.iconst 1, 1) ∧ decode (zcc m_X8_isHigh) 30 = .ok (.iand, 1) ∧ decode (zcc m_X8_isHigh) 31 = .ok (.iconst 1, 1) ∧ decode (zcc m_X8_isHigh) 32 = .ok (.if_icmp .ne (7), 3) ∧ decode (zcc m_X8_isHigh) 35 = .ok (.iconst 1, 1) := by decide +kernel
set_option maxRecDepth 20000 in
theorem eg_X8_isHigh_24 : decode (zcc m_X8_isHigh) 36 = .ok (.goto (4), 3) ∧ decode (zcc m_X8_isHigh) 39 = .ok (.iconst 0, 1) ∧ decode (zcc m_X8_isHigh) 40 = .ok (.ireturn, 1) := by decide +kernel
theorem d_X8_isHigh_0 : zD m_X8_isHigh 0 (.iload_n 2) 1 1 := ⟨eg_X8_isHigh_0.1, rfl⟩
theorem d_X8_isHigh_1 : zD m_X8_isHigh 1 (.aload_n 0) 1 2 := ⟨eg_X8_isHigh_0.2.1, rfl⟩
theorem d_X8_isHigh_2 : zD m_X8_isHigh 2 (.getfield 21) 3 5 := ⟨eg_X8_isHigh_0.2.2.1, rfl⟩
theorem d_X8_isHigh_5 : zD m_X8_isHigh 5 (.bipush 6) 2 7 := ⟨eg_X8_isHigh_0.2.2.2.1, rfl⟩
theorem d_X8_isHigh_7 : zD m_X8_isHigh 7 (.iaload) 1 8 := ⟨eg_X8_isHigh_0.2.2.2.2.1, rfl⟩
theorem d_X8_isHigh_8 : zD m_X8_isHigh 8 (.irem) 1 9 := ⟨eg_X8_isHigh_0.2.2.2.2.2.1, rfl⟩
theorem d_X8_isHigh_9 : zD m_X8_isHigh 9 (.istore_n 3) 1 10 := ⟨eg_X8_isHigh_0.2.2.2.2.2.2.1, rfl⟩
theorem d_X8_isHigh_10 : zD m_X8_isHigh 10 (.iload_n 1) 1 11 := ⟨eg_X8_isHigh_0.2.2.2.2.2.2.2, rfl⟩
theorem d_X8_isHigh_11 : zD m_X8_isHigh 11 (.iload_n 3) 1 12 := ⟨eg_X8_isHigh_8.1, rfl⟩
theorem d_X8_isHigh_12 : zDj m_X8_isHigh 12 (.ifCond .ge) 15 27 := ⟨15, eg_X8_isHigh_8.2.1, rfl, by decide⟩
theorem d_X8_isHigh_15 : zD m_X8_isHigh 15 (.iload_n 3) 1 16 := ⟨eg_X8_isHigh_8.2.2.1, rfl⟩
theorem d_X8_isHigh_16 : zD m_X8_isHigh 16 (.aload_n 0) 1 17 := ⟨eg_X8_isHigh_8.2.2.2.1, rfl⟩
theorem d_X8_isHigh_17 : zD m_X8_isHigh 17 (.getfield 21) 3 20 := ⟨eg_X8_isHigh_8.2.2.2.2.1, rfl⟩
theorem d_X8_isHigh_20 : zD m_X8_isHigh 20 (.bipush 6) 2 22 := ⟨eg_X8_isHigh_8.2.2.2.2.2.1, rfl⟩
theorem d_X8_isHigh_22 : zD m_X8_isHigh 22 (.iaload) 1 23 := ⟨eg_X8_isHigh_8.2.2.2.2.2.2.1, rfl⟩
theorem d_X8_isHigh_23 : zD m_X8_isHigh 23 (.iadd) 1 24 := ⟨eg_X8_isHigh_8.2.2.2.2.2.2.2, rfl⟩
theorem d_X8_isHigh_24 : zDj m_X8_isHigh 24 (.goto) 27 28 := ⟨4, eg_X8_isHigh_16.1, rfl, by decide⟩
theorem d_X8_isHigh_27 : zD m_X8_isHigh 27 (.iload_n 3) 1 28 := ⟨eg_X8_isHigh_16.2.1, rfl⟩
theorem d_X8_isHigh_28 : zD m_X8_isHigh 28 (.ishr) 1 29 := ⟨eg_X8_isHigh_16.2.2.1, rfl⟩
theorem d_X8_isHigh_29 : zD m_X8_isHigh 29 (.iconst 1) 1 30 := ⟨eg_X8_isHigh_16.2.2.2.1, rfl⟩
theorem d_X8_isHigh_30 : zD m_X8_isHigh 30 (.iand) 1 31 := ⟨eg_X8_isHigh_16.2.2.2.2.1, rfl⟩
theorem d_X8_isHigh_31 : zD m_X8_isHigh 31 (.iconst 1) 1 32 := ⟨eg_X8_isHigh_16.2.2.2.2.2.1, rfl⟩
theorem d_X8_isHigh_32 : zDj m_X8_isHigh 32 (.if_icmp .ne) 35 39 := ⟨7, eg_X8_isHigh_16.2.2.2.2.2.2.1, rfl, by decide⟩
theorem d_X8_isHigh_35 : zD m_X8_isHigh 35 (.iconst 1) 1 36 := ⟨eg_X8_isHigh_16.2.2.2.2.2.2.2, rfl⟩
theorem d_X8_isHigh_36 : zDj m_X8_isHigh 36 (.goto) 39 40 := ⟨4, eg_X8_isHigh_24.1, rfl, by decide⟩
theorem d_X8_isHigh_39 : zD m_X8_isHigh 39 (.iconst 0) 1 40 := ⟨eg_X8_isHigh_24.2.1, rfl⟩
theorem d_X8_isHigh_40 : decode (zcc m_X8_isHigh) 40 = .ok (.ireturn, 1) := eg_X8_isHigh_24.2.2
set_option maxRecDepth 20000 in
theorem eg_X8_isGood_0 : decode (zcc m_X8_isGood) 0 = .ok (.iconst 0, 1) ∧ decode (zcc m_X8_isGood) 1 = .ok (.istore_n 2, 1) ∧ decode (zcc m_X8_isGood) 2 = .ok (.iconst 0, 1) ∧ decode (zcc m_X8_isGood) 3 = .ok (.istore_n 3, 1) ∧ decode (zcc m_X8_isGood) 4 = .ok (.iload_n 3, 1) ∧ decode (zcc m_X8_isGood) 5 = .ok (.aload_n 0, 1) ∧ decode (zcc m_X8_isGood) 6 = .ok (.getfield 21, 3) ∧ decode (zcc m_X8_isGood) 9 = .ok (.bipush 6, 2) := by decide +kernel
set_option maxRecDepth 20000 in
theorem eg_X8_isGood_8 : decode (zcc m_X8_isGood) 11 = .ok (.iaload, 1) ∧ decode (zcc m_X8_isGood) 12 = .ok (.if_icmp .ge (40), 3) ∧ decode (zcc m_X8_isGood) 15 = .ok (.iload_n 2, 1) ∧ decode (zcc m_X8_isGood) 16 = .ok (.aload_n 0, 1) ∧ decode (zcc m_X8_isGood) 17 = .ok (.iload_n 1, 1) ∧ decode (zcc m_X8_isGood) 18 = .ok (.iload_n 3, 1) ∧ decode (zcc m_X8_isGood) 19 = .ok (.invokevirtual 270, 3) ∧ decode (zcc m_X8_isGood) 22 = .ok (.ifCond .eq (18), 3) := by decide +kernel
set_option maxRecDepth 20000 in
theorem eg_X8_isGood_16 : decode (zcc m_X8_isGood) 25 = .ok (.aload_n 0, 1) ∧ decode (zcc m_X8_isGood) 26 = .ok (.iload_n 1, 1) ∧ decode (zcc m_X8_isGood) 27 = .ok (.iload_n 3, 1) ∧ decode (zcc m_X8_isGood) 28 = .ok (.iconst 1, 1) ∧ decode (zcc m_X8_isGood) 29 = .ok (.isub, 1) ∧ decode (zcc m_X8_isGood) 30 = .ok (.invokevirtual 270, 3) ∧ decode (zcc m_X8_isGood) 33 = .ok (.ifCond .ne (7), 3) ∧ decode (zcc m_X8_isGood) 36 = .ok (.iconst 1, 1) := by decide +kernel
set_option maxRecDepth 20000 in
theorem eg_X8_isGood_24 : decode (zcc m_X8_isGood) 37 = .ok (.goto (4), 3) ∧ decode (zcc m_X8_isGood) 40 = .ok (.iconst 0, 1) ∧ decode (zcc m_X8_isGood) 41 = .ok (.invokestatic 237, 3) ∧ decode (zcc m_X8_isGood) 44 = .ok (.iadd, 1) ∧ decode (zcc m_X8_isGood) 45 = .ok (.istore_n 2, 1) ∧ decode (zcc m_X8_isGood) 46 = .ok (.iinc 3 1, 3) ∧ decode (zcc m_X8_isGood) 49 = .ok (.goto (-45), 3) ∧ decode (zcc m_X8_isGood) 52 = .ok (.iload_n 2, 1) := by decide +kernel
set_option maxRecDepth 20000 in
theorem eg_X8_isGood_32 : decode (zcc m_X8_isGood) 53 = .ok (.iconst 1, 1) ∧ decode (zcc m_X8_isGood) 54 = .ok (.if_icmp .ne (7), 3) ∧ decode (zcc m_X8_isGood) 57 = .ok (.iconst 1, 1) ∧ decode (zcc m_X8_isGood) 58 = .ok (.goto (4), 3) ∧ decode (zcc m_X8_isGood) 61 = .ok (.iconst 0, 1) ∧ decode (zcc m_X8_isGood) 62 = .ok (.ireturn, 1) := by decide +kernel
theorem d_X8_isGood_0 : zD m_X8_isGood 0 (.iconst 0) 1 1 := ⟨eg_X8_isGood_0.1, rfl⟩
theorem d_X8_isGood_1 : zD m_X8_isGood 1 (.istore_n 2) 1 2 := ⟨eg_X8_isGood_0.2.1, rfl⟩
theorem d_X8_isGood_2 : zD m_X8_isGood 2 (.iconst 0) 1 3 := ⟨eg_X8_isGood_0.2.2.1, rfl⟩
theorem d_X8_isGood_3 : zD m_X8_isGood 3 (.istore_n 3) 1 4 := ⟨eg_X8_isGood_0.2.2.2.1, rfl⟩
theorem d_X8_isGood_4 : zD m_X8_isGood 4 (.iload_n 3) 1 5 := ⟨eg_X8_isGood_0.2.2.2.2.1, rfl⟩
theorem d_X8_isGood_5 : zD m_X8_isGood 5 (.aload_n 0) 1 6 := ⟨eg_X8_isGood_0.2.2.2.2.2.1, rfl⟩
theorem d_X8_isGood_6 : zD m_X8_isGood 6 (.getfield 21) 3 9 := ⟨eg_X8_isGood_0.2.2.2.2.2.2.1, rfl⟩
theorem d_X8_isGood_9 : zD m_X8_isGood 9 (.bipush 6) 2 11 := ⟨eg_X8_isGood_0.2.2.2.2.2.2.2, rfl⟩
theorem d_X8_isGood_11 : zD m_X8_isGood 11 (.iaload) 1 12 := ⟨eg_X8_isGood_8.1, rfl⟩
theorem d_X8_isGood_12 : zDj m_X8_isGood 12 (.if_icmp .ge) 15 52 := ⟨40, eg_X8_isGood_8.2.1, rfl, by decide⟩
theorem d_X8_isGood_15 : zD m_X8_isGood 15 (.iload_n 2) 1 16 := ⟨eg_X8_isGood_8.2.2.1, rfl⟩
theorem d_X8_isGood_16 : zD m_X8_isGood 16 (.aload_n 0) 1 17 := ⟨eg_X8_isGood_8.2.2.2.1, rfl⟩
theorem d_X8_isGood_17 : zD m_X8_isGood 17 (.iload_n 1) 1 18 := ⟨eg_X8_isGood_8.2.2.2.2.1, rfl⟩
theorem d_X8_isGood_18 : zD m_X8_isGood 18 (.iload_n 3) 1 19 := ⟨eg_X8_isGood_8.2.2.2.2.2.1, rfl⟩
theorem d_X8_isGood_19 : zD m_X8_isGood 19 (.invokevirtual 270) 3 22 := ⟨eg_X8_isGood_8.2.2.2.2.2.2.1, rfl⟩
theorem d_X8_isGood_22 : zDj m_X8_isGood 22 (.ifCond .eq) 25 40 := ⟨18, eg_X8_isGood_8.2.2.2.2.2.2.2, rfl, by decide⟩
theorem d_X8_isGood_25 : zD m_X8_isGood 25 (.aload_n 0) 1 26 := ⟨eg_X8_isGood_16.1, rfl⟩
theorem d_X8_isGood_26 : zD m_X8_isGood 26 (.iload_n 1) 1 27 := ⟨eg_X8_isGood_16.2.1, rfl⟩
theorem d_X8_isGood_27 : zD m_X8_isGood 27 (.iload_n 3) 1 28 := ⟨eg_X8_isGood_16.2.2.1, rfl⟩
theorem d_X8_isGood_28 : zD m_X8_isGood 28 (.iconst 1) 1 29 := ⟨eg_X8_isGood_16.2.2.2.1, rfl⟩
theorem d_X8_isGood_29 : zD m_X8_isGood 29 (.isub) 1 30 := ⟨eg_X8_isGood_16.2.2.2.2.1, rfl⟩
theorem d_X8_isGood_30 : zD m_X8_isGood 30 (.invokevirtual 270) 3 33 := ⟨eg_X8_isGood_16.2.2.2.2.2.1, rfl⟩
theorem d_X8_isGood_33 : zDj m_X8_isGood 33 (.ifCond .ne) 36 40 := ⟨7, eg_X8_isGood_16.2.2.2.2.2.2.1, rfl, by decide⟩
theorem d_X8_isGood_36 : zD m_X8_isGood 36 (.iconst 1) 1 37 := ⟨eg_X8_isGood_16.2.2.2.2.2.2.2, rfl⟩
theorem d_X8_isGood_37 : zDj m_X8_isGood 37 (.goto) 40 41 := ⟨4, eg_X8_isGood_24.1, rfl, by decide⟩
theorem d_X8_isGood_40 : zD m_X8_isGood 40 (.iconst 0) 1 41 := ⟨eg_X8_isGood_24.2.1, rfl⟩
theorem d_X8_isGood_41 : zD m_X8_isGood 41 (.invokestatic 237) 3 44 := ⟨eg_X8_isGood_24.2.2.1, rfl⟩
theorem d_X8_isGood_44 : zD m_X8_isGood 44 (.iadd) 1 45 := ⟨eg_X8_isGood_24.2.2.2.1, rfl⟩
theorem d_X8_isGood_45 : zD m_X8_isGood 45 (.istore_n 2) 1 46 := ⟨eg_X8_isGood_24.2.2.2.2.1, rfl⟩
theorem d_X8_isGood_46 : zD m_X8_isGood 46 (.iinc 3 1) 3 49 := ⟨eg_X8_isGood_24.2.2.2.2.2.1, rfl⟩
theorem d_X8_isGood_49 : zDj m_X8_isGood 49 (.goto) 52 4 := ⟨-45, eg_X8_isGood_24.2.2.2.2.2.2.1, rfl, by decide⟩
theorem d_X8_isGood_52 : zD m_X8_isGood 52 (.iload_n 2) 1 53 := ⟨eg_X8_isGood_24.2.2.2.2.2.2.2, rfl⟩
theorem d_X8_isGood_53 : zD m_X8_isGood 53 (.iconst 1) 1 54 := ⟨eg_X8_isGood_32.1, rfl⟩
theorem d_X8_isGood_54 : zDj m_X8_isGood 54 (.if_icmp .ne) 57 61 := ⟨7, eg_X8_isGood_32.2.1, rfl, by decide⟩
theorem d_X8_isGood_57 : zD m_X8_isGood 57 (.iconst 1) 1 58 := ⟨eg_X8_isGood_32.2.2.1, rfl⟩
theorem d_X8_isGood_58 : zDj m_X8_isGood 58 (.goto) 61 62 := ⟨4, eg_X8_isGood_32.2.2.2.1, rfl, by decide⟩
theorem d_X8_isGood_61 : zD m_X8_isGood 61 (.iconst 0) 1 62 := ⟨eg_X8_isGood_32.2.2.2.2.1, rfl⟩
theorem d_X8_isGood_62 : decode (zcc m_X8_isGood) 62 = .ok (.ireturn, 1) := eg_X8_isGood_32.2.2.2.2.2
set_option maxRecDepth 20000 in
theorem eg_X8_beginOf_0 : decode (zcc m_X8_beginOf) 0 = .ok (.iload_n 2, 1) ∧ decode (zcc m_X8_beginOf) 1 = .ok (.istore_n 3, 1) ∧ decode (zcc m_X8_beginOf) 2 = .ok (.aload_n 0, 1) ∧ decode (zcc m_X8_beginOf) 3 = .ok (.iload_n 1, 1) ∧ decode (zcc m_X8_beginOf) 4 = .ok (.iload_n 3, 1) ∧ decode (zcc m_X8_beginOf) 5 = .ok (.iconst 1, 1) ∧ decode (zcc m_X8_beginOf) 6 = .ok (.isub, 1) ∧ decode (zcc m_X8_beginOf) 7 = .ok (.invokevirtual 270, 3) := by decide +kernel
set_option maxRecDepth 20000 in
theorem eg_X8_beginOf_8 : decode (zcc m_X8_beginOf) 10 = .ok (.ifCond .eq (9), 3) ∧ decode (zcc m_X8_beginOf) 13 = .ok (.iinc 3 (-1), 3) ∧ decode (zcc m_X8_beginOf) 16 = .ok (.goto (-14), 3) ∧ decode (zcc m_X8_beginOf) 19 = .ok (.iload_n 3, 1) ∧ decode (zcc m_X8_beginOf) 20 = .ok (.ireturn, 1) := by decide +kernel
theorem d_X8_beginOf_0 : zD m_X8_beginOf 0 (.iload_n 2) 1 1 := ⟨eg_X8_beginOf_0.1, rfl⟩
theorem d_X8_beginOf_1 : zD m_X8_beginOf 1 (.istore_n 3) 1 2 := ⟨eg_X8_beginOf_0.2.1, rfl⟩
theorem d_X8_beginOf_2 : zD m_X8_beginOf 2 (.aload_n 0) 1 3 := ⟨eg_X8_beginOf_0.2.2.1, rfl⟩
theorem d_X8_beginOf_3 : zD m_X8_beginOf 3 (.iload_n 1) 1 4 := ⟨eg_X8_beginOf_0.2.2.2.1, rfl⟩
theorem d_X8_beginOf_4 : zD m_X8_beginOf 4 (.iload_n 3) 1 5 := ⟨eg_X8_beginOf_0.2.2.2.2.1, rfl⟩
theorem d_X8_beginOf_5 : zD m_X8_beginOf 5 (.iconst 1) 1 6 := ⟨eg_X8_beginOf_0.2.2.2.2.2.1, rfl⟩
theorem d_X8_beginOf_6 : zD m_X8_beginOf 6 (.isub) 1 7 := ⟨eg_X8_beginOf_0.2.2.2.2.2.2.1, rfl⟩
theorem d_X8_beginOf_7 : zD m_X8_beginOf 7 (.invokevirtual 270) 3 10 := ⟨eg_X8_beginOf_0.2.2.2.2.2.2.2, rfl⟩
theorem d_X8_beginOf_10 : zDj m_X8_beginOf 10 (.ifCond .eq) 13 19 := ⟨9, eg_X8_beginOf_8.1, rfl, by decide⟩
theorem d_X8_beginOf_13 : zD m_X8_beginOf 13 (.iinc 3 (-1)) 3 16 := ⟨eg_X8_beginOf_8.2.1, rfl⟩
theorem d_X8_beginOf_16 : zDj m_X8_beginOf 16 (.goto) 19 2 := ⟨-14, eg_X8_beginOf_8.2.2.1, rfl, by decide⟩
theorem d_X8_beginOf_19 : zD m_X8_beginOf 19 (.iload_n 3) 1 20 := ⟨eg_X8_beginOf_8.2.2.2.1, rfl⟩
theorem d_X8_beginOf_20 : decode (zcc m_X8_beginOf) 20 = .ok (.ireturn, 1) := eg_X8_beginOf_8.2.2.2.2
set_option maxRecDepth 20000 in
theorem eg_X8_findMeets_0 : decode (zcc m_X8_findMeets) 0 = .ok (.aload_n 0, 1) ∧ decode (zcc m_X8_findMeets) 1 = .ok (.iconst 0, 1) ∧ decode (zcc m_X8_findMeets) 2 = .ok (.putfield 273, 3) ∧ decode (zcc m_X8_findMeets) 5 = .ok (.aload_n 0, 1) ∧ decode (zcc m_X8_findMeets) 6 = .ok (.iconst 0, 1) ∧ decode (zcc m_X8_findMeets) 7 = .ok (.putfield 276, 3) ∧ decode (zcc m_X8_findMeets) 10 = .ok (.iload_n 2, 1) ∧ decode (zcc m_X8_findMeets) 11 = .ok (.istore 4, 2) := by decide +kernel
set_option maxRecDepth 20000 in
theorem eg_X8_findMeets_8 : decode (zcc m_X8_findMeets) 13 = .ok (.aload_n 0, 1) ∧ decode (zcc m_X8_findMeets) 14 = .ok (.iload_n 1, 1) ∧ decode (zcc m_X8_findMeets) 15 = .ok (.iload 4, 2) ∧ decode (zcc m_X8_findMeets) 17 = .ok (.invokevirtual 270, 3) ∧ decode (zcc m_X8_findMeets) 20 = .ok (.ifCond .eq (61), 3) ∧ decode (zcc m_X8_findMeets) 23 = .ok (.aload_n 0, 1) ∧ decode (zcc m_X8_findMeets) 24 = .ok (.iload_n 3, 1) ∧ decode (zcc m_X8_findMeets) 25 = .ok (.iload 4, 2) := by decide +kernel
set_option maxRecDepth 20000 in
theorem eg_X8_findMeets_16 : decode (zcc m_X8_findMeets) 27 = .ok (.invokevirtual 270, 3) ∧ decode (zcc m_X8_findMeets) 30 = .ok (.ifCond .eq (45), 3) ∧ decode (zcc m_X8_findMeets) 33 = .ok (.aload_n 0, 1) ∧ decode (zcc m_X8_findMeets) 34 = .ok (.getfield 273, 3) ∧ decode (zcc m_X8_findMeets) 37 = .ok (.ifCond .eq (17), 3) ∧ decode (zcc m_X8_findMeets) 40 = .ok (.aload_n 0, 1) ∧ decode (zcc m_X8_findMeets) 41 = .ok (.iload_n 3, 1) ∧ decode (zcc m_X8_findMeets) 42 = .ok (.iload 4, 2) := by decide +kernel
set_option maxRecDepth 20000 in
theorem eg_X8_findMeets_24 : decode (zcc m_X8_findMeets) 44 = .ok (.invokevirtual 279, 3) ∧ decode (zcc m_X8_findMeets) 47 = .ok (.aload_n 0, 1) ∧ decode (zcc m_X8_findMeets) 48 = .ok (.getfield 276, 3) ∧ decode (zcc m_X8_findMeets) 51 = .ok (.if_icmp .eq (24), 3) ∧ decode (zcc m_X8_findMeets) 54 = .ok (.aload_n 0, 1) ∧ decode (zcc m_X8_findMeets) 55 = .ok (.aload_n 0, 1) ∧ decode (zcc m_X8_findMeets) 56 = .ok (.iload_n 3, 1) ∧ decode (zcc m_X8_findMeets) 57 = .ok (.iload 4, 2) := by decide +kernel
set_option maxRecDepth 20000 in
theorem eg_X8_findMeets_32 : decode (zcc m_X8_findMeets) 59 = .ok (.invokevirtual 279, 3) ∧ decode (zcc m_X8_findMeets) 62 = .ok (.putfield 276, 3) ∧ decode (zcc m_X8_findMeets) 65 = .ok (.aload_n 0, 1) ∧ decode (zcc m_X8_findMeets) 66 = .ok (.dup, 1) ∧ decode (zcc m_X8_findMeets) 67 = .ok (.getfield 273, 3) ∧ decode (zcc m_X8_findMeets) 70 = .ok (.iconst 1, 1) ∧ decode (zcc m_X8_findMeets) 71 = .ok (.iadd, 1) ∧ decode (zcc m_X8_findMeets) 72 = .ok (.putfield 273, 3) := by decide +kernel
set_option maxRecDepth 20000 in
theorem eg_X8_findMeets_40 : decode (zcc m_X8_findMeets) 75 = .ok (.iinc 4 1, 3) ∧ decode (zcc m_X8_findMeets) 78 = .ok (.goto (-65), 3) ∧ decode (zcc m_X8_findMeets) 81 = .ok (.return_, 1) := by decide +kernel
theorem d_X8_findMeets_0 : zD m_X8_findMeets 0 (.aload_n 0) 1 1 := ⟨eg_X8_findMeets_0.1, rfl⟩
theorem d_X8_findMeets_1 : zD m_X8_findMeets 1 (.iconst 0) 1 2 := ⟨eg_X8_findMeets_0.2.1, rfl⟩
theorem d_X8_findMeets_2 : zD m_X8_findMeets 2 (.putfield 273) 3 5 := ⟨eg_X8_findMeets_0.2.2.1, rfl⟩
theorem d_X8_findMeets_5 : zD m_X8_findMeets 5 (.aload_n 0) 1 6 := ⟨eg_X8_findMeets_0.2.2.2.1, rfl⟩
theorem d_X8_findMeets_6 : zD m_X8_findMeets 6 (.iconst 0) 1 7 := ⟨eg_X8_findMeets_0.2.2.2.2.1, rfl⟩
theorem d_X8_findMeets_7 : zD m_X8_findMeets 7 (.putfield 276) 3 10 := ⟨eg_X8_findMeets_0.2.2.2.2.2.1, rfl⟩
theorem d_X8_findMeets_10 : zD m_X8_findMeets 10 (.iload_n 2) 1 11 := ⟨eg_X8_findMeets_0.2.2.2.2.2.2.1, rfl⟩
theorem d_X8_findMeets_11 : zD m_X8_findMeets 11 (.istore 4) 2 13 := ⟨eg_X8_findMeets_0.2.2.2.2.2.2.2, rfl⟩
theorem d_X8_findMeets_13 : zD m_X8_findMeets 13 (.aload_n 0) 1 14 := ⟨eg_X8_findMeets_8.1, rfl⟩
theorem d_X8_findMeets_14 : zD m_X8_findMeets 14 (.iload_n 1) 1 15 := ⟨eg_X8_findMeets_8.2.1, rfl⟩
theorem d_X8_findMeets_15 : zD m_X8_findMeets 15 (.iload 4) 2 17 := ⟨eg_X8_findMeets_8.2.2.1, rfl⟩
theorem d_X8_findMeets_17 : zD m_X8_findMeets 17 (.invokevirtual 270) 3 20 := ⟨eg_X8_findMeets_8.2.2.2.1, rfl⟩
theorem d_X8_findMeets_20 : zDj m_X8_findMeets 20 (.ifCond .eq) 23 81 := ⟨61, eg_X8_findMeets_8.2.2.2.2.1, rfl, by decide⟩
theorem d_X8_findMeets_23 : zD m_X8_findMeets 23 (.aload_n 0) 1 24 := ⟨eg_X8_findMeets_8.2.2.2.2.2.1, rfl⟩
theorem d_X8_findMeets_24 : zD m_X8_findMeets 24 (.iload_n 3) 1 25 := ⟨eg_X8_findMeets_8.2.2.2.2.2.2.1, rfl⟩
theorem d_X8_findMeets_25 : zD m_X8_findMeets 25 (.iload 4) 2 27 := ⟨eg_X8_findMeets_8.2.2.2.2.2.2.2, rfl⟩
theorem d_X8_findMeets_27 : zD m_X8_findMeets 27 (.invokevirtual 270) 3 30 := ⟨eg_X8_findMeets_16.1, rfl⟩
theorem d_X8_findMeets_30 : zDj m_X8_findMeets 30 (.ifCond .eq) 33 75 := ⟨45, eg_X8_findMeets_16.2.1, rfl, by decide⟩
theorem d_X8_findMeets_33 : zD m_X8_findMeets 33 (.aload_n 0) 1 34 := ⟨eg_X8_findMeets_16.2.2.1, rfl⟩
theorem d_X8_findMeets_34 : zD m_X8_findMeets 34 (.getfield 273) 3 37 := ⟨eg_X8_findMeets_16.2.2.2.1, rfl⟩
theorem d_X8_findMeets_37 : zDj m_X8_findMeets 37 (.ifCond .eq) 40 54 := ⟨17, eg_X8_findMeets_16.2.2.2.2.1, rfl, by decide⟩
theorem d_X8_findMeets_40 : zD m_X8_findMeets 40 (.aload_n 0) 1 41 := ⟨eg_X8_findMeets_16.2.2.2.2.2.1, rfl⟩
theorem d_X8_findMeets_41 : zD m_X8_findMeets 41 (.iload_n 3) 1 42 := ⟨eg_X8_findMeets_16.2.2.2.2.2.2.1, rfl⟩
theorem d_X8_findMeets_42 : zD m_X8_findMeets 42 (.iload 4) 2 44 := ⟨eg_X8_findMeets_16.2.2.2.2.2.2.2, rfl⟩
theorem d_X8_findMeets_44 : zD m_X8_findMeets 44 (.invokevirtual 279) 3 47 := ⟨eg_X8_findMeets_24.1, rfl⟩
theorem d_X8_findMeets_47 : zD m_X8_findMeets 47 (.aload_n 0) 1 48 := ⟨eg_X8_findMeets_24.2.1, rfl⟩
theorem d_X8_findMeets_48 : zD m_X8_findMeets 48 (.getfield 276) 3 51 := ⟨eg_X8_findMeets_24.2.2.1, rfl⟩
theorem d_X8_findMeets_51 : zDj m_X8_findMeets 51 (.if_icmp .eq) 54 75 := ⟨24, eg_X8_findMeets_24.2.2.2.1, rfl, by decide⟩
theorem d_X8_findMeets_54 : zD m_X8_findMeets 54 (.aload_n 0) 1 55 := ⟨eg_X8_findMeets_24.2.2.2.2.1, rfl⟩
theorem d_X8_findMeets_55 : zD m_X8_findMeets 55 (.aload_n 0) 1 56 := ⟨eg_X8_findMeets_24.2.2.2.2.2.1, rfl⟩
theorem d_X8_findMeets_56 : zD m_X8_findMeets 56 (.iload_n 3) 1 57 := ⟨eg_X8_findMeets_24.2.2.2.2.2.2.1, rfl⟩
theorem d_X8_findMeets_57 : zD m_X8_findMeets 57 (.iload 4) 2 59 := ⟨eg_X8_findMeets_24.2.2.2.2.2.2.2, rfl⟩
theorem d_X8_findMeets_59 : zD m_X8_findMeets 59 (.invokevirtual 279) 3 62 := ⟨eg_X8_findMeets_32.1, rfl⟩
theorem d_X8_findMeets_62 : zD m_X8_findMeets 62 (.putfield 276) 3 65 := ⟨eg_X8_findMeets_32.2.1, rfl⟩
theorem d_X8_findMeets_65 : zD m_X8_findMeets 65 (.aload_n 0) 1 66 := ⟨eg_X8_findMeets_32.2.2.1, rfl⟩
theorem d_X8_findMeets_66 : zD m_X8_findMeets 66 (.dup) 1 67 := ⟨eg_X8_findMeets_32.2.2.2.1, rfl⟩
theorem d_X8_findMeets_67 : zD m_X8_findMeets 67 (.getfield 273) 3 70 := ⟨eg_X8_findMeets_32.2.2.2.2.1, rfl⟩
theorem d_X8_findMeets_70 : zD m_X8_findMeets 70 (.iconst 1) 1 71 := ⟨eg_X8_findMeets_32.2.2.2.2.2.1, rfl⟩
theorem d_X8_findMeets_71 : zD m_X8_findMeets 71 (.iadd) 1 72 := ⟨eg_X8_findMeets_32.2.2.2.2.2.2.1, rfl⟩
theorem d_X8_findMeets_72 : zD m_X8_findMeets 72 (.putfield 273) 3 75 := ⟨eg_X8_findMeets_32.2.2.2.2.2.2.2, rfl⟩
theorem d_X8_findMeets_75 : zD m_X8_findMeets 75 (.iinc 4 1) 3 78 := ⟨eg_X8_findMeets_40.1, rfl⟩
theorem d_X8_findMeets_78 : zDj m_X8_findMeets 78 (.goto) 81 13 := ⟨-65, eg_X8_findMeets_40.2.1, rfl, by decide⟩
theorem d_X8_findMeets_81 : decode (zcc m_X8_findMeets) 81 = .ok (.return_, 1) := eg_X8_findMeets_40.2.2
set_option maxRecDepth 20000 in
theorem eg_X8_wrong_0 : decode (zcc m_X8_wrong) 0 = .ok (.iload_n 3, 1) ∧ decode (zcc m_X8_wrong) 1 = .ok (.aload_n 0, 1) ∧ decode (zcc m_X8_wrong) 2 = .ok (.invokevirtual 267, 3) ∧ decode (zcc m_X8_wrong) 5 = .ok (.if_icmp .ne (5), 3) ∧ decode (zcc m_X8_wrong) 8 = .ok (.iconst 3, 1) ∧ decode (zcc m_X8_wrong) 9 = .ok (.ireturn, 1) ∧ decode (zcc m_X8_wrong) 10 = .ok (.aload_n 0, 1) ∧ decode (zcc m_X8_wrong) 11 = .ok (.iload_n 1, 1) := by decide +kernel
set_option maxRecDepth 20000 in
theorem eg_X8_wrong_8 : decode (zcc m_X8_wrong) 12 = .ok (.iload_n 2, 1) ∧ decode (zcc m_X8_wrong) 13 = .ok (.iload_n 3, 1) ∧ decode (zcc m_X8_wrong) 14 = .ok (.invokevirtual 282, 3) ∧ decode (zcc m_X8_wrong) 17 = .ok (.aload_n 0, 1) ∧ decode (zcc m_X8_wrong) 18 = .ok (.getfield 273, 3) ∧ decode (zcc m_X8_wrong) 21 = .ok (.ifCond .ne (7), 3) ∧ decode (zcc m_X8_wrong) 24 = .ok (.iconst 1, 1) ∧ decode (zcc m_X8_wrong) 25 = .ok (.goto (16), 3) := by decide +kernel
set_option maxRecDepth 20000 in
theorem eg_X8_wrong_16 : decode (zcc m_X8_wrong) 28 = .ok (.aload_n 0, 1) ∧ decode (zcc m_X8_wrong) 29 = .ok (.getfield 273, 3) ∧ decode (zcc m_X8_wrong) 32 = .ok (.iconst 1, 1) ∧ decode (zcc m_X8_wrong) 33 = .ok (.if_icmp .le (7), 3) ∧ decode (zcc m_X8_wrong) 36 = .ok (.iconst 2, 1) ∧ decode (zcc m_X8_wrong) 37 = .ok (.goto (4), 3) ∧ decode (zcc m_X8_wrong) 40 = .ok (.iconst 0, 1) ∧ decode (zcc m_X8_wrong) 41 = .ok (.ireturn, 1) := by decide +kernel
theorem d_X8_wrong_0 : zD m_X8_wrong 0 (.iload_n 3) 1 1 := ⟨eg_X8_wrong_0.1, rfl⟩
theorem d_X8_wrong_1 : zD m_X8_wrong 1 (.aload_n 0) 1 2 := ⟨eg_X8_wrong_0.2.1, rfl⟩
theorem d_X8_wrong_2 : zD m_X8_wrong 2 (.invokevirtual 267) 3 5 := ⟨eg_X8_wrong_0.2.2.1, rfl⟩
theorem d_X8_wrong_5 : zDj m_X8_wrong 5 (.if_icmp .ne) 8 10 := ⟨5, eg_X8_wrong_0.2.2.2.1, rfl, by decide⟩
theorem d_X8_wrong_8 : zD m_X8_wrong 8 (.iconst 3) 1 9 := ⟨eg_X8_wrong_0.2.2.2.2.1, rfl⟩
theorem d_X8_wrong_9 : decode (zcc m_X8_wrong) 9 = .ok (.ireturn, 1) := eg_X8_wrong_0.2.2.2.2.2.1
theorem d_X8_wrong_10 : zD m_X8_wrong 10 (.aload_n 0) 1 11 := ⟨eg_X8_wrong_0.2.2.2.2.2.2.1, rfl⟩
theorem d_X8_wrong_11 : zD m_X8_wrong 11 (.iload_n 1) 1 12 := ⟨eg_X8_wrong_0.2.2.2.2.2.2.2, rfl⟩
theorem d_X8_wrong_12 : zD m_X8_wrong 12 (.iload_n 2) 1 13 := ⟨eg_X8_wrong_8.1, rfl⟩
theorem d_X8_wrong_13 : zD m_X8_wrong 13 (.iload_n 3) 1 14 := ⟨eg_X8_wrong_8.2.1, rfl⟩
theorem d_X8_wrong_14 : zD m_X8_wrong 14 (.invokevirtual 282) 3 17 := ⟨eg_X8_wrong_8.2.2.1, rfl⟩
theorem d_X8_wrong_17 : zD m_X8_wrong 17 (.aload_n 0) 1 18 := ⟨eg_X8_wrong_8.2.2.2.1, rfl⟩
theorem d_X8_wrong_18 : zD m_X8_wrong 18 (.getfield 273) 3 21 := ⟨eg_X8_wrong_8.2.2.2.2.1, rfl⟩
theorem d_X8_wrong_21 : zDj m_X8_wrong 21 (.ifCond .ne) 24 28 := ⟨7, eg_X8_wrong_8.2.2.2.2.2.1, rfl, by decide⟩
theorem d_X8_wrong_24 : zD m_X8_wrong 24 (.iconst 1) 1 25 := ⟨eg_X8_wrong_8.2.2.2.2.2.2.1, rfl⟩
theorem d_X8_wrong_25 : zDj m_X8_wrong 25 (.goto) 28 41 := ⟨16, eg_X8_wrong_8.2.2.2.2.2.2.2, rfl, by decide⟩
theorem d_X8_wrong_28 : zD m_X8_wrong 28 (.aload_n 0) 1 29 := ⟨eg_X8_wrong_16.1, rfl⟩
theorem d_X8_wrong_29 : zD m_X8_wrong 29 (.getfield 273) 3 32 := ⟨eg_X8_wrong_16.2.1, rfl⟩
theorem d_X8_wrong_32 : zD m_X8_wrong 32 (.iconst 1) 1 33 := ⟨eg_X8_wrong_16.2.2.1, rfl⟩
theorem d_X8_wrong_33 : zDj m_X8_wrong 33 (.if_icmp .le) 36 40 := ⟨7, eg_X8_wrong_16.2.2.2.1, rfl, by decide⟩
theorem d_X8_wrong_36 : zD m_X8_wrong 36 (.iconst 2) 1 37 := ⟨eg_X8_wrong_16.2.2.2.2.1, rfl⟩
theorem d_X8_wrong_37 : zDj m_X8_wrong 37 (.goto) 40 41 := ⟨4, eg_X8_wrong_16.2.2.2.2.2.1, rfl, by decide⟩
theorem d_X8_wrong_40 : zD m_X8_wrong 40 (.iconst 0) 1 41 := ⟨eg_X8_wrong_16.2.2.2.2.2.2.1, rfl⟩
theorem d_X8_wrong_41 : decode (zcc m_X8_wrong) 41 = .ok (.ireturn, 1) := eg_X8_wrong_16.2.2.2.2.2.2.2
set_option maxRecDepth 20000 in
theorem eg_X8_goesTo_0 : decode (zcc m_X8_goesTo) 0 = .ok (.aload_n 0, 1) ∧ decode (zcc m_X8_goesTo) 1 = .ok (.iload_n 1, 1) ∧ decode (zcc m_X8_goesTo) 2 = .ok (.iload_n 2, 1) ∧ decode (zcc m_X8_goesTo) 3 = .ok (.iload_n 3, 1) ∧ decode (zcc m_X8_goesTo) 4 = .ok (.invokevirtual 282, 3) ∧ decode (zcc m_X8_goesTo) 7 = .ok (.aload_n 0, 1) ∧ decode (zcc m_X8_goesTo) 8 = .ok (.getfield 276, 3) ∧ decode (zcc m_X8_goesTo) 11 = .ok (.ireturn, 1) := by decide +kernel
theorem d_X8_goesTo_0 : zD m_X8_goesTo 0 (.aload_n 0) 1 1 := ⟨eg_X8_goesTo_0.1, rfl⟩
theorem d_X8_goesTo_1 : zD m_X8_goesTo 1 (.iload_n 1) 1 2 := ⟨eg_X8_goesTo_0.2.1, rfl⟩
theorem d_X8_goesTo_2 : zD m_X8_goesTo 2 (.iload_n 2) 1 3 := ⟨eg_X8_goesTo_0.2.2.1, rfl⟩
theorem d_X8_goesTo_3 : zD m_X8_goesTo 3 (.iload_n 3) 1 4 := ⟨eg_X8_goesTo_0.2.2.2.1, rfl⟩
theorem d_X8_goesTo_4 : zD m_X8_goesTo 4 (.invokevirtual 282) 3 7 := ⟨eg_X8_goesTo_0.2.2.2.2.1, rfl⟩
theorem d_X8_goesTo_7 : zD m_X8_goesTo 7 (.aload_n 0) 1 8 := ⟨eg_X8_goesTo_0.2.2.2.2.2.1, rfl⟩
theorem d_X8_goesTo_8 : zD m_X8_goesTo 8 (.getfield 276) 3 11 := ⟨eg_X8_goesTo_0.2.2.2.2.2.2.1, rfl⟩
theorem d_X8_goesTo_11 : decode (zcc m_X8_goesTo) 11 = .ok (.ireturn, 1) := eg_X8_goesTo_0.2.2.2.2.2.2.2
set_option maxRecDepth 20000 in
theorem eg_X8_word_0 : decode (zcc m_X8_word) 0 = .ok (.aload_n 0, 1) ∧ decode (zcc m_X8_word) 1 = .ok (.iload_n 1, 1) ∧ decode (zcc m_X8_word) 2 = .ok (.invokevirtual 285, 3) ∧ decode (zcc m_X8_word) 5 = .ok (.ifCond .ne (5), 3) ∧ decode (zcc m_X8_word) 8 = .ok (.iconst (-1), 1) ∧ decode (zcc m_X8_word) 9 = .ok (.ireturn, 1) ∧ decode (zcc m_X8_word) 10 = .ok (.aload_n 0, 1) ∧ decode (zcc m_X8_word) 11 = .ok (.getfield 99, 3) := by decide +kernel
set_option maxRecDepth 20000 in
theorem eg_X8_word_8 : decode (zcc m_X8_word) 14 = .ok (.bipush 12, 2) ∧ decode (zcc m_X8_word) 16 = .ok (.if_icmp .ne (6), 3) ∧ decode (zcc m_X8_word) 19 = .ok (.bipush (-3), 2) ∧ decode (zcc m_X8_word) 21 = .ok (.ireturn, 1) ∧ decode (zcc m_X8_word) 22 = .ok (.aload_n 0, 1) ∧ decode (zcc m_X8_word) 23 = .ok (.getfield 30, 3) ∧ decode (zcc m_X8_word) 26 = .ok (.aload_n 0, 1) ∧ decode (zcc m_X8_word) 27 = .ok (.getfield 99, 3) := by decide +kernel
set_option maxRecDepth 20000 in
theorem eg_X8_word_16 : decode (zcc m_X8_word) 30 = .ok (.iload_n 1, 1) ∧ decode (zcc m_X8_word) 31 = .ok (.iastore, 1) ∧ decode (zcc m_X8_word) 32 = .ok (.aload_n 0, 1) ∧ decode (zcc m_X8_word) 33 = .ok (.dup, 1) ∧ decode (zcc m_X8_word) 34 = .ok (.getfield 99, 3) ∧ decode (zcc m_X8_word) 37 = .ok (.iconst 1, 1) ∧ decode (zcc m_X8_word) 38 = .ok (.iadd, 1) ∧ decode (zcc m_X8_word) 39 = .ok (.putfield 99, 3) := by decide +kernel
set_option maxRecDepth 20000 in
theorem eg_X8_word_24 : decode (zcc m_X8_word) 42 = .ok (.aload_n 0, 1) ∧ decode (zcc m_X8_word) 43 = .ok (.getfield 99, 3) ∧ decode (zcc m_X8_word) 46 = .ok (.ireturn, 1) := by decide +kernel
theorem d_X8_word_0 : zD m_X8_word 0 (.aload_n 0) 1 1 := ⟨eg_X8_word_0.1, rfl⟩
theorem d_X8_word_1 : zD m_X8_word 1 (.iload_n 1) 1 2 := ⟨eg_X8_word_0.2.1, rfl⟩
theorem d_X8_word_2 : zD m_X8_word 2 (.invokevirtual 285) 3 5 := ⟨eg_X8_word_0.2.2.1, rfl⟩
theorem d_X8_word_5 : zDj m_X8_word 5 (.ifCond .ne) 8 10 := ⟨5, eg_X8_word_0.2.2.2.1, rfl, by decide⟩
theorem d_X8_word_8 : zD m_X8_word 8 (.iconst (-1)) 1 9 := ⟨eg_X8_word_0.2.2.2.2.1, rfl⟩
theorem d_X8_word_9 : decode (zcc m_X8_word) 9 = .ok (.ireturn, 1) := eg_X8_word_0.2.2.2.2.2.1
theorem d_X8_word_10 : zD m_X8_word 10 (.aload_n 0) 1 11 := ⟨eg_X8_word_0.2.2.2.2.2.2.1, rfl⟩
theorem d_X8_word_11 : zD m_X8_word 11 (.getfield 99) 3 14 := ⟨eg_X8_word_0.2.2.2.2.2.2.2, rfl⟩
theorem d_X8_word_14 : zD m_X8_word 14 (.bipush 12) 2 16 := ⟨eg_X8_word_8.1, rfl⟩
theorem d_X8_word_16 : zDj m_X8_word 16 (.if_icmp .ne) 19 22 := ⟨6, eg_X8_word_8.2.1, rfl, by decide⟩
theorem d_X8_word_19 : zD m_X8_word 19 (.bipush (-3)) 2 21 := ⟨eg_X8_word_8.2.2.1, rfl⟩
theorem d_X8_word_21 : decode (zcc m_X8_word) 21 = .ok (.ireturn, 1) := eg_X8_word_8.2.2.2.1
theorem d_X8_word_22 : zD m_X8_word 22 (.aload_n 0) 1 23 := ⟨eg_X8_word_8.2.2.2.2.1, rfl⟩
theorem d_X8_word_23 : zD m_X8_word 23 (.getfield 30) 3 26 := ⟨eg_X8_word_8.2.2.2.2.2.1, rfl⟩
theorem d_X8_word_26 : zD m_X8_word 26 (.aload_n 0) 1 27 := ⟨eg_X8_word_8.2.2.2.2.2.2.1, rfl⟩
theorem d_X8_word_27 : zD m_X8_word 27 (.getfield 99) 3 30 := ⟨eg_X8_word_8.2.2.2.2.2.2.2, rfl⟩
theorem d_X8_word_30 : zD m_X8_word 30 (.iload_n 1) 1 31 := ⟨eg_X8_word_16.1, rfl⟩
theorem d_X8_word_31 : zD m_X8_word 31 (.iastore) 1 32 := ⟨eg_X8_word_16.2.1, rfl⟩
theorem d_X8_word_32 : zD m_X8_word 32 (.aload_n 0) 1 33 := ⟨eg_X8_word_16.2.2.1, rfl⟩
theorem d_X8_word_33 : zD m_X8_word 33 (.dup) 1 34 := ⟨eg_X8_word_16.2.2.2.1, rfl⟩
theorem d_X8_word_34 : zD m_X8_word 34 (.getfield 99) 3 37 := ⟨eg_X8_word_16.2.2.2.2.1, rfl⟩
theorem d_X8_word_37 : zD m_X8_word 37 (.iconst 1) 1 38 := ⟨eg_X8_word_16.2.2.2.2.2.1, rfl⟩
theorem d_X8_word_38 : zD m_X8_word 38 (.iadd) 1 39 := ⟨eg_X8_word_16.2.2.2.2.2.2.1, rfl⟩
theorem d_X8_word_39 : zD m_X8_word 39 (.putfield 99) 3 42 := ⟨eg_X8_word_16.2.2.2.2.2.2.2, rfl⟩
theorem d_X8_word_42 : zD m_X8_word 42 (.aload_n 0) 1 43 := ⟨eg_X8_word_24.1, rfl⟩
theorem d_X8_word_43 : zD m_X8_word 43 (.getfield 99) 3 46 := ⟨eg_X8_word_24.2.1, rfl⟩
theorem d_X8_word_46 : decode (zcc m_X8_word) 46 = .ok (.ireturn, 1) := eg_X8_word_24.2.2
set_option maxRecDepth 20000 in
theorem eg_X8_still_0 : decode (zcc m_X8_still) 0 = .ok (.aload_n 0, 1) ∧ decode (zcc m_X8_still) 1 = .ok (.getfield 99, 3) ∧ decode (zcc m_X8_still) 4 = .ok (.istore_n 1, 1) ∧ decode (zcc m_X8_still) 5 = .ok (.aload_n 0, 1) ∧ decode (zcc m_X8_still) 6 = .ok (.iconst 0, 1) ∧ decode (zcc m_X8_still) 7 = .ok (.putfield 99, 3) ∧ decode (zcc m_X8_still) 10 = .ok (.iload_n 1, 1) ∧ decode (zcc m_X8_still) 11 = .ok (.ireturn, 1) := by decide +kernel
theorem d_X8_still_0 : zD m_X8_still 0 (.aload_n 0) 1 1 := ⟨eg_X8_still_0.1, rfl⟩
theorem d_X8_still_1 : zD m_X8_still 1 (.getfield 99) 3 4 := ⟨eg_X8_still_0.2.1, rfl⟩
theorem d_X8_still_4 : zD m_X8_still 4 (.istore_n 1) 1 5 := ⟨eg_X8_still_0.2.2.1, rfl⟩
theorem d_X8_still_5 : zD m_X8_still 5 (.aload_n 0) 1 6 := ⟨eg_X8_still_0.2.2.2.1, rfl⟩
theorem d_X8_still_6 : zD m_X8_still 6 (.iconst 0) 1 7 := ⟨eg_X8_still_0.2.2.2.2.1, rfl⟩
theorem d_X8_still_7 : zD m_X8_still 7 (.putfield 99) 3 10 := ⟨eg_X8_still_0.2.2.2.2.2.1, rfl⟩
theorem d_X8_still_10 : zD m_X8_still 10 (.iload_n 1) 1 11 := ⟨eg_X8_still_0.2.2.2.2.2.2.1, rfl⟩
theorem d_X8_still_11 : decode (zcc m_X8_still) 11 = .ok (.ireturn, 1) := eg_X8_still_0.2.2.2.2.2.2.2
set_option maxRecDepth 20000 in
theorem eg_X8_words_0 : decode (zcc m_X8_words) 0 = .ok (.iload_n 1, 1) ∧ decode (zcc m_X8_words) 1 = .ok (.i2l, 1) ∧ decode (zcc m_X8_words) 2 = .ok (.lconst 0, 1) ∧ decode (zcc m_X8_words) 3 = .ok (.aload_n 0, 1) ∧ decode (zcc m_X8_words) 4 = .ok (.getfield 99, 3) ∧ decode (zcc m_X8_words) 7 = .ok (.iconst 1, 1) ∧ decode (zcc m_X8_words) 8 = .ok (.isub, 1) ∧ decode (zcc m_X8_words) 9 = .ok (.i2l, 1) := by decide +kernel
set_option maxRecDepth 20000 in
theorem eg_X8_words_8 : decode (zcc m_X8_words) 10 = .ok (.invokestatic 92, 3) ∧ decode (zcc m_X8_words) 13 = .ok (.ifCond .eq (12), 3) ∧ decode (zcc m_X8_words) 16 = .ok (.aload_n 0, 1) ∧ decode (zcc m_X8_words) 17 = .ok (.getfield 30, 3) ∧ decode (zcc m_X8_words) 20 = .ok (.iload_n 1, 1) ∧ decode (zcc m_X8_words) 21 = .ok (.iaload, 1) ∧ decode (zcc m_X8_words) 22 = .ok (.goto (4), 3) ∧ decode (zcc m_X8_words) 25 = .ok (.iconst (-1), 1) := by decide +kernel
set_option maxRecDepth 20000 in
theorem eg_X8_words_16 : decode (zcc m_X8_words) 26 = .ok (.ireturn, 1) := by decide +kernel
theorem d_X8_words_0 : zD m_X8_words 0 (.iload_n 1) 1 1 := ⟨eg_X8_words_0.1, rfl⟩
theorem d_X8_words_1 : zD m_X8_words 1 (.i2l) 1 2 := ⟨eg_X8_words_0.2.1, rfl⟩
theorem d_X8_words_2 : zD m_X8_words 2 (.lconst 0) 1 3 := ⟨eg_X8_words_0.2.2.1, rfl⟩
theorem d_X8_words_3 : zD m_X8_words 3 (.aload_n 0) 1 4 := ⟨eg_X8_words_0.2.2.2.1, rfl⟩
theorem d_X8_words_4 : zD m_X8_words 4 (.getfield 99) 3 7 := ⟨eg_X8_words_0.2.2.2.2.1, rfl⟩
theorem d_X8_words_7 : zD m_X8_words 7 (.iconst 1) 1 8 := ⟨eg_X8_words_0.2.2.2.2.2.1, rfl⟩
theorem d_X8_words_8 : zD m_X8_words 8 (.isub) 1 9 := ⟨eg_X8_words_0.2.2.2.2.2.2.1, rfl⟩
theorem d_X8_words_9 : zD m_X8_words 9 (.i2l) 1 10 := ⟨eg_X8_words_0.2.2.2.2.2.2.2, rfl⟩
theorem d_X8_words_10 : zD m_X8_words 10 (.invokestatic 92) 3 13 := ⟨eg_X8_words_8.1, rfl⟩
theorem d_X8_words_13 : zDj m_X8_words 13 (.ifCond .eq) 16 25 := ⟨12, eg_X8_words_8.2.1, rfl, by decide⟩
theorem d_X8_words_16 : zD m_X8_words 16 (.aload_n 0) 1 17 := ⟨eg_X8_words_8.2.2.1, rfl⟩
theorem d_X8_words_17 : zD m_X8_words 17 (.getfield 30) 3 20 := ⟨eg_X8_words_8.2.2.2.1, rfl⟩
theorem d_X8_words_20 : zD m_X8_words 20 (.iload_n 1) 1 21 := ⟨eg_X8_words_8.2.2.2.2.1, rfl⟩
theorem d_X8_words_21 : zD m_X8_words 21 (.iaload) 1 22 := ⟨eg_X8_words_8.2.2.2.2.2.1, rfl⟩
theorem d_X8_words_22 : zDj m_X8_words 22 (.goto) 25 26 := ⟨4, eg_X8_words_8.2.2.2.2.2.2.1, rfl, by decide⟩
theorem d_X8_words_25 : zD m_X8_words 25 (.iconst (-1)) 1 26 := ⟨eg_X8_words_8.2.2.2.2.2.2.2, rfl⟩
theorem d_X8_words_26 : decode (zcc m_X8_words) 26 = .ok (.ireturn, 1) := eg_X8_words_16
set_option maxRecDepth 20000 in
theorem eg_X8_firstBegin_0 : decode (zcc m_X8_firstBegin) 0 = .ok (.iconst 0, 1) ∧ decode (zcc m_X8_firstBegin) 1 = .ok (.istore_n 2, 1) ∧ decode (zcc m_X8_firstBegin) 2 = .ok (.aload_n 0, 1) ∧ decode (zcc m_X8_firstBegin) 3 = .ok (.iload_n 1, 1) ∧ decode (zcc m_X8_firstBegin) 4 = .ok (.iload_n 2, 1) ∧ decode (zcc m_X8_firstBegin) 5 = .ok (.invokevirtual 270, 3) ∧ decode (zcc m_X8_firstBegin) 8 = .ok (.ifCond .eq (14), 3) ∧ decode (zcc m_X8_firstBegin) 11 = .ok (.aload_n 0, 1) := by decide +kernel
set_option maxRecDepth 20000 in
theorem eg_X8_firstBegin_8 : decode (zcc m_X8_firstBegin) 12 = .ok (.iload_n 1, 1) ∧ decode (zcc m_X8_firstBegin) 13 = .ok (.iload_n 2, 1) ∧ decode (zcc m_X8_firstBegin) 14 = .ok (.iconst 1, 1) ∧ decode (zcc m_X8_firstBegin) 15 = .ok (.isub, 1) ∧ decode (zcc m_X8_firstBegin) 16 = .ok (.invokevirtual 270, 3) ∧ decode (zcc m_X8_firstBegin) 19 = .ok (.ifCond .eq (9), 3) ∧ decode (zcc m_X8_firstBegin) 22 = .ok (.iinc 2 1, 3) ∧ decode (zcc m_X8_firstBegin) 25 = .ok (.goto (-23), 3) := by decide +kernel
set_option maxRecDepth 20000 in
theorem eg_X8_firstBegin_16 : decode (zcc m_X8_firstBegin) 28 = .ok (.iload_n 2, 1) ∧ decode (zcc m_X8_firstBegin) 29 = .ok (.ireturn, 1) := by decide +kernel
theorem d_X8_firstBegin_0 : zD m_X8_firstBegin 0 (.iconst 0) 1 1 := ⟨eg_X8_firstBegin_0.1, rfl⟩
theorem d_X8_firstBegin_1 : zD m_X8_firstBegin 1 (.istore_n 2) 1 2 := ⟨eg_X8_firstBegin_0.2.1, rfl⟩
theorem d_X8_firstBegin_2 : zD m_X8_firstBegin 2 (.aload_n 0) 1 3 := ⟨eg_X8_firstBegin_0.2.2.1, rfl⟩
theorem d_X8_firstBegin_3 : zD m_X8_firstBegin 3 (.iload_n 1) 1 4 := ⟨eg_X8_firstBegin_0.2.2.2.1, rfl⟩
theorem d_X8_firstBegin_4 : zD m_X8_firstBegin 4 (.iload_n 2) 1 5 := ⟨eg_X8_firstBegin_0.2.2.2.2.1, rfl⟩
theorem d_X8_firstBegin_5 : zD m_X8_firstBegin 5 (.invokevirtual 270) 3 8 := ⟨eg_X8_firstBegin_0.2.2.2.2.2.1, rfl⟩
theorem d_X8_firstBegin_8 : zDj m_X8_firstBegin 8 (.ifCond .eq) 11 22 := ⟨14, eg_X8_firstBegin_0.2.2.2.2.2.2.1, rfl, by decide⟩
theorem d_X8_firstBegin_11 : zD m_X8_firstBegin 11 (.aload_n 0) 1 12 := ⟨eg_X8_firstBegin_0.2.2.2.2.2.2.2, rfl⟩
theorem d_X8_firstBegin_12 : zD m_X8_firstBegin 12 (.iload_n 1) 1 13 := ⟨eg_X8_firstBegin_8.1, rfl⟩
theorem d_X8_firstBegin_13 : zD m_X8_firstBegin 13 (.iload_n 2) 1 14 := ⟨eg_X8_firstBegin_8.2.1, rfl⟩
theorem d_X8_firstBegin_14 : zD m_X8_firstBegin 14 (.iconst 1) 1 15 := ⟨eg_X8_firstBegin_8.2.2.1, rfl⟩
theorem d_X8_firstBegin_15 : zD m_X8_firstBegin 15 (.isub) 1 16 := ⟨eg_X8_firstBegin_8.2.2.2.1, rfl⟩
theorem d_X8_firstBegin_16 : zD m_X8_firstBegin 16 (.invokevirtual 270) 3 19 := ⟨eg_X8_firstBegin_8.2.2.2.2.1, rfl⟩
theorem d_X8_firstBegin_19 : zDj m_X8_firstBegin 19 (.ifCond .eq) 22 28 := ⟨9, eg_X8_firstBegin_8.2.2.2.2.2.1, rfl, by decide⟩
theorem d_X8_firstBegin_22 : zD m_X8_firstBegin 22 (.iinc 2 1) 3 25 := ⟨eg_X8_firstBegin_8.2.2.2.2.2.2.1, rfl⟩
theorem d_X8_firstBegin_25 : zDj m_X8_firstBegin 25 (.goto) 28 2 := ⟨-23, eg_X8_firstBegin_8.2.2.2.2.2.2.2, rfl, by decide⟩
theorem d_X8_firstBegin_28 : zD m_X8_firstBegin 28 (.iload_n 2) 1 29 := ⟨eg_X8_firstBegin_16.1, rfl⟩
theorem d_X8_firstBegin_29 : decode (zcc m_X8_firstBegin) 29 = .ok (.ireturn, 1) := eg_X8_firstBegin_16.2
set_option maxRecDepth 20000 in
theorem eg_X8_wells_0 : decode (zcc m_X8_wells) 0 = .ok (.aload_n 0, 1) ∧ decode (zcc m_X8_wells) 1 = .ok (.getfield 21, 3) ∧ decode (zcc m_X8_wells) 4 = .ok (.bipush 6, 2) ∧ decode (zcc m_X8_wells) 6 = .ok (.iaload, 1) ∧ decode (zcc m_X8_wells) 7 = .ok (.istore_n 2, 1) ∧ decode (zcc m_X8_wells) 8 = .ok (.iload_n 1, 1) ∧ decode (zcc m_X8_wells) 9 = .ok (.ifCond .lt (9), 3) ∧ decode (zcc m_X8_wells) 12 = .ok (.iload_n 1, 1) := by decide +kernel
set_option maxRecDepth 20000 in
theorem eg_X8_wells_8 : decode (zcc m_X8_wells) 13 = .ok (.iload_n 2, 1) ∧ decode (zcc m_X8_wells) 14 = .ok (.idiv, 1) ∧ decode (zcc m_X8_wells) 15 = .ok (.goto (11), 3) ∧ decode (zcc m_X8_wells) 18 = .ok (.iload_n 2, 1) ∧ decode (zcc m_X8_wells) 19 = .ok (.iconst 1, 1) ∧ decode (zcc m_X8_wells) 20 = .ok (.isub, 1) ∧ decode (zcc m_X8_wells) 21 = .ok (.iload_n 1, 1) ∧ decode (zcc m_X8_wells) 22 = .ok (.isub, 1) := by decide +kernel
set_option maxRecDepth 20000 in
theorem eg_X8_wells_16 : decode (zcc m_X8_wells) 23 = .ok (.iload_n 2, 1) ∧ decode (zcc m_X8_wells) 24 = .ok (.idiv, 1) ∧ decode (zcc m_X8_wells) 25 = .ok (.ineg, 1) ∧ decode (zcc m_X8_wells) 26 = .ok (.ireturn, 1) := by decide +kernel
theorem d_X8_wells_0 : zD m_X8_wells 0 (.aload_n 0) 1 1 := ⟨eg_X8_wells_0.1, rfl⟩
theorem d_X8_wells_1 : zD m_X8_wells 1 (.getfield 21) 3 4 := ⟨eg_X8_wells_0.2.1, rfl⟩
theorem d_X8_wells_4 : zD m_X8_wells 4 (.bipush 6) 2 6 := ⟨eg_X8_wells_0.2.2.1, rfl⟩
theorem d_X8_wells_6 : zD m_X8_wells 6 (.iaload) 1 7 := ⟨eg_X8_wells_0.2.2.2.1, rfl⟩
theorem d_X8_wells_7 : zD m_X8_wells 7 (.istore_n 2) 1 8 := ⟨eg_X8_wells_0.2.2.2.2.1, rfl⟩
theorem d_X8_wells_8 : zD m_X8_wells 8 (.iload_n 1) 1 9 := ⟨eg_X8_wells_0.2.2.2.2.2.1, rfl⟩
theorem d_X8_wells_9 : zDj m_X8_wells 9 (.ifCond .lt) 12 18 := ⟨9, eg_X8_wells_0.2.2.2.2.2.2.1, rfl, by decide⟩
theorem d_X8_wells_12 : zD m_X8_wells 12 (.iload_n 1) 1 13 := ⟨eg_X8_wells_0.2.2.2.2.2.2.2, rfl⟩
theorem d_X8_wells_13 : zD m_X8_wells 13 (.iload_n 2) 1 14 := ⟨eg_X8_wells_8.1, rfl⟩
theorem d_X8_wells_14 : zD m_X8_wells 14 (.idiv) 1 15 := ⟨eg_X8_wells_8.2.1, rfl⟩
theorem d_X8_wells_15 : zDj m_X8_wells 15 (.goto) 18 26 := ⟨11, eg_X8_wells_8.2.2.1, rfl, by decide⟩
theorem d_X8_wells_18 : zD m_X8_wells 18 (.iload_n 2) 1 19 := ⟨eg_X8_wells_8.2.2.2.1, rfl⟩
theorem d_X8_wells_19 : zD m_X8_wells 19 (.iconst 1) 1 20 := ⟨eg_X8_wells_8.2.2.2.2.1, rfl⟩
theorem d_X8_wells_20 : zD m_X8_wells 20 (.isub) 1 21 := ⟨eg_X8_wells_8.2.2.2.2.2.1, rfl⟩
theorem d_X8_wells_21 : zD m_X8_wells 21 (.iload_n 1) 1 22 := ⟨eg_X8_wells_8.2.2.2.2.2.2.1, rfl⟩
theorem d_X8_wells_22 : zD m_X8_wells 22 (.isub) 1 23 := ⟨eg_X8_wells_8.2.2.2.2.2.2.2, rfl⟩
theorem d_X8_wells_23 : zD m_X8_wells 23 (.iload_n 2) 1 24 := ⟨eg_X8_wells_16.1, rfl⟩
theorem d_X8_wells_24 : zD m_X8_wells 24 (.idiv) 1 25 := ⟨eg_X8_wells_16.2.1, rfl⟩
theorem d_X8_wells_25 : zD m_X8_wells 25 (.ineg) 1 26 := ⟨eg_X8_wells_16.2.2.1, rfl⟩
theorem d_X8_wells_26 : decode (zcc m_X8_wells) 26 = .ok (.ireturn, 1) := eg_X8_wells_16.2.2.2
set_option maxRecDepth 20000 in
theorem eg_X8_clock_0 : decode (zcc m_X8_clock) 0 = .ok (.iload_n 1, 1) ∧ decode (zcc m_X8_clock) 1 = .ok (.i2l, 1) ∧ decode (zcc m_X8_clock) 2 = .ok (.lconst 0, 1) ∧ decode (zcc m_X8_clock) 3 = .ok (.ldc2_w 288, 3) ∧ decode (zcc m_X8_clock) 6 = .ok (.invokestatic 92, 3) ∧ decode (zcc m_X8_clock) 9 = .ok (.ifCond .ne (5), 3) ∧ decode (zcc m_X8_clock) 12 = .ok (.iconst (-1), 1) ∧ decode (zcc m_X8_clock) 13 = .ok (.ireturn, 1) := by decide +kernel
set_option maxRecDepth 20000 in
theorem eg_X8_clock_8 : decode (zcc m_X8_clock) 14 = .ok (.aload_n 0, 1) ∧ decode (zcc m_X8_clock) 15 = .ok (.getfield 99, 3) ∧ decode (zcc m_X8_clock) 18 = .ok (.ifCond .eq (16), 3) ∧ decode (zcc m_X8_clock) 21 = .ok (.aload_n 0, 1) ∧ decode (zcc m_X8_clock) 22 = .ok (.aload_n 0, 1) ∧ decode (zcc m_X8_clock) 23 = .ok (.getfield 30, 3) ∧ decode (zcc m_X8_clock) 26 = .ok (.iconst 0, 1) ∧ decode (zcc m_X8_clock) 27 = .ok (.iaload, 1) := by decide +kernel
set_option maxRecDepth 20000 in
theorem eg_X8_clock_16 : decode (zcc m_X8_clock) 28 = .ok (.invokevirtual 290, 3) ∧ decode (zcc m_X8_clock) 31 = .ok (.ifCond .ne (6), 3) ∧ decode (zcc m_X8_clock) 34 = .ok (.bipush (-2), 2) ∧ decode (zcc m_X8_clock) 36 = .ok (.ireturn, 1) ∧ decode (zcc m_X8_clock) 37 = .ok (.aload_n 0, 1) ∧ decode (zcc m_X8_clock) 38 = .ok (.aload_n 0, 1) ∧ decode (zcc m_X8_clock) 39 = .ok (.getfield 30, 3) ∧ decode (zcc m_X8_clock) 42 = .ok (.iconst 0, 1) := by decide +kernel
set_option maxRecDepth 20000 in
theorem eg_X8_clock_24 : decode (zcc m_X8_clock) 43 = .ok (.iaload, 1) ∧ decode (zcc m_X8_clock) 44 = .ok (.invokevirtual 293, 3) ∧ decode (zcc m_X8_clock) 47 = .ok (.istore_n 2, 1) ∧ decode (zcc m_X8_clock) 48 = .ok (.iload_n 2, 1) ∧ decode (zcc m_X8_clock) 49 = .ok (.istore_n 3, 1) ∧ decode (zcc m_X8_clock) 50 = .ok (.iconst 1, 1) ∧ decode (zcc m_X8_clock) 51 = .ok (.istore 4, 2) ∧ decode (zcc m_X8_clock) 53 = .ok (.iload 4, 2) := by decide +kernel
set_option maxRecDepth 20000 in
theorem eg_X8_clock_32 : decode (zcc m_X8_clock) 55 = .ok (.aload_n 0, 1) ∧ decode (zcc m_X8_clock) 56 = .ok (.getfield 99, 3) ∧ decode (zcc m_X8_clock) 59 = .ok (.if_icmp .gt (87), 3) ∧ decode (zcc m_X8_clock) 62 = .ok (.aload_n 0, 1) ∧ decode (zcc m_X8_clock) 63 = .ok (.getfield 30, 3) ∧ decode (zcc m_X8_clock) 66 = .ok (.iload 4, 2) ∧ decode (zcc m_X8_clock) 68 = .ok (.iconst 1, 1) ∧ decode (zcc m_X8_clock) 69 = .ok (.isub, 1) := by decide +kernel
set_option maxRecDepth 20000 in
theorem eg_X8_clock_40 : decode (zcc m_X8_clock) 70 = .ok (.iaload, 1) ∧ decode (zcc m_X8_clock) 71 = .ok (.istore 5, 2) ∧ decode (zcc m_X8_clock) 73 = .ok (.aload_n 0, 1) ∧ decode (zcc m_X8_clock) 74 = .ok (.getfield 30, 3) ∧ decode (zcc m_X8_clock) 77 = .ok (.iload 4, 2) ∧ decode (zcc m_X8_clock) 79 = .ok (.aload_n 0, 1) ∧ decode (zcc m_X8_clock) 80 = .ok (.getfield 99, 3) ∧ decode (zcc m_X8_clock) 83 = .ok (.irem, 1) := by decide +kernel
set_option maxRecDepth 20000 in
theorem eg_X8_clock_48 : decode (zcc m_X8_clock) 84 = .ok (.iaload, 1) ∧ decode (zcc m_X8_clock) 85 = .ok (.istore 6, 2) ∧ decode (zcc m_X8_clock) 87 = .ok (.aload_n 0, 1) ∧ decode (zcc m_X8_clock) 88 = .ok (.iload 5, 2) ∧ decode (zcc m_X8_clock) 90 = .ok (.iload_n 3, 1) ∧ decode (zcc m_X8_clock) 91 = .ok (.iload 6, 2) ∧ decode (zcc m_X8_clock) 93 = .ok (.invokevirtual 296, 3) ∧ decode (zcc m_X8_clock) 96 = .ok (.istore 7, 2) := by decide +kernel
set_option maxRecDepth 20000 in
theorem eg_X8_clock_56 : decode (zcc m_X8_clock) 98 = .ok (.iload 7, 2) ∧ decode (zcc m_X8_clock) 100 = .ok (.ifCond .le (30), 3) ∧ decode (zcc m_X8_clock) 103 = .ok (.iload_n 1, 1) ∧ decode (zcc m_X8_clock) 104 = .ok (.ifCond .ne (13), 3) ∧ decode (zcc m_X8_clock) 107 = .ok (.iload 4, 2) ∧ decode (zcc m_X8_clock) 109 = .ok (.aload_n 0, 1) ∧ decode (zcc m_X8_clock) 110 = .ok (.getfield 99, 3) ∧ decode (zcc m_X8_clock) 113 = .ok (.irem, 1) := by decide +kernel
set_option maxRecDepth 20000 in
theorem eg_X8_clock_64 : decode (zcc m_X8_clock) 114 = .ok (.goto (15), 3) ∧ decode (zcc m_X8_clock) 117 = .ok (.iload_n 1, 1) ∧ decode (zcc m_X8_clock) 118 = .ok (.iconst 1, 1) ∧ decode (zcc m_X8_clock) 119 = .ok (.if_icmp .ne (8), 3) ∧ decode (zcc m_X8_clock) 122 = .ok (.iload 7, 2) ∧ decode (zcc m_X8_clock) 124 = .ok (.goto (5), 3) ∧ decode (zcc m_X8_clock) 127 = .ok (.bipush (-4), 2) ∧ decode (zcc m_X8_clock) 129 = .ok (.ireturn, 1) := by decide +kernel
set_option maxRecDepth 20000 in
theorem eg_X8_clock_72 : decode (zcc m_X8_clock) 130 = .ok (.aload_n 0, 1) ∧ decode (zcc m_X8_clock) 131 = .ok (.iload 5, 2) ∧ decode (zcc m_X8_clock) 133 = .ok (.iload_n 3, 1) ∧ decode (zcc m_X8_clock) 134 = .ok (.iload 6, 2) ∧ decode (zcc m_X8_clock) 136 = .ok (.invokevirtual 299, 3) ∧ decode (zcc m_X8_clock) 139 = .ok (.istore_n 3, 1) ∧ decode (zcc m_X8_clock) 140 = .ok (.iinc 4 1, 3) ∧ decode (zcc m_X8_clock) 143 = .ok (.goto (-90), 3) := by decide +kernel
set_option maxRecDepth 20000 in
theorem eg_X8_clock_80 : decode (zcc m_X8_clock) 146 = .ok (.iload_n 1, 1) ∧ decode (zcc m_X8_clock) 147 = .ok (.ifCond .ne (8), 3) ∧ decode (zcc m_X8_clock) 150 = .ok (.bipush (-4), 2) ∧ decode (zcc m_X8_clock) 152 = .ok (.goto (22), 3) ∧ decode (zcc m_X8_clock) 155 = .ok (.iload_n 1, 1) ∧ decode (zcc m_X8_clock) 156 = .ok (.iconst 1, 1) ∧ decode (zcc m_X8_clock) 157 = .ok (.if_icmp .ne (7), 3) ∧ decode (zcc m_X8_clock) 160 = .ok (.iconst 0, 1) := by decide +kernel
set_option maxRecDepth 20000 in
theorem eg_X8_clock_88 : decode (zcc m_X8_clock) 161 = .ok (.goto (13), 3) ∧ decode (zcc m_X8_clock) 164 = .ok (.bipush 100, 2) ∧ decode (zcc m_X8_clock) 166 = .ok (.aload_n 0, 1) ∧ decode (zcc m_X8_clock) 167 = .ok (.iload_n 3, 1) ∧ decode (zcc m_X8_clock) 168 = .ok (.iload_n 2, 1) ∧ decode (zcc m_X8_clock) 169 = .ok (.isub, 1) ∧ decode (zcc m_X8_clock) 170 = .ok (.invokevirtual 302, 3) ∧ decode (zcc m_X8_clock) 173 = .ok (.iadd, 1) := by decide +kernel
set_option maxRecDepth 20000 in
theorem eg_X8_clock_96 : decode (zcc m_X8_clock) 174 = .ok (.ireturn, 1) := by decide +kernel
theorem d_X8_clock_0 : zD m_X8_clock 0 (.iload_n 1) 1 1 := ⟨eg_X8_clock_0.1, rfl⟩
theorem d_X8_clock_1 : zD m_X8_clock 1 (.i2l) 1 2 := ⟨eg_X8_clock_0.2.1, rfl⟩
theorem d_X8_clock_2 : zD m_X8_clock 2 (.lconst 0) 1 3 := ⟨eg_X8_clock_0.2.2.1, rfl⟩
theorem d_X8_clock_3 : zD m_X8_clock 3 (.ldc2_w 288) 3 6 := ⟨eg_X8_clock_0.2.2.2.1, rfl⟩
theorem d_X8_clock_6 : zD m_X8_clock 6 (.invokestatic 92) 3 9 := ⟨eg_X8_clock_0.2.2.2.2.1, rfl⟩
theorem d_X8_clock_9 : zDj m_X8_clock 9 (.ifCond .ne) 12 14 := ⟨5, eg_X8_clock_0.2.2.2.2.2.1, rfl, by decide⟩
theorem d_X8_clock_12 : zD m_X8_clock 12 (.iconst (-1)) 1 13 := ⟨eg_X8_clock_0.2.2.2.2.2.2.1, rfl⟩
theorem d_X8_clock_13 : decode (zcc m_X8_clock) 13 = .ok (.ireturn, 1) := eg_X8_clock_0.2.2.2.2.2.2.2
theorem d_X8_clock_14 : zD m_X8_clock 14 (.aload_n 0) 1 15 := ⟨eg_X8_clock_8.1, rfl⟩
theorem d_X8_clock_15 : zD m_X8_clock 15 (.getfield 99) 3 18 := ⟨eg_X8_clock_8.2.1, rfl⟩
theorem d_X8_clock_18 : zDj m_X8_clock 18 (.ifCond .eq) 21 34 := ⟨16, eg_X8_clock_8.2.2.1, rfl, by decide⟩
theorem d_X8_clock_21 : zD m_X8_clock 21 (.aload_n 0) 1 22 := ⟨eg_X8_clock_8.2.2.2.1, rfl⟩
theorem d_X8_clock_22 : zD m_X8_clock 22 (.aload_n 0) 1 23 := ⟨eg_X8_clock_8.2.2.2.2.1, rfl⟩
theorem d_X8_clock_23 : zD m_X8_clock 23 (.getfield 30) 3 26 := ⟨eg_X8_clock_8.2.2.2.2.2.1, rfl⟩
theorem d_X8_clock_26 : zD m_X8_clock 26 (.iconst 0) 1 27 := ⟨eg_X8_clock_8.2.2.2.2.2.2.1, rfl⟩
theorem d_X8_clock_27 : zD m_X8_clock 27 (.iaload) 1 28 := ⟨eg_X8_clock_8.2.2.2.2.2.2.2, rfl⟩
theorem d_X8_clock_28 : zD m_X8_clock 28 (.invokevirtual 290) 3 31 := ⟨eg_X8_clock_16.1, rfl⟩
theorem d_X8_clock_31 : zDj m_X8_clock 31 (.ifCond .ne) 34 37 := ⟨6, eg_X8_clock_16.2.1, rfl, by decide⟩
theorem d_X8_clock_34 : zD m_X8_clock 34 (.bipush (-2)) 2 36 := ⟨eg_X8_clock_16.2.2.1, rfl⟩
theorem d_X8_clock_36 : decode (zcc m_X8_clock) 36 = .ok (.ireturn, 1) := eg_X8_clock_16.2.2.2.1
theorem d_X8_clock_37 : zD m_X8_clock 37 (.aload_n 0) 1 38 := ⟨eg_X8_clock_16.2.2.2.2.1, rfl⟩
theorem d_X8_clock_38 : zD m_X8_clock 38 (.aload_n 0) 1 39 := ⟨eg_X8_clock_16.2.2.2.2.2.1, rfl⟩
theorem d_X8_clock_39 : zD m_X8_clock 39 (.getfield 30) 3 42 := ⟨eg_X8_clock_16.2.2.2.2.2.2.1, rfl⟩
theorem d_X8_clock_42 : zD m_X8_clock 42 (.iconst 0) 1 43 := ⟨eg_X8_clock_16.2.2.2.2.2.2.2, rfl⟩
theorem d_X8_clock_43 : zD m_X8_clock 43 (.iaload) 1 44 := ⟨eg_X8_clock_24.1, rfl⟩
theorem d_X8_clock_44 : zD m_X8_clock 44 (.invokevirtual 293) 3 47 := ⟨eg_X8_clock_24.2.1, rfl⟩
theorem d_X8_clock_47 : zD m_X8_clock 47 (.istore_n 2) 1 48 := ⟨eg_X8_clock_24.2.2.1, rfl⟩
theorem d_X8_clock_48 : zD m_X8_clock 48 (.iload_n 2) 1 49 := ⟨eg_X8_clock_24.2.2.2.1, rfl⟩
theorem d_X8_clock_49 : zD m_X8_clock 49 (.istore_n 3) 1 50 := ⟨eg_X8_clock_24.2.2.2.2.1, rfl⟩
theorem d_X8_clock_50 : zD m_X8_clock 50 (.iconst 1) 1 51 := ⟨eg_X8_clock_24.2.2.2.2.2.1, rfl⟩
theorem d_X8_clock_51 : zD m_X8_clock 51 (.istore 4) 2 53 := ⟨eg_X8_clock_24.2.2.2.2.2.2.1, rfl⟩
theorem d_X8_clock_53 : zD m_X8_clock 53 (.iload 4) 2 55 := ⟨eg_X8_clock_24.2.2.2.2.2.2.2, rfl⟩
theorem d_X8_clock_55 : zD m_X8_clock 55 (.aload_n 0) 1 56 := ⟨eg_X8_clock_32.1, rfl⟩
theorem d_X8_clock_56 : zD m_X8_clock 56 (.getfield 99) 3 59 := ⟨eg_X8_clock_32.2.1, rfl⟩
theorem d_X8_clock_59 : zDj m_X8_clock 59 (.if_icmp .gt) 62 146 := ⟨87, eg_X8_clock_32.2.2.1, rfl, by decide⟩
theorem d_X8_clock_62 : zD m_X8_clock 62 (.aload_n 0) 1 63 := ⟨eg_X8_clock_32.2.2.2.1, rfl⟩
theorem d_X8_clock_63 : zD m_X8_clock 63 (.getfield 30) 3 66 := ⟨eg_X8_clock_32.2.2.2.2.1, rfl⟩
theorem d_X8_clock_66 : zD m_X8_clock 66 (.iload 4) 2 68 := ⟨eg_X8_clock_32.2.2.2.2.2.1, rfl⟩
theorem d_X8_clock_68 : zD m_X8_clock 68 (.iconst 1) 1 69 := ⟨eg_X8_clock_32.2.2.2.2.2.2.1, rfl⟩
theorem d_X8_clock_69 : zD m_X8_clock 69 (.isub) 1 70 := ⟨eg_X8_clock_32.2.2.2.2.2.2.2, rfl⟩
theorem d_X8_clock_70 : zD m_X8_clock 70 (.iaload) 1 71 := ⟨eg_X8_clock_40.1, rfl⟩
theorem d_X8_clock_71 : zD m_X8_clock 71 (.istore 5) 2 73 := ⟨eg_X8_clock_40.2.1, rfl⟩
theorem d_X8_clock_73 : zD m_X8_clock 73 (.aload_n 0) 1 74 := ⟨eg_X8_clock_40.2.2.1, rfl⟩
theorem d_X8_clock_74 : zD m_X8_clock 74 (.getfield 30) 3 77 := ⟨eg_X8_clock_40.2.2.2.1, rfl⟩
theorem d_X8_clock_77 : zD m_X8_clock 77 (.iload 4) 2 79 := ⟨eg_X8_clock_40.2.2.2.2.1, rfl⟩
theorem d_X8_clock_79 : zD m_X8_clock 79 (.aload_n 0) 1 80 := ⟨eg_X8_clock_40.2.2.2.2.2.1, rfl⟩
theorem d_X8_clock_80 : zD m_X8_clock 80 (.getfield 99) 3 83 := ⟨eg_X8_clock_40.2.2.2.2.2.2.1, rfl⟩
theorem d_X8_clock_83 : zD m_X8_clock 83 (.irem) 1 84 := ⟨eg_X8_clock_40.2.2.2.2.2.2.2, rfl⟩
theorem d_X8_clock_84 : zD m_X8_clock 84 (.iaload) 1 85 := ⟨eg_X8_clock_48.1, rfl⟩
theorem d_X8_clock_85 : zD m_X8_clock 85 (.istore 6) 2 87 := ⟨eg_X8_clock_48.2.1, rfl⟩
theorem d_X8_clock_87 : zD m_X8_clock 87 (.aload_n 0) 1 88 := ⟨eg_X8_clock_48.2.2.1, rfl⟩
theorem d_X8_clock_88 : zD m_X8_clock 88 (.iload 5) 2 90 := ⟨eg_X8_clock_48.2.2.2.1, rfl⟩
theorem d_X8_clock_90 : zD m_X8_clock 90 (.iload_n 3) 1 91 := ⟨eg_X8_clock_48.2.2.2.2.1, rfl⟩
theorem d_X8_clock_91 : zD m_X8_clock 91 (.iload 6) 2 93 := ⟨eg_X8_clock_48.2.2.2.2.2.1, rfl⟩
theorem d_X8_clock_93 : zD m_X8_clock 93 (.invokevirtual 296) 3 96 := ⟨eg_X8_clock_48.2.2.2.2.2.2.1, rfl⟩
theorem d_X8_clock_96 : zD m_X8_clock 96 (.istore 7) 2 98 := ⟨eg_X8_clock_48.2.2.2.2.2.2.2, rfl⟩
theorem d_X8_clock_98 : zD m_X8_clock 98 (.iload 7) 2 100 := ⟨eg_X8_clock_56.1, rfl⟩
theorem d_X8_clock_100 : zDj m_X8_clock 100 (.ifCond .le) 103 130 := ⟨30, eg_X8_clock_56.2.1, rfl, by decide⟩
theorem d_X8_clock_103 : zD m_X8_clock 103 (.iload_n 1) 1 104 := ⟨eg_X8_clock_56.2.2.1, rfl⟩
theorem d_X8_clock_104 : zDj m_X8_clock 104 (.ifCond .ne) 107 117 := ⟨13, eg_X8_clock_56.2.2.2.1, rfl, by decide⟩
theorem d_X8_clock_107 : zD m_X8_clock 107 (.iload 4) 2 109 := ⟨eg_X8_clock_56.2.2.2.2.1, rfl⟩
theorem d_X8_clock_109 : zD m_X8_clock 109 (.aload_n 0) 1 110 := ⟨eg_X8_clock_56.2.2.2.2.2.1, rfl⟩
theorem d_X8_clock_110 : zD m_X8_clock 110 (.getfield 99) 3 113 := ⟨eg_X8_clock_56.2.2.2.2.2.2.1, rfl⟩
theorem d_X8_clock_113 : zD m_X8_clock 113 (.irem) 1 114 := ⟨eg_X8_clock_56.2.2.2.2.2.2.2, rfl⟩
theorem d_X8_clock_114 : zDj m_X8_clock 114 (.goto) 117 129 := ⟨15, eg_X8_clock_64.1, rfl, by decide⟩
theorem d_X8_clock_117 : zD m_X8_clock 117 (.iload_n 1) 1 118 := ⟨eg_X8_clock_64.2.1, rfl⟩
theorem d_X8_clock_118 : zD m_X8_clock 118 (.iconst 1) 1 119 := ⟨eg_X8_clock_64.2.2.1, rfl⟩
theorem d_X8_clock_119 : zDj m_X8_clock 119 (.if_icmp .ne) 122 127 := ⟨8, eg_X8_clock_64.2.2.2.1, rfl, by decide⟩
theorem d_X8_clock_122 : zD m_X8_clock 122 (.iload 7) 2 124 := ⟨eg_X8_clock_64.2.2.2.2.1, rfl⟩
theorem d_X8_clock_124 : zDj m_X8_clock 124 (.goto) 127 129 := ⟨5, eg_X8_clock_64.2.2.2.2.2.1, rfl, by decide⟩
theorem d_X8_clock_127 : zD m_X8_clock 127 (.bipush (-4)) 2 129 := ⟨eg_X8_clock_64.2.2.2.2.2.2.1, rfl⟩
theorem d_X8_clock_129 : decode (zcc m_X8_clock) 129 = .ok (.ireturn, 1) := eg_X8_clock_64.2.2.2.2.2.2.2
theorem d_X8_clock_130 : zD m_X8_clock 130 (.aload_n 0) 1 131 := ⟨eg_X8_clock_72.1, rfl⟩
theorem d_X8_clock_131 : zD m_X8_clock 131 (.iload 5) 2 133 := ⟨eg_X8_clock_72.2.1, rfl⟩
theorem d_X8_clock_133 : zD m_X8_clock 133 (.iload_n 3) 1 134 := ⟨eg_X8_clock_72.2.2.1, rfl⟩
theorem d_X8_clock_134 : zD m_X8_clock 134 (.iload 6) 2 136 := ⟨eg_X8_clock_72.2.2.2.1, rfl⟩
theorem d_X8_clock_136 : zD m_X8_clock 136 (.invokevirtual 299) 3 139 := ⟨eg_X8_clock_72.2.2.2.2.1, rfl⟩
theorem d_X8_clock_139 : zD m_X8_clock 139 (.istore_n 3) 1 140 := ⟨eg_X8_clock_72.2.2.2.2.2.1, rfl⟩
theorem d_X8_clock_140 : zD m_X8_clock 140 (.iinc 4 1) 3 143 := ⟨eg_X8_clock_72.2.2.2.2.2.2.1, rfl⟩
theorem d_X8_clock_143 : zDj m_X8_clock 143 (.goto) 146 53 := ⟨-90, eg_X8_clock_72.2.2.2.2.2.2.2, rfl, by decide⟩
theorem d_X8_clock_146 : zD m_X8_clock 146 (.iload_n 1) 1 147 := ⟨eg_X8_clock_80.1, rfl⟩
theorem d_X8_clock_147 : zDj m_X8_clock 147 (.ifCond .ne) 150 155 := ⟨8, eg_X8_clock_80.2.1, rfl, by decide⟩
theorem d_X8_clock_150 : zD m_X8_clock 150 (.bipush (-4)) 2 152 := ⟨eg_X8_clock_80.2.2.1, rfl⟩
theorem d_X8_clock_152 : zDj m_X8_clock 152 (.goto) 155 174 := ⟨22, eg_X8_clock_80.2.2.2.1, rfl, by decide⟩
theorem d_X8_clock_155 : zD m_X8_clock 155 (.iload_n 1) 1 156 := ⟨eg_X8_clock_80.2.2.2.2.1, rfl⟩
theorem d_X8_clock_156 : zD m_X8_clock 156 (.iconst 1) 1 157 := ⟨eg_X8_clock_80.2.2.2.2.2.1, rfl⟩
theorem d_X8_clock_157 : zDj m_X8_clock 157 (.if_icmp .ne) 160 164 := ⟨7, eg_X8_clock_80.2.2.2.2.2.2.1, rfl, by decide⟩
theorem d_X8_clock_160 : zD m_X8_clock 160 (.iconst 0) 1 161 := ⟨eg_X8_clock_80.2.2.2.2.2.2.2, rfl⟩
theorem d_X8_clock_161 : zDj m_X8_clock 161 (.goto) 164 174 := ⟨13, eg_X8_clock_88.1, rfl, by decide⟩
theorem d_X8_clock_164 : zD m_X8_clock 164 (.bipush 100) 2 166 := ⟨eg_X8_clock_88.2.1, rfl⟩
theorem d_X8_clock_166 : zD m_X8_clock 166 (.aload_n 0) 1 167 := ⟨eg_X8_clock_88.2.2.1, rfl⟩
theorem d_X8_clock_167 : zD m_X8_clock 167 (.iload_n 3) 1 168 := ⟨eg_X8_clock_88.2.2.2.1, rfl⟩
theorem d_X8_clock_168 : zD m_X8_clock 168 (.iload_n 2) 1 169 := ⟨eg_X8_clock_88.2.2.2.2.1, rfl⟩
theorem d_X8_clock_169 : zD m_X8_clock 169 (.isub) 1 170 := ⟨eg_X8_clock_88.2.2.2.2.2.1, rfl⟩
theorem d_X8_clock_170 : zD m_X8_clock 170 (.invokevirtual 302) 3 173 := ⟨eg_X8_clock_88.2.2.2.2.2.2.1, rfl⟩
theorem d_X8_clock_173 : zD m_X8_clock 173 (.iadd) 1 174 := ⟨eg_X8_clock_88.2.2.2.2.2.2.2, rfl⟩
theorem d_X8_clock_174 : decode (zcc m_X8_clock) 174 = .ok (.ireturn, 1) := eg_X8_clock_96
set_option maxRecDepth 20000 in
theorem eg_X8_goes_0 : decode (zcc m_X8_goes) 0 = .ok (.aload_n 0, 1) ∧ decode (zcc m_X8_goes) 1 = .ok (.iload_n 1, 1) ∧ decode (zcc m_X8_goes) 2 = .ok (.invokevirtual 285, 3) ∧ decode (zcc m_X8_goes) 5 = .ok (.ifCond .eq (11), 3) ∧ decode (zcc m_X8_goes) 8 = .ok (.aload_n 0, 1) ∧ decode (zcc m_X8_goes) 9 = .ok (.iload_n 2, 1) ∧ decode (zcc m_X8_goes) 10 = .ok (.invokevirtual 285, 3) ∧ decode (zcc m_X8_goes) 13 = .ok (.ifCond .ne (7), 3) := by decide +kernel
set_option maxRecDepth 20000 in
theorem eg_X8_goes_8 : decode (zcc m_X8_goes) 16 = .ok (.iconst (-1), 1) ∧ decode (zcc m_X8_goes) 17 = .ok (.goto (27), 3) ∧ decode (zcc m_X8_goes) 20 = .ok (.aload_n 0, 1) ∧ decode (zcc m_X8_goes) 21 = .ok (.iload_n 1, 1) ∧ decode (zcc m_X8_goes) 22 = .ok (.invokevirtual 290, 3) ∧ decode (zcc m_X8_goes) 25 = .ok (.ifCond .eq (17), 3) ∧ decode (zcc m_X8_goes) 28 = .ok (.aload_n 0, 1) ∧ decode (zcc m_X8_goes) 29 = .ok (.iload_n 1, 1) := by decide +kernel
set_option maxRecDepth 20000 in
theorem eg_X8_goes_16 : decode (zcc m_X8_goes) 30 = .ok (.aload_n 0, 1) ∧ decode (zcc m_X8_goes) 31 = .ok (.iload_n 1, 1) ∧ decode (zcc m_X8_goes) 32 = .ok (.invokevirtual 293, 3) ∧ decode (zcc m_X8_goes) 35 = .ok (.iload_n 2, 1) ∧ decode (zcc m_X8_goes) 36 = .ok (.invokevirtual 296, 3) ∧ decode (zcc m_X8_goes) 39 = .ok (.goto (5), 3) ∧ decode (zcc m_X8_goes) 42 = .ok (.bipush (-2), 2) ∧ decode (zcc m_X8_goes) 44 = .ok (.ireturn, 1) := by decide +kernel
theorem d_X8_goes_0 : zD m_X8_goes 0 (.aload_n 0) 1 1 := ⟨eg_X8_goes_0.1, rfl⟩
theorem d_X8_goes_1 : zD m_X8_goes 1 (.iload_n 1) 1 2 := ⟨eg_X8_goes_0.2.1, rfl⟩
theorem d_X8_goes_2 : zD m_X8_goes 2 (.invokevirtual 285) 3 5 := ⟨eg_X8_goes_0.2.2.1, rfl⟩
theorem d_X8_goes_5 : zDj m_X8_goes 5 (.ifCond .eq) 8 16 := ⟨11, eg_X8_goes_0.2.2.2.1, rfl, by decide⟩
theorem d_X8_goes_8 : zD m_X8_goes 8 (.aload_n 0) 1 9 := ⟨eg_X8_goes_0.2.2.2.2.1, rfl⟩
theorem d_X8_goes_9 : zD m_X8_goes 9 (.iload_n 2) 1 10 := ⟨eg_X8_goes_0.2.2.2.2.2.1, rfl⟩
theorem d_X8_goes_10 : zD m_X8_goes 10 (.invokevirtual 285) 3 13 := ⟨eg_X8_goes_0.2.2.2.2.2.2.1, rfl⟩
theorem d_X8_goes_13 : zDj m_X8_goes 13 (.ifCond .ne) 16 20 := ⟨7, eg_X8_goes_0.2.2.2.2.2.2.2, rfl, by decide⟩
theorem d_X8_goes_16 : zD m_X8_goes 16 (.iconst (-1)) 1 17 := ⟨eg_X8_goes_8.1, rfl⟩
theorem d_X8_goes_17 : zDj m_X8_goes 17 (.goto) 20 44 := ⟨27, eg_X8_goes_8.2.1, rfl, by decide⟩
theorem d_X8_goes_20 : zD m_X8_goes 20 (.aload_n 0) 1 21 := ⟨eg_X8_goes_8.2.2.1, rfl⟩
theorem d_X8_goes_21 : zD m_X8_goes 21 (.iload_n 1) 1 22 := ⟨eg_X8_goes_8.2.2.2.1, rfl⟩
theorem d_X8_goes_22 : zD m_X8_goes 22 (.invokevirtual 290) 3 25 := ⟨eg_X8_goes_8.2.2.2.2.1, rfl⟩
theorem d_X8_goes_25 : zDj m_X8_goes 25 (.ifCond .eq) 28 42 := ⟨17, eg_X8_goes_8.2.2.2.2.2.1, rfl, by decide⟩
theorem d_X8_goes_28 : zD m_X8_goes 28 (.aload_n 0) 1 29 := ⟨eg_X8_goes_8.2.2.2.2.2.2.1, rfl⟩
theorem d_X8_goes_29 : zD m_X8_goes 29 (.iload_n 1) 1 30 := ⟨eg_X8_goes_8.2.2.2.2.2.2.2, rfl⟩
theorem d_X8_goes_30 : zD m_X8_goes 30 (.aload_n 0) 1 31 := ⟨eg_X8_goes_16.1, rfl⟩
theorem d_X8_goes_31 : zD m_X8_goes 31 (.iload_n 1) 1 32 := ⟨eg_X8_goes_16.2.1, rfl⟩
theorem d_X8_goes_32 : zD m_X8_goes 32 (.invokevirtual 293) 3 35 := ⟨eg_X8_goes_16.2.2.1, rfl⟩
theorem d_X8_goes_35 : zD m_X8_goes 35 (.iload_n 2) 1 36 := ⟨eg_X8_goes_16.2.2.2.1, rfl⟩
theorem d_X8_goes_36 : zD m_X8_goes 36 (.invokevirtual 296) 3 39 := ⟨eg_X8_goes_16.2.2.2.2.1, rfl⟩
theorem d_X8_goes_39 : zDj m_X8_goes 39 (.goto) 42 44 := ⟨5, eg_X8_goes_16.2.2.2.2.2.1, rfl, by decide⟩
theorem d_X8_goes_42 : zD m_X8_goes 42 (.bipush (-2)) 2 44 := ⟨eg_X8_goes_16.2.2.2.2.2.2.1, rfl⟩
theorem d_X8_goes_44 : decode (zcc m_X8_goes) 44 = .ok (.ireturn, 1) := eg_X8_goes_16.2.2.2.2.2.2.2
set_option maxRecDepth 20000 in
theorem eg_X8_leads_0 : decode (zcc m_X8_leads) 0 = .ok (.iconst 0, 1) ∧ decode (zcc m_X8_leads) 1 = .ok (.istore_n 2, 1) ∧ decode (zcc m_X8_leads) 2 = .ok (.iload_n 2, 1) ∧ decode (zcc m_X8_leads) 3 = .ok (.sipush 3216, 3) ∧ decode (zcc m_X8_leads) 6 = .ok (.if_icmp .ge (16), 3) ∧ decode (zcc m_X8_leads) 9 = .ok (.aload_n 0, 1) ∧ decode (zcc m_X8_leads) 10 = .ok (.getfield 60, 3) ∧ decode (zcc m_X8_leads) 13 = .ok (.iload_n 2, 1) := by decide +kernel
set_option maxRecDepth 20000 in
theorem eg_X8_leads_8 : decode (zcc m_X8_leads) 14 = .ok (.lconst 0, 1) ∧ decode (zcc m_X8_leads) 15 = .ok (.lastore, 1) ∧ decode (zcc m_X8_leads) 16 = .ok (.iinc 2 1, 3) ∧ decode (zcc m_X8_leads) 19 = .ok (.goto (-17), 3) ∧ decode (zcc m_X8_leads) 22 = .ok (.iconst 1, 1) ∧ decode (zcc m_X8_leads) 23 = .ok (.istore_n 2, 1) ∧ decode (zcc m_X8_leads) 24 = .ok (.iload_n 2, 1) ∧ decode (zcc m_X8_leads) 25 = .ok (.aload_n 0, 1) := by decide +kernel
set_option maxRecDepth 20000 in
theorem eg_X8_leads_16 : decode (zcc m_X8_leads) 26 = .ok (.invokevirtual 267, 3) ∧ decode (zcc m_X8_leads) 29 = .ok (.if_icmp .ge (126), 3) ∧ decode (zcc m_X8_leads) 32 = .ok (.iconst 1, 1) ∧ decode (zcc m_X8_leads) 33 = .ok (.istore_n 3, 1) ∧ decode (zcc m_X8_leads) 34 = .ok (.iload_n 3, 1) ∧ decode (zcc m_X8_leads) 35 = .ok (.aload_n 0, 1) ∧ decode (zcc m_X8_leads) 36 = .ok (.invokevirtual 267, 3) ∧ decode (zcc m_X8_leads) 39 = .ok (.if_icmp .ge (110), 3) := by decide +kernel
set_option maxRecDepth 20000 in
theorem eg_X8_leads_24 : decode (zcc m_X8_leads) 42 = .ok (.iload_n 1, 1) ∧ decode (zcc m_X8_leads) 43 = .ok (.bipush (-4), 2) ∧ decode (zcc m_X8_leads) 45 = .ok (.if_icmp .eq (8), 3) ∧ decode (zcc m_X8_leads) 48 = .ok (.iload_n 3, 1) ∧ decode (zcc m_X8_leads) 49 = .ok (.iload_n 1, 1) ∧ decode (zcc m_X8_leads) 50 = .ok (.if_icmp .ne (93), 3) ∧ decode (zcc m_X8_leads) 53 = .ok (.iconst 4, 1) ∧ decode (zcc m_X8_leads) 54 = .ok (.istore 4, 2) := by decide +kernel
set_option maxRecDepth 20000 in
theorem eg_X8_leads_32 : decode (zcc m_X8_leads) 56 = .ok (.iload 4, 2) ∧ decode (zcc m_X8_leads) 58 = .ok (.sipush 197, 3) ∧ decode (zcc m_X8_leads) 61 = .ok (.if_icmp .ge (82), 3) ∧ decode (zcc m_X8_leads) 64 = .ok (.aload_n 0, 1) ∧ decode (zcc m_X8_leads) 65 = .ok (.getfield 57, 3) ∧ decode (zcc m_X8_leads) 68 = .ok (.sipush 201, 3) ∧ decode (zcc m_X8_leads) 71 = .ok (.iload_n 2, 1) ∧ decode (zcc m_X8_leads) 72 = .ok (.imul, 1) := by decide +kernel
set_option maxRecDepth 20000 in
theorem eg_X8_leads_40 : decode (zcc m_X8_leads) 73 = .ok (.iload 4, 2) ∧ decode (zcc m_X8_leads) 75 = .ok (.iadd, 1) ∧ decode (zcc m_X8_leads) 76 = .ok (.laload, 1) ∧ decode (zcc m_X8_leads) 77 = .ok (.lconst 0, 1) ∧ decode (zcc m_X8_leads) 78 = .ok (.lcmp, 1) ∧ decode (zcc m_X8_leads) 79 = .ok (.ifCond .le (58), 3) ∧ decode (zcc m_X8_leads) 82 = .ok (.aload_n 0, 1) ∧ decode (zcc m_X8_leads) 83 = .ok (.iload_n 2, 1) := by decide +kernel
set_option maxRecDepth 20000 in
theorem eg_X8_leads_48 : decode (zcc m_X8_leads) 84 = .ok (.iload 4, 2) ∧ decode (zcc m_X8_leads) 86 = .ok (.bipush 100, 2) ∧ decode (zcc m_X8_leads) 88 = .ok (.isub, 1) ∧ decode (zcc m_X8_leads) 89 = .ok (.iload_n 3, 1) ∧ decode (zcc m_X8_leads) 90 = .ok (.invokevirtual 296, 3) ∧ decode (zcc m_X8_leads) 93 = .ok (.ifCond .ne (44), 3) ∧ decode (zcc m_X8_leads) 96 = .ok (.aload_n 0, 1) ∧ decode (zcc m_X8_leads) 97 = .ok (.getfield 60, 3) := by decide +kernel
set_option maxRecDepth 20000 in
theorem eg_X8_leads_56 : decode (zcc m_X8_leads) 100 = .ok (.sipush 201, 3) ∧ decode (zcc m_X8_leads) 103 = .ok (.iload_n 3, 1) ∧ decode (zcc m_X8_leads) 104 = .ok (.imul, 1) ∧ decode (zcc m_X8_leads) 105 = .ok (.aload_n 0, 1) ∧ decode (zcc m_X8_leads) 106 = .ok (.iload_n 2, 1) ∧ decode (zcc m_X8_leads) 107 = .ok (.iload 4, 2) ∧ decode (zcc m_X8_leads) 109 = .ok (.bipush 100, 2) ∧ decode (zcc m_X8_leads) 111 = .ok (.isub, 1) := by decide +kernel
set_option maxRecDepth 20000 in
theorem eg_X8_leads_64 : decode (zcc m_X8_leads) 112 = .ok (.iload_n 3, 1) ∧ decode (zcc m_X8_leads) 113 = .ok (.invokevirtual 299, 3) ∧ decode (zcc m_X8_leads) 116 = .ok (.iadd, 1) ∧ decode (zcc m_X8_leads) 117 = .ok (.bipush 100, 2) ∧ decode (zcc m_X8_leads) 119 = .ok (.iadd, 1) ∧ decode (zcc m_X8_leads) 120 = .ok (.dup2, 1) ∧ decode (zcc m_X8_leads) 121 = .ok (.laload, 1) ∧ decode (zcc m_X8_leads) 122 = .ok (.aload_n 0, 1) := by decide +kernel
set_option maxRecDepth 20000 in
theorem eg_X8_leads_72 : decode (zcc m_X8_leads) 123 = .ok (.getfield 57, 3) ∧ decode (zcc m_X8_leads) 126 = .ok (.sipush 201, 3) ∧ decode (zcc m_X8_leads) 129 = .ok (.iload_n 2, 1) ∧ decode (zcc m_X8_leads) 130 = .ok (.imul, 1) ∧ decode (zcc m_X8_leads) 131 = .ok (.iload 4, 2) ∧ decode (zcc m_X8_leads) 133 = .ok (.iadd, 1) ∧ decode (zcc m_X8_leads) 134 = .ok (.laload, 1) ∧ decode (zcc m_X8_leads) 135 = .ok (.ladd, 1) := by decide +kernel
set_option maxRecDepth 20000 in
theorem eg_X8_leads_80 : decode (zcc m_X8_leads) 136 = .ok (.lastore, 1) ∧ decode (zcc m_X8_leads) 137 = .ok (.iinc 4 1, 3) ∧ decode (zcc m_X8_leads) 140 = .ok (.goto (-84), 3) ∧ decode (zcc m_X8_leads) 143 = .ok (.iinc 3 1, 3) ∧ decode (zcc m_X8_leads) 146 = .ok (.goto (-112), 3) ∧ decode (zcc m_X8_leads) 149 = .ok (.iinc 2 1, 3) ∧ decode (zcc m_X8_leads) 152 = .ok (.goto (-128), 3) ∧ decode (zcc m_X8_leads) 155 = .ok (.iconst 0, 1) := by decide +kernel
set_option maxRecDepth 20000 in
theorem eg_X8_leads_88 : decode (zcc m_X8_leads) 156 = .ok (.istore_n 2, 1) ∧ decode (zcc m_X8_leads) 157 = .ok (.iload_n 2, 1) ∧ decode (zcc m_X8_leads) 158 = .ok (.sipush 3216, 3) ∧ decode (zcc m_X8_leads) 161 = .ok (.if_icmp .ge (21), 3) ∧ decode (zcc m_X8_leads) 164 = .ok (.aload_n 0, 1) ∧ decode (zcc m_X8_leads) 165 = .ok (.getfield 57, 3) ∧ decode (zcc m_X8_leads) 168 = .ok (.iload_n 2, 1) ∧ decode (zcc m_X8_leads) 169 = .ok (.aload_n 0, 1) := by decide +kernel
set_option maxRecDepth 20000 in
theorem eg_X8_leads_96 : decode (zcc m_X8_leads) 170 = .ok (.getfield 60, 3) ∧ decode (zcc m_X8_leads) 173 = .ok (.iload_n 2, 1) ∧ decode (zcc m_X8_leads) 174 = .ok (.laload, 1) ∧ decode (zcc m_X8_leads) 175 = .ok (.lastore, 1) ∧ decode (zcc m_X8_leads) 176 = .ok (.iinc 2 1, 3) ∧ decode (zcc m_X8_leads) 179 = .ok (.goto (-22), 3) ∧ decode (zcc m_X8_leads) 182 = .ok (.return_, 1) := by decide +kernel
theorem d_X8_leads_0 : zD m_X8_leads 0 (.iconst 0) 1 1 := ⟨eg_X8_leads_0.1, rfl⟩
theorem d_X8_leads_1 : zD m_X8_leads 1 (.istore_n 2) 1 2 := ⟨eg_X8_leads_0.2.1, rfl⟩
theorem d_X8_leads_2 : zD m_X8_leads 2 (.iload_n 2) 1 3 := ⟨eg_X8_leads_0.2.2.1, rfl⟩
theorem d_X8_leads_3 : zD m_X8_leads 3 (.sipush 3216) 3 6 := ⟨eg_X8_leads_0.2.2.2.1, rfl⟩
theorem d_X8_leads_6 : zDj m_X8_leads 6 (.if_icmp .ge) 9 22 := ⟨16, eg_X8_leads_0.2.2.2.2.1, rfl, by decide⟩
theorem d_X8_leads_9 : zD m_X8_leads 9 (.aload_n 0) 1 10 := ⟨eg_X8_leads_0.2.2.2.2.2.1, rfl⟩
theorem d_X8_leads_10 : zD m_X8_leads 10 (.getfield 60) 3 13 := ⟨eg_X8_leads_0.2.2.2.2.2.2.1, rfl⟩
theorem d_X8_leads_13 : zD m_X8_leads 13 (.iload_n 2) 1 14 := ⟨eg_X8_leads_0.2.2.2.2.2.2.2, rfl⟩
theorem d_X8_leads_14 : zD m_X8_leads 14 (.lconst 0) 1 15 := ⟨eg_X8_leads_8.1, rfl⟩
theorem d_X8_leads_15 : zD m_X8_leads 15 (.lastore) 1 16 := ⟨eg_X8_leads_8.2.1, rfl⟩
theorem d_X8_leads_16 : zD m_X8_leads 16 (.iinc 2 1) 3 19 := ⟨eg_X8_leads_8.2.2.1, rfl⟩
theorem d_X8_leads_19 : zDj m_X8_leads 19 (.goto) 22 2 := ⟨-17, eg_X8_leads_8.2.2.2.1, rfl, by decide⟩
theorem d_X8_leads_22 : zD m_X8_leads 22 (.iconst 1) 1 23 := ⟨eg_X8_leads_8.2.2.2.2.1, rfl⟩
theorem d_X8_leads_23 : zD m_X8_leads 23 (.istore_n 2) 1 24 := ⟨eg_X8_leads_8.2.2.2.2.2.1, rfl⟩
theorem d_X8_leads_24 : zD m_X8_leads 24 (.iload_n 2) 1 25 := ⟨eg_X8_leads_8.2.2.2.2.2.2.1, rfl⟩
theorem d_X8_leads_25 : zD m_X8_leads 25 (.aload_n 0) 1 26 := ⟨eg_X8_leads_8.2.2.2.2.2.2.2, rfl⟩
theorem d_X8_leads_26 : zD m_X8_leads 26 (.invokevirtual 267) 3 29 := ⟨eg_X8_leads_16.1, rfl⟩
theorem d_X8_leads_29 : zDj m_X8_leads 29 (.if_icmp .ge) 32 155 := ⟨126, eg_X8_leads_16.2.1, rfl, by decide⟩
theorem d_X8_leads_32 : zD m_X8_leads 32 (.iconst 1) 1 33 := ⟨eg_X8_leads_16.2.2.1, rfl⟩
theorem d_X8_leads_33 : zD m_X8_leads 33 (.istore_n 3) 1 34 := ⟨eg_X8_leads_16.2.2.2.1, rfl⟩
theorem d_X8_leads_34 : zD m_X8_leads 34 (.iload_n 3) 1 35 := ⟨eg_X8_leads_16.2.2.2.2.1, rfl⟩
theorem d_X8_leads_35 : zD m_X8_leads 35 (.aload_n 0) 1 36 := ⟨eg_X8_leads_16.2.2.2.2.2.1, rfl⟩
theorem d_X8_leads_36 : zD m_X8_leads 36 (.invokevirtual 267) 3 39 := ⟨eg_X8_leads_16.2.2.2.2.2.2.1, rfl⟩
theorem d_X8_leads_39 : zDj m_X8_leads 39 (.if_icmp .ge) 42 149 := ⟨110, eg_X8_leads_16.2.2.2.2.2.2.2, rfl, by decide⟩
theorem d_X8_leads_42 : zD m_X8_leads 42 (.iload_n 1) 1 43 := ⟨eg_X8_leads_24.1, rfl⟩
theorem d_X8_leads_43 : zD m_X8_leads 43 (.bipush (-4)) 2 45 := ⟨eg_X8_leads_24.2.1, rfl⟩
theorem d_X8_leads_45 : zDj m_X8_leads 45 (.if_icmp .eq) 48 53 := ⟨8, eg_X8_leads_24.2.2.1, rfl, by decide⟩
theorem d_X8_leads_48 : zD m_X8_leads 48 (.iload_n 3) 1 49 := ⟨eg_X8_leads_24.2.2.2.1, rfl⟩
theorem d_X8_leads_49 : zD m_X8_leads 49 (.iload_n 1) 1 50 := ⟨eg_X8_leads_24.2.2.2.2.1, rfl⟩
theorem d_X8_leads_50 : zDj m_X8_leads 50 (.if_icmp .ne) 53 143 := ⟨93, eg_X8_leads_24.2.2.2.2.2.1, rfl, by decide⟩
theorem d_X8_leads_53 : zD m_X8_leads 53 (.iconst 4) 1 54 := ⟨eg_X8_leads_24.2.2.2.2.2.2.1, rfl⟩
theorem d_X8_leads_54 : zD m_X8_leads 54 (.istore 4) 2 56 := ⟨eg_X8_leads_24.2.2.2.2.2.2.2, rfl⟩
theorem d_X8_leads_56 : zD m_X8_leads 56 (.iload 4) 2 58 := ⟨eg_X8_leads_32.1, rfl⟩
theorem d_X8_leads_58 : zD m_X8_leads 58 (.sipush 197) 3 61 := ⟨eg_X8_leads_32.2.1, rfl⟩
theorem d_X8_leads_61 : zDj m_X8_leads 61 (.if_icmp .ge) 64 143 := ⟨82, eg_X8_leads_32.2.2.1, rfl, by decide⟩
theorem d_X8_leads_64 : zD m_X8_leads 64 (.aload_n 0) 1 65 := ⟨eg_X8_leads_32.2.2.2.1, rfl⟩
theorem d_X8_leads_65 : zD m_X8_leads 65 (.getfield 57) 3 68 := ⟨eg_X8_leads_32.2.2.2.2.1, rfl⟩
theorem d_X8_leads_68 : zD m_X8_leads 68 (.sipush 201) 3 71 := ⟨eg_X8_leads_32.2.2.2.2.2.1, rfl⟩
theorem d_X8_leads_71 : zD m_X8_leads 71 (.iload_n 2) 1 72 := ⟨eg_X8_leads_32.2.2.2.2.2.2.1, rfl⟩
theorem d_X8_leads_72 : zD m_X8_leads 72 (.imul) 1 73 := ⟨eg_X8_leads_32.2.2.2.2.2.2.2, rfl⟩
theorem d_X8_leads_73 : zD m_X8_leads 73 (.iload 4) 2 75 := ⟨eg_X8_leads_40.1, rfl⟩
theorem d_X8_leads_75 : zD m_X8_leads 75 (.iadd) 1 76 := ⟨eg_X8_leads_40.2.1, rfl⟩
theorem d_X8_leads_76 : zD m_X8_leads 76 (.laload) 1 77 := ⟨eg_X8_leads_40.2.2.1, rfl⟩
theorem d_X8_leads_77 : zD m_X8_leads 77 (.lconst 0) 1 78 := ⟨eg_X8_leads_40.2.2.2.1, rfl⟩
theorem d_X8_leads_78 : zD m_X8_leads 78 (.lcmp) 1 79 := ⟨eg_X8_leads_40.2.2.2.2.1, rfl⟩
theorem d_X8_leads_79 : zDj m_X8_leads 79 (.ifCond .le) 82 137 := ⟨58, eg_X8_leads_40.2.2.2.2.2.1, rfl, by decide⟩
theorem d_X8_leads_82 : zD m_X8_leads 82 (.aload_n 0) 1 83 := ⟨eg_X8_leads_40.2.2.2.2.2.2.1, rfl⟩
theorem d_X8_leads_83 : zD m_X8_leads 83 (.iload_n 2) 1 84 := ⟨eg_X8_leads_40.2.2.2.2.2.2.2, rfl⟩
theorem d_X8_leads_84 : zD m_X8_leads 84 (.iload 4) 2 86 := ⟨eg_X8_leads_48.1, rfl⟩
theorem d_X8_leads_86 : zD m_X8_leads 86 (.bipush 100) 2 88 := ⟨eg_X8_leads_48.2.1, rfl⟩
theorem d_X8_leads_88 : zD m_X8_leads 88 (.isub) 1 89 := ⟨eg_X8_leads_48.2.2.1, rfl⟩
theorem d_X8_leads_89 : zD m_X8_leads 89 (.iload_n 3) 1 90 := ⟨eg_X8_leads_48.2.2.2.1, rfl⟩
theorem d_X8_leads_90 : zD m_X8_leads 90 (.invokevirtual 296) 3 93 := ⟨eg_X8_leads_48.2.2.2.2.1, rfl⟩
theorem d_X8_leads_93 : zDj m_X8_leads 93 (.ifCond .ne) 96 137 := ⟨44, eg_X8_leads_48.2.2.2.2.2.1, rfl, by decide⟩
theorem d_X8_leads_96 : zD m_X8_leads 96 (.aload_n 0) 1 97 := ⟨eg_X8_leads_48.2.2.2.2.2.2.1, rfl⟩
theorem d_X8_leads_97 : zD m_X8_leads 97 (.getfield 60) 3 100 := ⟨eg_X8_leads_48.2.2.2.2.2.2.2, rfl⟩
theorem d_X8_leads_100 : zD m_X8_leads 100 (.sipush 201) 3 103 := ⟨eg_X8_leads_56.1, rfl⟩
theorem d_X8_leads_103 : zD m_X8_leads 103 (.iload_n 3) 1 104 := ⟨eg_X8_leads_56.2.1, rfl⟩
theorem d_X8_leads_104 : zD m_X8_leads 104 (.imul) 1 105 := ⟨eg_X8_leads_56.2.2.1, rfl⟩
theorem d_X8_leads_105 : zD m_X8_leads 105 (.aload_n 0) 1 106 := ⟨eg_X8_leads_56.2.2.2.1, rfl⟩
theorem d_X8_leads_106 : zD m_X8_leads 106 (.iload_n 2) 1 107 := ⟨eg_X8_leads_56.2.2.2.2.1, rfl⟩
theorem d_X8_leads_107 : zD m_X8_leads 107 (.iload 4) 2 109 := ⟨eg_X8_leads_56.2.2.2.2.2.1, rfl⟩
theorem d_X8_leads_109 : zD m_X8_leads 109 (.bipush 100) 2 111 := ⟨eg_X8_leads_56.2.2.2.2.2.2.1, rfl⟩
theorem d_X8_leads_111 : zD m_X8_leads 111 (.isub) 1 112 := ⟨eg_X8_leads_56.2.2.2.2.2.2.2, rfl⟩
theorem d_X8_leads_112 : zD m_X8_leads 112 (.iload_n 3) 1 113 := ⟨eg_X8_leads_64.1, rfl⟩
theorem d_X8_leads_113 : zD m_X8_leads 113 (.invokevirtual 299) 3 116 := ⟨eg_X8_leads_64.2.1, rfl⟩
theorem d_X8_leads_116 : zD m_X8_leads 116 (.iadd) 1 117 := ⟨eg_X8_leads_64.2.2.1, rfl⟩
theorem d_X8_leads_117 : zD m_X8_leads 117 (.bipush 100) 2 119 := ⟨eg_X8_leads_64.2.2.2.1, rfl⟩
theorem d_X8_leads_119 : zD m_X8_leads 119 (.iadd) 1 120 := ⟨eg_X8_leads_64.2.2.2.2.1, rfl⟩
theorem d_X8_leads_120 : zD m_X8_leads 120 (.dup2) 1 121 := ⟨eg_X8_leads_64.2.2.2.2.2.1, rfl⟩
theorem d_X8_leads_121 : zD m_X8_leads 121 (.laload) 1 122 := ⟨eg_X8_leads_64.2.2.2.2.2.2.1, rfl⟩
theorem d_X8_leads_122 : zD m_X8_leads 122 (.aload_n 0) 1 123 := ⟨eg_X8_leads_64.2.2.2.2.2.2.2, rfl⟩
theorem d_X8_leads_123 : zD m_X8_leads 123 (.getfield 57) 3 126 := ⟨eg_X8_leads_72.1, rfl⟩
theorem d_X8_leads_126 : zD m_X8_leads 126 (.sipush 201) 3 129 := ⟨eg_X8_leads_72.2.1, rfl⟩
theorem d_X8_leads_129 : zD m_X8_leads 129 (.iload_n 2) 1 130 := ⟨eg_X8_leads_72.2.2.1, rfl⟩
theorem d_X8_leads_130 : zD m_X8_leads 130 (.imul) 1 131 := ⟨eg_X8_leads_72.2.2.2.1, rfl⟩
theorem d_X8_leads_131 : zD m_X8_leads 131 (.iload 4) 2 133 := ⟨eg_X8_leads_72.2.2.2.2.1, rfl⟩
theorem d_X8_leads_133 : zD m_X8_leads 133 (.iadd) 1 134 := ⟨eg_X8_leads_72.2.2.2.2.2.1, rfl⟩
theorem d_X8_leads_134 : zD m_X8_leads 134 (.laload) 1 135 := ⟨eg_X8_leads_72.2.2.2.2.2.2.1, rfl⟩
theorem d_X8_leads_135 : zD m_X8_leads 135 (.ladd) 1 136 := ⟨eg_X8_leads_72.2.2.2.2.2.2.2, rfl⟩
theorem d_X8_leads_136 : zD m_X8_leads 136 (.lastore) 1 137 := ⟨eg_X8_leads_80.1, rfl⟩
theorem d_X8_leads_137 : zD m_X8_leads 137 (.iinc 4 1) 3 140 := ⟨eg_X8_leads_80.2.1, rfl⟩
theorem d_X8_leads_140 : zDj m_X8_leads 140 (.goto) 143 56 := ⟨-84, eg_X8_leads_80.2.2.1, rfl, by decide⟩
theorem d_X8_leads_143 : zD m_X8_leads 143 (.iinc 3 1) 3 146 := ⟨eg_X8_leads_80.2.2.2.1, rfl⟩
theorem d_X8_leads_146 : zDj m_X8_leads 146 (.goto) 149 34 := ⟨-112, eg_X8_leads_80.2.2.2.2.1, rfl, by decide⟩
theorem d_X8_leads_149 : zD m_X8_leads 149 (.iinc 2 1) 3 152 := ⟨eg_X8_leads_80.2.2.2.2.2.1, rfl⟩
theorem d_X8_leads_152 : zDj m_X8_leads 152 (.goto) 155 24 := ⟨-128, eg_X8_leads_80.2.2.2.2.2.2.1, rfl, by decide⟩
theorem d_X8_leads_155 : zD m_X8_leads 155 (.iconst 0) 1 156 := ⟨eg_X8_leads_80.2.2.2.2.2.2.2, rfl⟩
theorem d_X8_leads_156 : zD m_X8_leads 156 (.istore_n 2) 1 157 := ⟨eg_X8_leads_88.1, rfl⟩
theorem d_X8_leads_157 : zD m_X8_leads 157 (.iload_n 2) 1 158 := ⟨eg_X8_leads_88.2.1, rfl⟩
theorem d_X8_leads_158 : zD m_X8_leads 158 (.sipush 3216) 3 161 := ⟨eg_X8_leads_88.2.2.1, rfl⟩
theorem d_X8_leads_161 : zDj m_X8_leads 161 (.if_icmp .ge) 164 182 := ⟨21, eg_X8_leads_88.2.2.2.1, rfl, by decide⟩
theorem d_X8_leads_164 : zD m_X8_leads 164 (.aload_n 0) 1 165 := ⟨eg_X8_leads_88.2.2.2.2.1, rfl⟩
theorem d_X8_leads_165 : zD m_X8_leads 165 (.getfield 57) 3 168 := ⟨eg_X8_leads_88.2.2.2.2.2.1, rfl⟩
theorem d_X8_leads_168 : zD m_X8_leads 168 (.iload_n 2) 1 169 := ⟨eg_X8_leads_88.2.2.2.2.2.2.1, rfl⟩
theorem d_X8_leads_169 : zD m_X8_leads 169 (.aload_n 0) 1 170 := ⟨eg_X8_leads_88.2.2.2.2.2.2.2, rfl⟩
theorem d_X8_leads_170 : zD m_X8_leads 170 (.getfield 60) 3 173 := ⟨eg_X8_leads_96.1, rfl⟩
theorem d_X8_leads_173 : zD m_X8_leads 173 (.iload_n 2) 1 174 := ⟨eg_X8_leads_96.2.1, rfl⟩
theorem d_X8_leads_174 : zD m_X8_leads 174 (.laload) 1 175 := ⟨eg_X8_leads_96.2.2.1, rfl⟩
theorem d_X8_leads_175 : zD m_X8_leads 175 (.lastore) 1 176 := ⟨eg_X8_leads_96.2.2.2.1, rfl⟩
theorem d_X8_leads_176 : zD m_X8_leads 176 (.iinc 2 1) 3 179 := ⟨eg_X8_leads_96.2.2.2.2.1, rfl⟩
theorem d_X8_leads_179 : zDj m_X8_leads 179 (.goto) 182 157 := ⟨-22, eg_X8_leads_96.2.2.2.2.2.1, rfl, by decide⟩
theorem d_X8_leads_182 : decode (zcc m_X8_leads) 182 = .ok (.return_, 1) := eg_X8_leads_96.2.2.2.2.2.2
set_option maxRecDepth 20000 in
theorem eg_X8_roundsOf_0 : decode (zcc m_X8_roundsOf) 0 = .ok (.iconst 0, 1) ∧ decode (zcc m_X8_roundsOf) 1 = .ok (.istore 4, 2) ∧ decode (zcc m_X8_roundsOf) 3 = .ok (.iload 4, 2) ∧ decode (zcc m_X8_roundsOf) 5 = .ok (.sipush 3216, 3) ∧ decode (zcc m_X8_roundsOf) 8 = .ok (.if_icmp .ge (17), 3) ∧ decode (zcc m_X8_roundsOf) 11 = .ok (.aload_n 0, 1) ∧ decode (zcc m_X8_roundsOf) 12 = .ok (.getfield 57, 3) ∧ decode (zcc m_X8_roundsOf) 15 = .ok (.iload 4, 2) := by decide +kernel
set_option maxRecDepth 20000 in
theorem eg_X8_roundsOf_8 : decode (zcc m_X8_roundsOf) 17 = .ok (.lconst 0, 1) ∧ decode (zcc m_X8_roundsOf) 18 = .ok (.lastore, 1) ∧ decode (zcc m_X8_roundsOf) 19 = .ok (.iinc 4 1, 3) ∧ decode (zcc m_X8_roundsOf) 22 = .ok (.goto (-19), 3) ∧ decode (zcc m_X8_roundsOf) 25 = .ok (.aload_n 0, 1) ∧ decode (zcc m_X8_roundsOf) 26 = .ok (.iload_n 1, 1) ∧ decode (zcc m_X8_roundsOf) 27 = .ok (.invokevirtual 293, 3) ∧ decode (zcc m_X8_roundsOf) 30 = .ok (.istore 4, 2) := by decide +kernel
set_option maxRecDepth 20000 in
theorem eg_X8_roundsOf_16 : decode (zcc m_X8_roundsOf) 32 = .ok (.aload_n 0, 1) ∧ decode (zcc m_X8_roundsOf) 33 = .ok (.getfield 57, 3) ∧ decode (zcc m_X8_roundsOf) 36 = .ok (.sipush 201, 3) ∧ decode (zcc m_X8_roundsOf) 39 = .ok (.iload_n 1, 1) ∧ decode (zcc m_X8_roundsOf) 40 = .ok (.imul, 1) ∧ decode (zcc m_X8_roundsOf) 41 = .ok (.iload 4, 2) ∧ decode (zcc m_X8_roundsOf) 43 = .ok (.iadd, 1) ∧ decode (zcc m_X8_roundsOf) 44 = .ok (.bipush 100, 2) := by decide +kernel
set_option maxRecDepth 20000 in
theorem eg_X8_roundsOf_24 : decode (zcc m_X8_roundsOf) 46 = .ok (.iadd, 1) ∧ decode (zcc m_X8_roundsOf) 47 = .ok (.lconst 1, 1) ∧ decode (zcc m_X8_roundsOf) 48 = .ok (.lastore, 1) ∧ decode (zcc m_X8_roundsOf) 49 = .ok (.iconst 1, 1) ∧ decode (zcc m_X8_roundsOf) 50 = .ok (.istore 5, 2) ∧ decode (zcc m_X8_roundsOf) 52 = .ok (.iload 5, 2) ∧ decode (zcc m_X8_roundsOf) 54 = .ok (.iload_n 2, 1) ∧ decode (zcc m_X8_roundsOf) 55 = .ok (.if_icmp .ge (15), 3) := by decide +kernel
set_option maxRecDepth 20000 in
theorem eg_X8_roundsOf_32 : decode (zcc m_X8_roundsOf) 58 = .ok (.aload_n 0, 1) ∧ decode (zcc m_X8_roundsOf) 59 = .ok (.bipush (-4), 2) ∧ decode (zcc m_X8_roundsOf) 61 = .ok (.invokevirtual 305, 3) ∧ decode (zcc m_X8_roundsOf) 64 = .ok (.iinc 5 1, 3) ∧ decode (zcc m_X8_roundsOf) 67 = .ok (.goto (-15), 3) ∧ decode (zcc m_X8_roundsOf) 70 = .ok (.aload_n 0, 1) ∧ decode (zcc m_X8_roundsOf) 71 = .ok (.iload_n 1, 1) ∧ decode (zcc m_X8_roundsOf) 72 = .ok (.invokevirtual 305, 3) := by decide +kernel
set_option maxRecDepth 20000 in
theorem eg_X8_roundsOf_40 : decode (zcc m_X8_roundsOf) 75 = .ok (.lconst 0, 1) ∧ decode (zcc m_X8_roundsOf) 76 = .ok (.lstore 5, 2) ∧ decode (zcc m_X8_roundsOf) 78 = .ok (.iconst 0, 1) ∧ decode (zcc m_X8_roundsOf) 79 = .ok (.istore 7, 2) ∧ decode (zcc m_X8_roundsOf) 81 = .ok (.iload 7, 2) ∧ decode (zcc m_X8_roundsOf) 83 = .ok (.sipush 201, 3) ∧ decode (zcc m_X8_roundsOf) 86 = .ok (.if_icmp .ge (47), 3) ∧ decode (zcc m_X8_roundsOf) 89 = .ok (.lload 5, 2) := by decide +kernel
set_option maxRecDepth 20000 in
theorem eg_X8_roundsOf_48 : decode (zcc m_X8_roundsOf) 91 = .ok (.aload_n 0, 1) ∧ decode (zcc m_X8_roundsOf) 92 = .ok (.iload 7, 2) ∧ decode (zcc m_X8_roundsOf) 94 = .ok (.bipush 100, 2) ∧ decode (zcc m_X8_roundsOf) 96 = .ok (.isub, 1) ∧ decode (zcc m_X8_roundsOf) 97 = .ok (.iload 4, 2) ∧ decode (zcc m_X8_roundsOf) 99 = .ok (.isub, 1) ∧ decode (zcc m_X8_roundsOf) 100 = .ok (.invokevirtual 302, 3) ∧ decode (zcc m_X8_roundsOf) 103 = .ok (.iload_n 3, 1) := by decide +kernel
set_option maxRecDepth 20000 in
theorem eg_X8_roundsOf_56 : decode (zcc m_X8_roundsOf) 104 = .ok (.if_icmp .ne (19), 3) ∧ decode (zcc m_X8_roundsOf) 107 = .ok (.aload_n 0, 1) ∧ decode (zcc m_X8_roundsOf) 108 = .ok (.getfield 57, 3) ∧ decode (zcc m_X8_roundsOf) 111 = .ok (.sipush 201, 3) ∧ decode (zcc m_X8_roundsOf) 114 = .ok (.iload_n 1, 1) ∧ decode (zcc m_X8_roundsOf) 115 = .ok (.imul, 1) ∧ decode (zcc m_X8_roundsOf) 116 = .ok (.iload 7, 2) ∧ decode (zcc m_X8_roundsOf) 118 = .ok (.iadd, 1) := by decide +kernel
set_option maxRecDepth 20000 in
theorem eg_X8_roundsOf_64 : decode (zcc m_X8_roundsOf) 119 = .ok (.laload, 1) ∧ decode (zcc m_X8_roundsOf) 120 = .ok (.goto (4), 3) ∧ decode (zcc m_X8_roundsOf) 123 = .ok (.lconst 0, 1) ∧ decode (zcc m_X8_roundsOf) 124 = .ok (.ladd, 1) ∧ decode (zcc m_X8_roundsOf) 125 = .ok (.lstore 5, 2) ∧ decode (zcc m_X8_roundsOf) 127 = .ok (.iinc 7 1, 3) ∧ decode (zcc m_X8_roundsOf) 130 = .ok (.goto (-49), 3) ∧ decode (zcc m_X8_roundsOf) 133 = .ok (.lload 5, 2) := by decide +kernel
set_option maxRecDepth 20000 in
theorem eg_X8_roundsOf_72 : decode (zcc m_X8_roundsOf) 135 = .ok (.lreturn, 1) := by decide +kernel
theorem d_X8_roundsOf_0 : zD m_X8_roundsOf 0 (.iconst 0) 1 1 := ⟨eg_X8_roundsOf_0.1, rfl⟩
theorem d_X8_roundsOf_1 : zD m_X8_roundsOf 1 (.istore 4) 2 3 := ⟨eg_X8_roundsOf_0.2.1, rfl⟩
theorem d_X8_roundsOf_3 : zD m_X8_roundsOf 3 (.iload 4) 2 5 := ⟨eg_X8_roundsOf_0.2.2.1, rfl⟩
theorem d_X8_roundsOf_5 : zD m_X8_roundsOf 5 (.sipush 3216) 3 8 := ⟨eg_X8_roundsOf_0.2.2.2.1, rfl⟩
theorem d_X8_roundsOf_8 : zDj m_X8_roundsOf 8 (.if_icmp .ge) 11 25 := ⟨17, eg_X8_roundsOf_0.2.2.2.2.1, rfl, by decide⟩
theorem d_X8_roundsOf_11 : zD m_X8_roundsOf 11 (.aload_n 0) 1 12 := ⟨eg_X8_roundsOf_0.2.2.2.2.2.1, rfl⟩
theorem d_X8_roundsOf_12 : zD m_X8_roundsOf 12 (.getfield 57) 3 15 := ⟨eg_X8_roundsOf_0.2.2.2.2.2.2.1, rfl⟩
theorem d_X8_roundsOf_15 : zD m_X8_roundsOf 15 (.iload 4) 2 17 := ⟨eg_X8_roundsOf_0.2.2.2.2.2.2.2, rfl⟩
theorem d_X8_roundsOf_17 : zD m_X8_roundsOf 17 (.lconst 0) 1 18 := ⟨eg_X8_roundsOf_8.1, rfl⟩
theorem d_X8_roundsOf_18 : zD m_X8_roundsOf 18 (.lastore) 1 19 := ⟨eg_X8_roundsOf_8.2.1, rfl⟩
theorem d_X8_roundsOf_19 : zD m_X8_roundsOf 19 (.iinc 4 1) 3 22 := ⟨eg_X8_roundsOf_8.2.2.1, rfl⟩
theorem d_X8_roundsOf_22 : zDj m_X8_roundsOf 22 (.goto) 25 3 := ⟨-19, eg_X8_roundsOf_8.2.2.2.1, rfl, by decide⟩
theorem d_X8_roundsOf_25 : zD m_X8_roundsOf 25 (.aload_n 0) 1 26 := ⟨eg_X8_roundsOf_8.2.2.2.2.1, rfl⟩
theorem d_X8_roundsOf_26 : zD m_X8_roundsOf 26 (.iload_n 1) 1 27 := ⟨eg_X8_roundsOf_8.2.2.2.2.2.1, rfl⟩
theorem d_X8_roundsOf_27 : zD m_X8_roundsOf 27 (.invokevirtual 293) 3 30 := ⟨eg_X8_roundsOf_8.2.2.2.2.2.2.1, rfl⟩
theorem d_X8_roundsOf_30 : zD m_X8_roundsOf 30 (.istore 4) 2 32 := ⟨eg_X8_roundsOf_8.2.2.2.2.2.2.2, rfl⟩
theorem d_X8_roundsOf_32 : zD m_X8_roundsOf 32 (.aload_n 0) 1 33 := ⟨eg_X8_roundsOf_16.1, rfl⟩
theorem d_X8_roundsOf_33 : zD m_X8_roundsOf 33 (.getfield 57) 3 36 := ⟨eg_X8_roundsOf_16.2.1, rfl⟩
theorem d_X8_roundsOf_36 : zD m_X8_roundsOf 36 (.sipush 201) 3 39 := ⟨eg_X8_roundsOf_16.2.2.1, rfl⟩
theorem d_X8_roundsOf_39 : zD m_X8_roundsOf 39 (.iload_n 1) 1 40 := ⟨eg_X8_roundsOf_16.2.2.2.1, rfl⟩
theorem d_X8_roundsOf_40 : zD m_X8_roundsOf 40 (.imul) 1 41 := ⟨eg_X8_roundsOf_16.2.2.2.2.1, rfl⟩
theorem d_X8_roundsOf_41 : zD m_X8_roundsOf 41 (.iload 4) 2 43 := ⟨eg_X8_roundsOf_16.2.2.2.2.2.1, rfl⟩
theorem d_X8_roundsOf_43 : zD m_X8_roundsOf 43 (.iadd) 1 44 := ⟨eg_X8_roundsOf_16.2.2.2.2.2.2.1, rfl⟩
theorem d_X8_roundsOf_44 : zD m_X8_roundsOf 44 (.bipush 100) 2 46 := ⟨eg_X8_roundsOf_16.2.2.2.2.2.2.2, rfl⟩
theorem d_X8_roundsOf_46 : zD m_X8_roundsOf 46 (.iadd) 1 47 := ⟨eg_X8_roundsOf_24.1, rfl⟩
theorem d_X8_roundsOf_47 : zD m_X8_roundsOf 47 (.lconst 1) 1 48 := ⟨eg_X8_roundsOf_24.2.1, rfl⟩
theorem d_X8_roundsOf_48 : zD m_X8_roundsOf 48 (.lastore) 1 49 := ⟨eg_X8_roundsOf_24.2.2.1, rfl⟩
theorem d_X8_roundsOf_49 : zD m_X8_roundsOf 49 (.iconst 1) 1 50 := ⟨eg_X8_roundsOf_24.2.2.2.1, rfl⟩
theorem d_X8_roundsOf_50 : zD m_X8_roundsOf 50 (.istore 5) 2 52 := ⟨eg_X8_roundsOf_24.2.2.2.2.1, rfl⟩
theorem d_X8_roundsOf_52 : zD m_X8_roundsOf 52 (.iload 5) 2 54 := ⟨eg_X8_roundsOf_24.2.2.2.2.2.1, rfl⟩
theorem d_X8_roundsOf_54 : zD m_X8_roundsOf 54 (.iload_n 2) 1 55 := ⟨eg_X8_roundsOf_24.2.2.2.2.2.2.1, rfl⟩
theorem d_X8_roundsOf_55 : zDj m_X8_roundsOf 55 (.if_icmp .ge) 58 70 := ⟨15, eg_X8_roundsOf_24.2.2.2.2.2.2.2, rfl, by decide⟩
theorem d_X8_roundsOf_58 : zD m_X8_roundsOf 58 (.aload_n 0) 1 59 := ⟨eg_X8_roundsOf_32.1, rfl⟩
theorem d_X8_roundsOf_59 : zD m_X8_roundsOf 59 (.bipush (-4)) 2 61 := ⟨eg_X8_roundsOf_32.2.1, rfl⟩
theorem d_X8_roundsOf_61 : zD m_X8_roundsOf 61 (.invokevirtual 305) 3 64 := ⟨eg_X8_roundsOf_32.2.2.1, rfl⟩
theorem d_X8_roundsOf_64 : zD m_X8_roundsOf 64 (.iinc 5 1) 3 67 := ⟨eg_X8_roundsOf_32.2.2.2.1, rfl⟩
theorem d_X8_roundsOf_67 : zDj m_X8_roundsOf 67 (.goto) 70 52 := ⟨-15, eg_X8_roundsOf_32.2.2.2.2.1, rfl, by decide⟩
theorem d_X8_roundsOf_70 : zD m_X8_roundsOf 70 (.aload_n 0) 1 71 := ⟨eg_X8_roundsOf_32.2.2.2.2.2.1, rfl⟩
theorem d_X8_roundsOf_71 : zD m_X8_roundsOf 71 (.iload_n 1) 1 72 := ⟨eg_X8_roundsOf_32.2.2.2.2.2.2.1, rfl⟩
theorem d_X8_roundsOf_72 : zD m_X8_roundsOf 72 (.invokevirtual 305) 3 75 := ⟨eg_X8_roundsOf_32.2.2.2.2.2.2.2, rfl⟩
theorem d_X8_roundsOf_75 : zD m_X8_roundsOf 75 (.lconst 0) 1 76 := ⟨eg_X8_roundsOf_40.1, rfl⟩
theorem d_X8_roundsOf_76 : zD m_X8_roundsOf 76 (.lstore 5) 2 78 := ⟨eg_X8_roundsOf_40.2.1, rfl⟩
theorem d_X8_roundsOf_78 : zD m_X8_roundsOf 78 (.iconst 0) 1 79 := ⟨eg_X8_roundsOf_40.2.2.1, rfl⟩
theorem d_X8_roundsOf_79 : zD m_X8_roundsOf 79 (.istore 7) 2 81 := ⟨eg_X8_roundsOf_40.2.2.2.1, rfl⟩
theorem d_X8_roundsOf_81 : zD m_X8_roundsOf 81 (.iload 7) 2 83 := ⟨eg_X8_roundsOf_40.2.2.2.2.1, rfl⟩
theorem d_X8_roundsOf_83 : zD m_X8_roundsOf 83 (.sipush 201) 3 86 := ⟨eg_X8_roundsOf_40.2.2.2.2.2.1, rfl⟩
theorem d_X8_roundsOf_86 : zDj m_X8_roundsOf 86 (.if_icmp .ge) 89 133 := ⟨47, eg_X8_roundsOf_40.2.2.2.2.2.2.1, rfl, by decide⟩
theorem d_X8_roundsOf_89 : zD m_X8_roundsOf 89 (.lload 5) 2 91 := ⟨eg_X8_roundsOf_40.2.2.2.2.2.2.2, rfl⟩
theorem d_X8_roundsOf_91 : zD m_X8_roundsOf 91 (.aload_n 0) 1 92 := ⟨eg_X8_roundsOf_48.1, rfl⟩
theorem d_X8_roundsOf_92 : zD m_X8_roundsOf 92 (.iload 7) 2 94 := ⟨eg_X8_roundsOf_48.2.1, rfl⟩
theorem d_X8_roundsOf_94 : zD m_X8_roundsOf 94 (.bipush 100) 2 96 := ⟨eg_X8_roundsOf_48.2.2.1, rfl⟩
theorem d_X8_roundsOf_96 : zD m_X8_roundsOf 96 (.isub) 1 97 := ⟨eg_X8_roundsOf_48.2.2.2.1, rfl⟩
theorem d_X8_roundsOf_97 : zD m_X8_roundsOf 97 (.iload 4) 2 99 := ⟨eg_X8_roundsOf_48.2.2.2.2.1, rfl⟩
theorem d_X8_roundsOf_99 : zD m_X8_roundsOf 99 (.isub) 1 100 := ⟨eg_X8_roundsOf_48.2.2.2.2.2.1, rfl⟩
theorem d_X8_roundsOf_100 : zD m_X8_roundsOf 100 (.invokevirtual 302) 3 103 := ⟨eg_X8_roundsOf_48.2.2.2.2.2.2.1, rfl⟩
theorem d_X8_roundsOf_103 : zD m_X8_roundsOf 103 (.iload_n 3) 1 104 := ⟨eg_X8_roundsOf_48.2.2.2.2.2.2.2, rfl⟩
theorem d_X8_roundsOf_104 : zDj m_X8_roundsOf 104 (.if_icmp .ne) 107 123 := ⟨19, eg_X8_roundsOf_56.1, rfl, by decide⟩
theorem d_X8_roundsOf_107 : zD m_X8_roundsOf 107 (.aload_n 0) 1 108 := ⟨eg_X8_roundsOf_56.2.1, rfl⟩
theorem d_X8_roundsOf_108 : zD m_X8_roundsOf 108 (.getfield 57) 3 111 := ⟨eg_X8_roundsOf_56.2.2.1, rfl⟩
theorem d_X8_roundsOf_111 : zD m_X8_roundsOf 111 (.sipush 201) 3 114 := ⟨eg_X8_roundsOf_56.2.2.2.1, rfl⟩
theorem d_X8_roundsOf_114 : zD m_X8_roundsOf 114 (.iload_n 1) 1 115 := ⟨eg_X8_roundsOf_56.2.2.2.2.1, rfl⟩
theorem d_X8_roundsOf_115 : zD m_X8_roundsOf 115 (.imul) 1 116 := ⟨eg_X8_roundsOf_56.2.2.2.2.2.1, rfl⟩
theorem d_X8_roundsOf_116 : zD m_X8_roundsOf 116 (.iload 7) 2 118 := ⟨eg_X8_roundsOf_56.2.2.2.2.2.2.1, rfl⟩
theorem d_X8_roundsOf_118 : zD m_X8_roundsOf 118 (.iadd) 1 119 := ⟨eg_X8_roundsOf_56.2.2.2.2.2.2.2, rfl⟩
theorem d_X8_roundsOf_119 : zD m_X8_roundsOf 119 (.laload) 1 120 := ⟨eg_X8_roundsOf_64.1, rfl⟩
theorem d_X8_roundsOf_120 : zDj m_X8_roundsOf 120 (.goto) 123 124 := ⟨4, eg_X8_roundsOf_64.2.1, rfl, by decide⟩
theorem d_X8_roundsOf_123 : zD m_X8_roundsOf 123 (.lconst 0) 1 124 := ⟨eg_X8_roundsOf_64.2.2.1, rfl⟩
theorem d_X8_roundsOf_124 : zD m_X8_roundsOf 124 (.ladd) 1 125 := ⟨eg_X8_roundsOf_64.2.2.2.1, rfl⟩
theorem d_X8_roundsOf_125 : zD m_X8_roundsOf 125 (.lstore 5) 2 127 := ⟨eg_X8_roundsOf_64.2.2.2.2.1, rfl⟩
theorem d_X8_roundsOf_127 : zD m_X8_roundsOf 127 (.iinc 7 1) 3 130 := ⟨eg_X8_roundsOf_64.2.2.2.2.2.1, rfl⟩
theorem d_X8_roundsOf_130 : zDj m_X8_roundsOf 130 (.goto) 133 81 := ⟨-49, eg_X8_roundsOf_64.2.2.2.2.2.2.1, rfl, by decide⟩
theorem d_X8_roundsOf_133 : zD m_X8_roundsOf 133 (.lload 5) 2 135 := ⟨eg_X8_roundsOf_64.2.2.2.2.2.2.2, rfl⟩
theorem d_X8_roundsOf_135 : decode (zcc m_X8_roundsOf) 135 = .ok (.lreturn, 1) := eg_X8_roundsOf_72
set_option maxRecDepth 20000 in
theorem eg_X8_fewest_0 : decode (zcc m_X8_fewest) 0 = .ok (.iload_n 1, 1) ∧ decode (zcc m_X8_fewest) 1 = .ok (.i2l, 1) ∧ decode (zcc m_X8_fewest) 2 = .ok (.ldc2_w 241, 3) ∧ decode (zcc m_X8_fewest) 5 = .ok (.lconst 1, 1) ∧ decode (zcc m_X8_fewest) 6 = .ok (.invokestatic 92, 3) ∧ decode (zcc m_X8_fewest) 9 = .ok (.ifCond .ne (5), 3) ∧ decode (zcc m_X8_fewest) 12 = .ok (.iconst (-1), 1) ∧ decode (zcc m_X8_fewest) 13 = .ok (.ireturn, 1) := by decide +kernel
set_option maxRecDepth 20000 in
theorem eg_X8_fewest_8 : decode (zcc m_X8_fewest) 14 = .ok (.iconst 0, 1) ∧ decode (zcc m_X8_fewest) 15 = .ok (.istore_n 2, 1) ∧ decode (zcc m_X8_fewest) 16 = .ok (.lconst 0, 1) ∧ decode (zcc m_X8_fewest) 17 = .ok (.lstore_n 3, 1) ∧ decode (zcc m_X8_fewest) 18 = .ok (.lload_n 3, 1) ∧ decode (zcc m_X8_fewest) 19 = .ok (.lconst 0, 1) ∧ decode (zcc m_X8_fewest) 20 = .ok (.lcmp, 1) ∧ decode (zcc m_X8_fewest) 21 = .ok (.ifCond .ne (51), 3) := by decide +kernel
set_option maxRecDepth 20000 in
theorem eg_X8_fewest_16 : decode (zcc m_X8_fewest) 24 = .ok (.iinc 2 1, 3) ∧ decode (zcc m_X8_fewest) 27 = .ok (.iconst 1, 1) ∧ decode (zcc m_X8_fewest) 28 = .ok (.istore 5, 2) ∧ decode (zcc m_X8_fewest) 30 = .ok (.iload 5, 2) ∧ decode (zcc m_X8_fewest) 32 = .ok (.aload_n 0, 1) ∧ decode (zcc m_X8_fewest) 33 = .ok (.invokevirtual 267, 3) ∧ decode (zcc m_X8_fewest) 36 = .ok (.if_icmp .ge (33), 3) ∧ decode (zcc m_X8_fewest) 39 = .ok (.lload_n 3, 1) := by decide +kernel
set_option maxRecDepth 20000 in
theorem eg_X8_fewest_24 : decode (zcc m_X8_fewest) 40 = .ok (.aload_n 0, 1) ∧ decode (zcc m_X8_fewest) 41 = .ok (.iload 5, 2) ∧ decode (zcc m_X8_fewest) 43 = .ok (.invokevirtual 290, 3) ∧ decode (zcc m_X8_fewest) 46 = .ok (.ifCond .eq (14), 3) ∧ decode (zcc m_X8_fewest) 49 = .ok (.aload_n 0, 1) ∧ decode (zcc m_X8_fewest) 50 = .ok (.iload 5, 2) ∧ decode (zcc m_X8_fewest) 52 = .ok (.iload_n 2, 1) ∧ decode (zcc m_X8_fewest) 53 = .ok (.iload_n 1, 1) := by decide +kernel
set_option maxRecDepth 20000 in
theorem eg_X8_fewest_32 : decode (zcc m_X8_fewest) 54 = .ok (.invokevirtual 308, 3) ∧ decode (zcc m_X8_fewest) 57 = .ok (.goto (4), 3) ∧ decode (zcc m_X8_fewest) 60 = .ok (.lconst 0, 1) ∧ decode (zcc m_X8_fewest) 61 = .ok (.ladd, 1) ∧ decode (zcc m_X8_fewest) 62 = .ok (.lstore_n 3, 1) ∧ decode (zcc m_X8_fewest) 63 = .ok (.iinc 5 1, 3) ∧ decode (zcc m_X8_fewest) 66 = .ok (.goto (-36), 3) ∧ decode (zcc m_X8_fewest) 69 = .ok (.goto (-51), 3) := by decide +kernel
set_option maxRecDepth 20000 in
theorem eg_X8_fewest_40 : decode (zcc m_X8_fewest) 72 = .ok (.iload_n 2, 1) ∧ decode (zcc m_X8_fewest) 73 = .ok (.ireturn, 1) := by decide +kernel
theorem d_X8_fewest_0 : zD m_X8_fewest 0 (.iload_n 1) 1 1 := ⟨eg_X8_fewest_0.1, rfl⟩
theorem d_X8_fewest_1 : zD m_X8_fewest 1 (.i2l) 1 2 := ⟨eg_X8_fewest_0.2.1, rfl⟩
theorem d_X8_fewest_2 : zD m_X8_fewest 2 (.ldc2_w 241) 3 5 := ⟨eg_X8_fewest_0.2.2.1, rfl⟩
theorem d_X8_fewest_5 : zD m_X8_fewest 5 (.lconst 1) 1 6 := ⟨eg_X8_fewest_0.2.2.2.1, rfl⟩
theorem d_X8_fewest_6 : zD m_X8_fewest 6 (.invokestatic 92) 3 9 := ⟨eg_X8_fewest_0.2.2.2.2.1, rfl⟩
theorem d_X8_fewest_9 : zDj m_X8_fewest 9 (.ifCond .ne) 12 14 := ⟨5, eg_X8_fewest_0.2.2.2.2.2.1, rfl, by decide⟩
theorem d_X8_fewest_12 : zD m_X8_fewest 12 (.iconst (-1)) 1 13 := ⟨eg_X8_fewest_0.2.2.2.2.2.2.1, rfl⟩
theorem d_X8_fewest_13 : decode (zcc m_X8_fewest) 13 = .ok (.ireturn, 1) := eg_X8_fewest_0.2.2.2.2.2.2.2
theorem d_X8_fewest_14 : zD m_X8_fewest 14 (.iconst 0) 1 15 := ⟨eg_X8_fewest_8.1, rfl⟩
theorem d_X8_fewest_15 : zD m_X8_fewest 15 (.istore_n 2) 1 16 := ⟨eg_X8_fewest_8.2.1, rfl⟩
theorem d_X8_fewest_16 : zD m_X8_fewest 16 (.lconst 0) 1 17 := ⟨eg_X8_fewest_8.2.2.1, rfl⟩
theorem d_X8_fewest_17 : zD m_X8_fewest 17 (.lstore_n 3) 1 18 := ⟨eg_X8_fewest_8.2.2.2.1, rfl⟩
theorem d_X8_fewest_18 : zD m_X8_fewest 18 (.lload_n 3) 1 19 := ⟨eg_X8_fewest_8.2.2.2.2.1, rfl⟩
theorem d_X8_fewest_19 : zD m_X8_fewest 19 (.lconst 0) 1 20 := ⟨eg_X8_fewest_8.2.2.2.2.2.1, rfl⟩
theorem d_X8_fewest_20 : zD m_X8_fewest 20 (.lcmp) 1 21 := ⟨eg_X8_fewest_8.2.2.2.2.2.2.1, rfl⟩
theorem d_X8_fewest_21 : zDj m_X8_fewest 21 (.ifCond .ne) 24 72 := ⟨51, eg_X8_fewest_8.2.2.2.2.2.2.2, rfl, by decide⟩
theorem d_X8_fewest_24 : zD m_X8_fewest 24 (.iinc 2 1) 3 27 := ⟨eg_X8_fewest_16.1, rfl⟩
theorem d_X8_fewest_27 : zD m_X8_fewest 27 (.iconst 1) 1 28 := ⟨eg_X8_fewest_16.2.1, rfl⟩
theorem d_X8_fewest_28 : zD m_X8_fewest 28 (.istore 5) 2 30 := ⟨eg_X8_fewest_16.2.2.1, rfl⟩
theorem d_X8_fewest_30 : zD m_X8_fewest 30 (.iload 5) 2 32 := ⟨eg_X8_fewest_16.2.2.2.1, rfl⟩
theorem d_X8_fewest_32 : zD m_X8_fewest 32 (.aload_n 0) 1 33 := ⟨eg_X8_fewest_16.2.2.2.2.1, rfl⟩
theorem d_X8_fewest_33 : zD m_X8_fewest 33 (.invokevirtual 267) 3 36 := ⟨eg_X8_fewest_16.2.2.2.2.2.1, rfl⟩
theorem d_X8_fewest_36 : zDj m_X8_fewest 36 (.if_icmp .ge) 39 69 := ⟨33, eg_X8_fewest_16.2.2.2.2.2.2.1, rfl, by decide⟩
theorem d_X8_fewest_39 : zD m_X8_fewest 39 (.lload_n 3) 1 40 := ⟨eg_X8_fewest_16.2.2.2.2.2.2.2, rfl⟩
theorem d_X8_fewest_40 : zD m_X8_fewest 40 (.aload_n 0) 1 41 := ⟨eg_X8_fewest_24.1, rfl⟩
theorem d_X8_fewest_41 : zD m_X8_fewest 41 (.iload 5) 2 43 := ⟨eg_X8_fewest_24.2.1, rfl⟩
theorem d_X8_fewest_43 : zD m_X8_fewest 43 (.invokevirtual 290) 3 46 := ⟨eg_X8_fewest_24.2.2.1, rfl⟩
theorem d_X8_fewest_46 : zDj m_X8_fewest 46 (.ifCond .eq) 49 60 := ⟨14, eg_X8_fewest_24.2.2.2.1, rfl, by decide⟩
theorem d_X8_fewest_49 : zD m_X8_fewest 49 (.aload_n 0) 1 50 := ⟨eg_X8_fewest_24.2.2.2.2.1, rfl⟩
theorem d_X8_fewest_50 : zD m_X8_fewest 50 (.iload 5) 2 52 := ⟨eg_X8_fewest_24.2.2.2.2.2.1, rfl⟩
theorem d_X8_fewest_52 : zD m_X8_fewest 52 (.iload_n 2) 1 53 := ⟨eg_X8_fewest_24.2.2.2.2.2.2.1, rfl⟩
theorem d_X8_fewest_53 : zD m_X8_fewest 53 (.iload_n 1) 1 54 := ⟨eg_X8_fewest_24.2.2.2.2.2.2.2, rfl⟩
theorem d_X8_fewest_54 : zD m_X8_fewest 54 (.invokevirtual 308) 3 57 := ⟨eg_X8_fewest_32.1, rfl⟩
theorem d_X8_fewest_57 : zDj m_X8_fewest 57 (.goto) 60 61 := ⟨4, eg_X8_fewest_32.2.1, rfl, by decide⟩
theorem d_X8_fewest_60 : zD m_X8_fewest 60 (.lconst 0) 1 61 := ⟨eg_X8_fewest_32.2.2.1, rfl⟩
theorem d_X8_fewest_61 : zD m_X8_fewest 61 (.ladd) 1 62 := ⟨eg_X8_fewest_32.2.2.2.1, rfl⟩
theorem d_X8_fewest_62 : zD m_X8_fewest 62 (.lstore_n 3) 1 63 := ⟨eg_X8_fewest_32.2.2.2.2.1, rfl⟩
theorem d_X8_fewest_63 : zD m_X8_fewest 63 (.iinc 5 1) 3 66 := ⟨eg_X8_fewest_32.2.2.2.2.2.1, rfl⟩
theorem d_X8_fewest_66 : zDj m_X8_fewest 66 (.goto) 69 30 := ⟨-36, eg_X8_fewest_32.2.2.2.2.2.2.1, rfl, by decide⟩
theorem d_X8_fewest_69 : zDj m_X8_fewest 69 (.goto) 72 18 := ⟨-51, eg_X8_fewest_32.2.2.2.2.2.2.2, rfl, by decide⟩
theorem d_X8_fewest_72 : zD m_X8_fewest 72 (.iload_n 2) 1 73 := ⟨eg_X8_fewest_40.1, rfl⟩
theorem d_X8_fewest_73 : decode (zcc m_X8_fewest) 73 = .ok (.ireturn, 1) := eg_X8_fewest_40.2
set_option maxRecDepth 20000 in
theorem eg_X8_rounds_0 : decode (zcc m_X8_rounds) 0 = .ok (.aload_n 0, 1) ∧ decode (zcc m_X8_rounds) 1 = .ok (.iload_n 1, 1) ∧ decode (zcc m_X8_rounds) 2 = .ok (.invokevirtual 285, 3) ∧ decode (zcc m_X8_rounds) 5 = .ok (.ifCond .eq (29), 3) ∧ decode (zcc m_X8_rounds) 8 = .ok (.iload_n 2, 1) ∧ decode (zcc m_X8_rounds) 9 = .ok (.i2l, 1) ∧ decode (zcc m_X8_rounds) 10 = .ok (.lconst 1, 1) ∧ decode (zcc m_X8_rounds) 11 = .ok (.ldc2_w 312, 3) := by decide +kernel
set_option maxRecDepth 20000 in
theorem eg_X8_rounds_8 : decode (zcc m_X8_rounds) 14 = .ok (.invokestatic 92, 3) ∧ decode (zcc m_X8_rounds) 17 = .ok (.ifCond .eq (17), 3) ∧ decode (zcc m_X8_rounds) 20 = .ok (.iload_n 3, 1) ∧ decode (zcc m_X8_rounds) 21 = .ok (.i2l, 1) ∧ decode (zcc m_X8_rounds) 22 = .ok (.ldc2_w 314, 3) ∧ decode (zcc m_X8_rounds) 25 = .ok (.ldc2_w 252, 3) ∧ decode (zcc m_X8_rounds) 28 = .ok (.invokestatic 92, 3) ∧ decode (zcc m_X8_rounds) 31 = .ok (.ifCond .ne (7), 3) := by decide +kernel
set_option maxRecDepth 20000 in
theorem eg_X8_rounds_16 : decode (zcc m_X8_rounds) 34 = .ok (.ldc2_w 241, 3) ∧ decode (zcc m_X8_rounds) 37 = .ok (.lreturn, 1) ∧ decode (zcc m_X8_rounds) 38 = .ok (.aload_n 0, 1) ∧ decode (zcc m_X8_rounds) 39 = .ok (.iload_n 1, 1) ∧ decode (zcc m_X8_rounds) 40 = .ok (.invokevirtual 290, 3) ∧ decode (zcc m_X8_rounds) 43 = .ok (.ifCond .eq (13), 3) ∧ decode (zcc m_X8_rounds) 46 = .ok (.aload_n 0, 1) ∧ decode (zcc m_X8_rounds) 47 = .ok (.iload_n 1, 1) := by decide +kernel
set_option maxRecDepth 20000 in
theorem eg_X8_rounds_24 : decode (zcc m_X8_rounds) 48 = .ok (.iload_n 2, 1) ∧ decode (zcc m_X8_rounds) 49 = .ok (.iload_n 3, 1) ∧ decode (zcc m_X8_rounds) 50 = .ok (.invokevirtual 308, 3) ∧ decode (zcc m_X8_rounds) 53 = .ok (.goto (4), 3) ∧ decode (zcc m_X8_rounds) 56 = .ok (.lconst 0, 1) ∧ decode (zcc m_X8_rounds) 57 = .ok (.lreturn, 1) := by decide +kernel
theorem d_X8_rounds_0 : zD m_X8_rounds 0 (.aload_n 0) 1 1 := ⟨eg_X8_rounds_0.1, rfl⟩
theorem d_X8_rounds_1 : zD m_X8_rounds 1 (.iload_n 1) 1 2 := ⟨eg_X8_rounds_0.2.1, rfl⟩
theorem d_X8_rounds_2 : zD m_X8_rounds 2 (.invokevirtual 285) 3 5 := ⟨eg_X8_rounds_0.2.2.1, rfl⟩
theorem d_X8_rounds_5 : zDj m_X8_rounds 5 (.ifCond .eq) 8 34 := ⟨29, eg_X8_rounds_0.2.2.2.1, rfl, by decide⟩
theorem d_X8_rounds_8 : zD m_X8_rounds 8 (.iload_n 2) 1 9 := ⟨eg_X8_rounds_0.2.2.2.2.1, rfl⟩
theorem d_X8_rounds_9 : zD m_X8_rounds 9 (.i2l) 1 10 := ⟨eg_X8_rounds_0.2.2.2.2.2.1, rfl⟩
theorem d_X8_rounds_10 : zD m_X8_rounds 10 (.lconst 1) 1 11 := ⟨eg_X8_rounds_0.2.2.2.2.2.2.1, rfl⟩
theorem d_X8_rounds_11 : zD m_X8_rounds 11 (.ldc2_w 312) 3 14 := ⟨eg_X8_rounds_0.2.2.2.2.2.2.2, rfl⟩
theorem d_X8_rounds_14 : zD m_X8_rounds 14 (.invokestatic 92) 3 17 := ⟨eg_X8_rounds_8.1, rfl⟩
theorem d_X8_rounds_17 : zDj m_X8_rounds 17 (.ifCond .eq) 20 34 := ⟨17, eg_X8_rounds_8.2.1, rfl, by decide⟩
theorem d_X8_rounds_20 : zD m_X8_rounds 20 (.iload_n 3) 1 21 := ⟨eg_X8_rounds_8.2.2.1, rfl⟩
theorem d_X8_rounds_21 : zD m_X8_rounds 21 (.i2l) 1 22 := ⟨eg_X8_rounds_8.2.2.2.1, rfl⟩
theorem d_X8_rounds_22 : zD m_X8_rounds 22 (.ldc2_w 314) 3 25 := ⟨eg_X8_rounds_8.2.2.2.2.1, rfl⟩
theorem d_X8_rounds_25 : zD m_X8_rounds 25 (.ldc2_w 252) 3 28 := ⟨eg_X8_rounds_8.2.2.2.2.2.1, rfl⟩
theorem d_X8_rounds_28 : zD m_X8_rounds 28 (.invokestatic 92) 3 31 := ⟨eg_X8_rounds_8.2.2.2.2.2.2.1, rfl⟩
theorem d_X8_rounds_31 : zDj m_X8_rounds 31 (.ifCond .ne) 34 38 := ⟨7, eg_X8_rounds_8.2.2.2.2.2.2.2, rfl, by decide⟩
theorem d_X8_rounds_34 : zD m_X8_rounds 34 (.ldc2_w 241) 3 37 := ⟨eg_X8_rounds_16.1, rfl⟩
theorem d_X8_rounds_37 : decode (zcc m_X8_rounds) 37 = .ok (.lreturn, 1) := eg_X8_rounds_16.2.1
theorem d_X8_rounds_38 : zD m_X8_rounds 38 (.aload_n 0) 1 39 := ⟨eg_X8_rounds_16.2.2.1, rfl⟩
theorem d_X8_rounds_39 : zD m_X8_rounds 39 (.iload_n 1) 1 40 := ⟨eg_X8_rounds_16.2.2.2.1, rfl⟩
theorem d_X8_rounds_40 : zD m_X8_rounds 40 (.invokevirtual 290) 3 43 := ⟨eg_X8_rounds_16.2.2.2.2.1, rfl⟩
theorem d_X8_rounds_43 : zDj m_X8_rounds 43 (.ifCond .eq) 46 56 := ⟨13, eg_X8_rounds_16.2.2.2.2.2.1, rfl, by decide⟩
theorem d_X8_rounds_46 : zD m_X8_rounds 46 (.aload_n 0) 1 47 := ⟨eg_X8_rounds_16.2.2.2.2.2.2.1, rfl⟩
theorem d_X8_rounds_47 : zD m_X8_rounds 47 (.iload_n 1) 1 48 := ⟨eg_X8_rounds_16.2.2.2.2.2.2.2, rfl⟩
theorem d_X8_rounds_48 : zD m_X8_rounds 48 (.iload_n 2) 1 49 := ⟨eg_X8_rounds_24.1, rfl⟩
theorem d_X8_rounds_49 : zD m_X8_rounds 49 (.iload_n 3) 1 50 := ⟨eg_X8_rounds_24.2.1, rfl⟩
theorem d_X8_rounds_50 : zD m_X8_rounds 50 (.invokevirtual 308) 3 53 := ⟨eg_X8_rounds_24.2.2.1, rfl⟩
theorem d_X8_rounds_53 : zDj m_X8_rounds 53 (.goto) 56 57 := ⟨4, eg_X8_rounds_24.2.2.2.1, rfl, by decide⟩
theorem d_X8_rounds_56 : zD m_X8_rounds 56 (.lconst 0) 1 57 := ⟨eg_X8_rounds_24.2.2.2.2.1, rfl⟩
theorem d_X8_rounds_57 : decode (zcc m_X8_rounds) 57 = .ok (.lreturn, 1) := eg_X8_rounds_24.2.2.2.2.2
set_option maxRecDepth 20000 in
theorem eg_X8_keep_0 : decode (zcc m_X8_keep) 0 = .ok (.iload_n 1, 1) ∧ decode (zcc m_X8_keep) 1 = .ok (.i2l, 1) ∧ decode (zcc m_X8_keep) 2 = .ok (.lconst 0, 1) ∧ decode (zcc m_X8_keep) 3 = .ok (.lconst 1, 1) ∧ decode (zcc m_X8_keep) 4 = .ok (.invokestatic 92, 3) ∧ decode (zcc m_X8_keep) 7 = .ok (.ifCond .ne (5), 3) ∧ decode (zcc m_X8_keep) 10 = .ok (.iconst (-1), 1) ∧ decode (zcc m_X8_keep) 11 = .ok (.ireturn, 1) := by decide +kernel
set_option maxRecDepth 20000 in
theorem eg_X8_keep_8 : decode (zcc m_X8_keep) 12 = .ok (.aload_n 0, 1) ∧ decode (zcc m_X8_keep) 13 = .ok (.getfield 17, 3) ∧ decode (zcc m_X8_keep) 16 = .ok (.iload_n 1, 1) ∧ decode (zcc m_X8_keep) 17 = .ok (.baload, 1) ∧ decode (zcc m_X8_keep) 18 = .ok (.invokestatic 237, 3) ∧ decode (zcc m_X8_keep) 21 = .ok (.istore_n 2, 1) ∧ decode (zcc m_X8_keep) 22 = .ok (.aload_n 0, 1) ∧ decode (zcc m_X8_keep) 23 = .ok (.getfield 17, 3) := by decide +kernel
set_option maxRecDepth 20000 in
theorem eg_X8_keep_16 : decode (zcc m_X8_keep) 26 = .ok (.iload_n 1, 1) ∧ decode (zcc m_X8_keep) 27 = .ok (.iconst 1, 1) ∧ decode (zcc m_X8_keep) 28 = .ok (.bastore, 1) ∧ decode (zcc m_X8_keep) 29 = .ok (.aload_n 0, 1) ∧ decode (zcc m_X8_keep) 30 = .ok (.sipush 160, 3) ∧ decode (zcc m_X8_keep) 33 = .ok (.sipush 160, 3) ∧ decode (zcc m_X8_keep) 36 = .ok (.iload_n 1, 1) ∧ decode (zcc m_X8_keep) 37 = .ok (.imul, 1) := by decide +kernel
set_option maxRecDepth 20000 in
theorem eg_X8_keep_24 : decode (zcc m_X8_keep) 38 = .ok (.iadd, 1) ∧ decode (zcc m_X8_keep) 39 = .ok (.iconst 0, 1) ∧ decode (zcc m_X8_keep) 40 = .ok (.invokevirtual 243, 3) ∧ decode (zcc m_X8_keep) 43 = .ok (.iload_n 2, 1) ∧ decode (zcc m_X8_keep) 44 = .ok (.ireturn, 1) := by decide +kernel
theorem d_X8_keep_0 : zD m_X8_keep 0 (.iload_n 1) 1 1 := ⟨eg_X8_keep_0.1, rfl⟩
theorem d_X8_keep_1 : zD m_X8_keep 1 (.i2l) 1 2 := ⟨eg_X8_keep_0.2.1, rfl⟩
theorem d_X8_keep_2 : zD m_X8_keep 2 (.lconst 0) 1 3 := ⟨eg_X8_keep_0.2.2.1, rfl⟩
theorem d_X8_keep_3 : zD m_X8_keep 3 (.lconst 1) 1 4 := ⟨eg_X8_keep_0.2.2.2.1, rfl⟩
theorem d_X8_keep_4 : zD m_X8_keep 4 (.invokestatic 92) 3 7 := ⟨eg_X8_keep_0.2.2.2.2.1, rfl⟩
theorem d_X8_keep_7 : zDj m_X8_keep 7 (.ifCond .ne) 10 12 := ⟨5, eg_X8_keep_0.2.2.2.2.2.1, rfl, by decide⟩
theorem d_X8_keep_10 : zD m_X8_keep 10 (.iconst (-1)) 1 11 := ⟨eg_X8_keep_0.2.2.2.2.2.2.1, rfl⟩
theorem d_X8_keep_11 : decode (zcc m_X8_keep) 11 = .ok (.ireturn, 1) := eg_X8_keep_0.2.2.2.2.2.2.2
theorem d_X8_keep_12 : zD m_X8_keep 12 (.aload_n 0) 1 13 := ⟨eg_X8_keep_8.1, rfl⟩
theorem d_X8_keep_13 : zD m_X8_keep 13 (.getfield 17) 3 16 := ⟨eg_X8_keep_8.2.1, rfl⟩
theorem d_X8_keep_16 : zD m_X8_keep 16 (.iload_n 1) 1 17 := ⟨eg_X8_keep_8.2.2.1, rfl⟩
theorem d_X8_keep_17 : zD m_X8_keep 17 (.baload) 1 18 := ⟨eg_X8_keep_8.2.2.2.1, rfl⟩
theorem d_X8_keep_18 : zD m_X8_keep 18 (.invokestatic 237) 3 21 := ⟨eg_X8_keep_8.2.2.2.2.1, rfl⟩
theorem d_X8_keep_21 : zD m_X8_keep 21 (.istore_n 2) 1 22 := ⟨eg_X8_keep_8.2.2.2.2.2.1, rfl⟩
theorem d_X8_keep_22 : zD m_X8_keep 22 (.aload_n 0) 1 23 := ⟨eg_X8_keep_8.2.2.2.2.2.2.1, rfl⟩
theorem d_X8_keep_23 : zD m_X8_keep 23 (.getfield 17) 3 26 := ⟨eg_X8_keep_8.2.2.2.2.2.2.2, rfl⟩
theorem d_X8_keep_26 : zD m_X8_keep 26 (.iload_n 1) 1 27 := ⟨eg_X8_keep_16.1, rfl⟩
theorem d_X8_keep_27 : zD m_X8_keep 27 (.iconst 1) 1 28 := ⟨eg_X8_keep_16.2.1, rfl⟩
theorem d_X8_keep_28 : zD m_X8_keep 28 (.bastore) 1 29 := ⟨eg_X8_keep_16.2.2.1, rfl⟩
theorem d_X8_keep_29 : zD m_X8_keep 29 (.aload_n 0) 1 30 := ⟨eg_X8_keep_16.2.2.2.1, rfl⟩
theorem d_X8_keep_30 : zD m_X8_keep 30 (.sipush 160) 3 33 := ⟨eg_X8_keep_16.2.2.2.2.1, rfl⟩
theorem d_X8_keep_33 : zD m_X8_keep 33 (.sipush 160) 3 36 := ⟨eg_X8_keep_16.2.2.2.2.2.1, rfl⟩
theorem d_X8_keep_36 : zD m_X8_keep 36 (.iload_n 1) 1 37 := ⟨eg_X8_keep_16.2.2.2.2.2.2.1, rfl⟩
theorem d_X8_keep_37 : zD m_X8_keep 37 (.imul) 1 38 := ⟨eg_X8_keep_16.2.2.2.2.2.2.2, rfl⟩
theorem d_X8_keep_38 : zD m_X8_keep 38 (.iadd) 1 39 := ⟨eg_X8_keep_24.1, rfl⟩
theorem d_X8_keep_39 : zD m_X8_keep 39 (.iconst 0) 1 40 := ⟨eg_X8_keep_24.2.1, rfl⟩
theorem d_X8_keep_40 : zD m_X8_keep 40 (.invokevirtual 243) 3 43 := ⟨eg_X8_keep_24.2.2.1, rfl⟩
theorem d_X8_keep_43 : zD m_X8_keep 43 (.iload_n 2) 1 44 := ⟨eg_X8_keep_24.2.2.2.1, rfl⟩
theorem d_X8_keep_44 : decode (zcc m_X8_keep) 44 = .ok (.ireturn, 1) := eg_X8_keep_24.2.2.2.2
set_option maxRecDepth 20000 in
theorem eg_X8_back_0 : decode (zcc m_X8_back) 0 = .ok (.iload_n 1, 1) ∧ decode (zcc m_X8_back) 1 = .ok (.i2l, 1) ∧ decode (zcc m_X8_back) 2 = .ok (.lconst 0, 1) ∧ decode (zcc m_X8_back) 3 = .ok (.lconst 1, 1) ∧ decode (zcc m_X8_back) 4 = .ok (.invokestatic 92, 3) ∧ decode (zcc m_X8_back) 7 = .ok (.ifCond .ne (5), 3) ∧ decode (zcc m_X8_back) 10 = .ok (.iconst (-1), 1) ∧ decode (zcc m_X8_back) 11 = .ok (.ireturn, 1) := by decide +kernel
set_option maxRecDepth 20000 in
theorem eg_X8_back_8 : decode (zcc m_X8_back) 12 = .ok (.aload_n 0, 1) ∧ decode (zcc m_X8_back) 13 = .ok (.getfield 17, 3) ∧ decode (zcc m_X8_back) 16 = .ok (.iload_n 1, 1) ∧ decode (zcc m_X8_back) 17 = .ok (.baload, 1) ∧ decode (zcc m_X8_back) 18 = .ok (.ifCond .ne (6), 3) ∧ decode (zcc m_X8_back) 21 = .ok (.bipush (-2), 2) ∧ decode (zcc m_X8_back) 23 = .ok (.ireturn, 1) ∧ decode (zcc m_X8_back) 24 = .ok (.aload_n 0, 1) := by decide +kernel
set_option maxRecDepth 20000 in
theorem eg_X8_back_16 : decode (zcc m_X8_back) 25 = .ok (.iconst 0, 1) ∧ decode (zcc m_X8_back) 26 = .ok (.sipush 160, 3) ∧ decode (zcc m_X8_back) 29 = .ok (.sipush 160, 3) ∧ decode (zcc m_X8_back) 32 = .ok (.iload_n 1, 1) ∧ decode (zcc m_X8_back) 33 = .ok (.imul, 1) ∧ decode (zcc m_X8_back) 34 = .ok (.iadd, 1) ∧ decode (zcc m_X8_back) 35 = .ok (.invokevirtual 243, 3) ∧ decode (zcc m_X8_back) 38 = .ok (.aload_n 0, 1) := by decide +kernel
set_option maxRecDepth 20000 in
theorem eg_X8_back_24 : decode (zcc m_X8_back) 39 = .ok (.iconst 0, 1) ∧ decode (zcc m_X8_back) 40 = .ok (.bipush 48, 2) ∧ decode (zcc m_X8_back) 42 = .ok (.invokevirtual 213, 3) ∧ decode (zcc m_X8_back) 45 = .ok (.ireturn, 1) := by decide +kernel
theorem d_X8_back_0 : zD m_X8_back 0 (.iload_n 1) 1 1 := ⟨eg_X8_back_0.1, rfl⟩
theorem d_X8_back_1 : zD m_X8_back 1 (.i2l) 1 2 := ⟨eg_X8_back_0.2.1, rfl⟩
theorem d_X8_back_2 : zD m_X8_back 2 (.lconst 0) 1 3 := ⟨eg_X8_back_0.2.2.1, rfl⟩
theorem d_X8_back_3 : zD m_X8_back 3 (.lconst 1) 1 4 := ⟨eg_X8_back_0.2.2.2.1, rfl⟩
theorem d_X8_back_4 : zD m_X8_back 4 (.invokestatic 92) 3 7 := ⟨eg_X8_back_0.2.2.2.2.1, rfl⟩
theorem d_X8_back_7 : zDj m_X8_back 7 (.ifCond .ne) 10 12 := ⟨5, eg_X8_back_0.2.2.2.2.2.1, rfl, by decide⟩
theorem d_X8_back_10 : zD m_X8_back 10 (.iconst (-1)) 1 11 := ⟨eg_X8_back_0.2.2.2.2.2.2.1, rfl⟩
theorem d_X8_back_11 : decode (zcc m_X8_back) 11 = .ok (.ireturn, 1) := eg_X8_back_0.2.2.2.2.2.2.2
theorem d_X8_back_12 : zD m_X8_back 12 (.aload_n 0) 1 13 := ⟨eg_X8_back_8.1, rfl⟩
theorem d_X8_back_13 : zD m_X8_back 13 (.getfield 17) 3 16 := ⟨eg_X8_back_8.2.1, rfl⟩
theorem d_X8_back_16 : zD m_X8_back 16 (.iload_n 1) 1 17 := ⟨eg_X8_back_8.2.2.1, rfl⟩
theorem d_X8_back_17 : zD m_X8_back 17 (.baload) 1 18 := ⟨eg_X8_back_8.2.2.2.1, rfl⟩
theorem d_X8_back_18 : zDj m_X8_back 18 (.ifCond .ne) 21 24 := ⟨6, eg_X8_back_8.2.2.2.2.1, rfl, by decide⟩
theorem d_X8_back_21 : zD m_X8_back 21 (.bipush (-2)) 2 23 := ⟨eg_X8_back_8.2.2.2.2.2.1, rfl⟩
theorem d_X8_back_23 : decode (zcc m_X8_back) 23 = .ok (.ireturn, 1) := eg_X8_back_8.2.2.2.2.2.2.1
theorem d_X8_back_24 : zD m_X8_back 24 (.aload_n 0) 1 25 := ⟨eg_X8_back_8.2.2.2.2.2.2.2, rfl⟩
theorem d_X8_back_25 : zD m_X8_back 25 (.iconst 0) 1 26 := ⟨eg_X8_back_16.1, rfl⟩
theorem d_X8_back_26 : zD m_X8_back 26 (.sipush 160) 3 29 := ⟨eg_X8_back_16.2.1, rfl⟩
theorem d_X8_back_29 : zD m_X8_back 29 (.sipush 160) 3 32 := ⟨eg_X8_back_16.2.2.1, rfl⟩
theorem d_X8_back_32 : zD m_X8_back 32 (.iload_n 1) 1 33 := ⟨eg_X8_back_16.2.2.2.1, rfl⟩
theorem d_X8_back_33 : zD m_X8_back 33 (.imul) 1 34 := ⟨eg_X8_back_16.2.2.2.2.1, rfl⟩
theorem d_X8_back_34 : zD m_X8_back 34 (.iadd) 1 35 := ⟨eg_X8_back_16.2.2.2.2.2.1, rfl⟩
theorem d_X8_back_35 : zD m_X8_back 35 (.invokevirtual 243) 3 38 := ⟨eg_X8_back_16.2.2.2.2.2.2.1, rfl⟩
theorem d_X8_back_38 : zD m_X8_back 38 (.aload_n 0) 1 39 := ⟨eg_X8_back_16.2.2.2.2.2.2.2, rfl⟩
theorem d_X8_back_39 : zD m_X8_back 39 (.iconst 0) 1 40 := ⟨eg_X8_back_24.1, rfl⟩
theorem d_X8_back_40 : zD m_X8_back 40 (.bipush 48) 2 42 := ⟨eg_X8_back_24.2.1, rfl⟩
theorem d_X8_back_42 : zD m_X8_back 42 (.invokevirtual 213) 3 45 := ⟨eg_X8_back_24.2.2.1, rfl⟩
theorem d_X8_back_45 : decode (zcc m_X8_back) 45 = .ok (.ireturn, 1) := eg_X8_back_24.2.2.2
set_option maxRecDepth 20000 in
theorem eg_X8_isSheet_0 : decode (zcc m_X8_isSheet) 0 = .ok (.iload_n 0, 1) ∧ decode (zcc m_X8_isSheet) 1 = .ok (.i2l, 1) ∧ decode (zcc m_X8_isSheet) 2 = .ok (.lconst 0, 1) ∧ decode (zcc m_X8_isSheet) 3 = .ok (.ldc2_w 252, 3) ∧ decode (zcc m_X8_isSheet) 6 = .ok (.invokestatic 92, 3) ∧ decode (zcc m_X8_isSheet) 9 = .ok (.ifCond .eq (19), 3) ∧ decode (zcc m_X8_isSheet) 12 = .ok (.iload_n 1, 1) ∧ decode (zcc m_X8_isSheet) 13 = .ok (.i2l, 1) := by decide +kernel
set_option maxRecDepth 20000 in
theorem eg_X8_isSheet_8 : decode (zcc m_X8_isSheet) 14 = .ok (.lconst 0, 1) ∧ decode (zcc m_X8_isSheet) 15 = .ok (.ldc2_w 288, 3) ∧ decode (zcc m_X8_isSheet) 18 = .ok (.invokestatic 92, 3) ∧ decode (zcc m_X8_isSheet) 21 = .ok (.ifCond .eq (7), 3) ∧ decode (zcc m_X8_isSheet) 24 = .ok (.iconst 1, 1) ∧ decode (zcc m_X8_isSheet) 25 = .ok (.goto (4), 3) ∧ decode (zcc m_X8_isSheet) 28 = .ok (.iconst 0, 1) ∧ decode (zcc m_X8_isSheet) 29 = .ok (.ireturn, 1) := by decide +kernel
theorem d_X8_isSheet_0 : zD m_X8_isSheet 0 (.iload_n 0) 1 1 := ⟨eg_X8_isSheet_0.1, rfl⟩
theorem d_X8_isSheet_1 : zD m_X8_isSheet 1 (.i2l) 1 2 := ⟨eg_X8_isSheet_0.2.1, rfl⟩
theorem d_X8_isSheet_2 : zD m_X8_isSheet 2 (.lconst 0) 1 3 := ⟨eg_X8_isSheet_0.2.2.1, rfl⟩
theorem d_X8_isSheet_3 : zD m_X8_isSheet 3 (.ldc2_w 252) 3 6 := ⟨eg_X8_isSheet_0.2.2.2.1, rfl⟩
theorem d_X8_isSheet_6 : zD m_X8_isSheet 6 (.invokestatic 92) 3 9 := ⟨eg_X8_isSheet_0.2.2.2.2.1, rfl⟩
theorem d_X8_isSheet_9 : zDj m_X8_isSheet 9 (.ifCond .eq) 12 28 := ⟨19, eg_X8_isSheet_0.2.2.2.2.2.1, rfl, by decide⟩
theorem d_X8_isSheet_12 : zD m_X8_isSheet 12 (.iload_n 1) 1 13 := ⟨eg_X8_isSheet_0.2.2.2.2.2.2.1, rfl⟩
theorem d_X8_isSheet_13 : zD m_X8_isSheet 13 (.i2l) 1 14 := ⟨eg_X8_isSheet_0.2.2.2.2.2.2.2, rfl⟩
theorem d_X8_isSheet_14 : zD m_X8_isSheet 14 (.lconst 0) 1 15 := ⟨eg_X8_isSheet_8.1, rfl⟩
theorem d_X8_isSheet_15 : zD m_X8_isSheet 15 (.ldc2_w 288) 3 18 := ⟨eg_X8_isSheet_8.2.1, rfl⟩
theorem d_X8_isSheet_18 : zD m_X8_isSheet 18 (.invokestatic 92) 3 21 := ⟨eg_X8_isSheet_8.2.2.1, rfl⟩
theorem d_X8_isSheet_21 : zDj m_X8_isSheet 21 (.ifCond .eq) 24 28 := ⟨7, eg_X8_isSheet_8.2.2.2.1, rfl, by decide⟩
theorem d_X8_isSheet_24 : zD m_X8_isSheet 24 (.iconst 1) 1 25 := ⟨eg_X8_isSheet_8.2.2.2.2.1, rfl⟩
theorem d_X8_isSheet_25 : zDj m_X8_isSheet 25 (.goto) 28 29 := ⟨4, eg_X8_isSheet_8.2.2.2.2.2.1, rfl, by decide⟩
theorem d_X8_isSheet_28 : zD m_X8_isSheet 28 (.iconst 0) 1 29 := ⟨eg_X8_isSheet_8.2.2.2.2.2.2.1, rfl⟩
theorem d_X8_isSheet_29 : decode (zcc m_X8_isSheet) 29 = .ok (.ireturn, 1) := eg_X8_isSheet_8.2.2.2.2.2.2.2
set_option maxRecDepth 20000 in
theorem eg_X8_sheet_0 : decode (zcc m_X8_sheet) 0 = .ok (.iload_n 1, 1) ∧ decode (zcc m_X8_sheet) 1 = .ok (.iload_n 2, 1) ∧ decode (zcc m_X8_sheet) 2 = .ok (.invokestatic 316, 3) ∧ decode (zcc m_X8_sheet) 5 = .ok (.ifCond .eq (9), 3) ∧ decode (zcc m_X8_sheet) 8 = .ok (.iload_n 3, 1) ∧ decode (zcc m_X8_sheet) 9 = .ok (.bipush 40, 2) ∧ decode (zcc m_X8_sheet) 11 = .ok (.if_icmp .le (5), 3) ∧ decode (zcc m_X8_sheet) 14 = .ok (.iconst (-1), 1) := by decide +kernel
set_option maxRecDepth 20000 in
theorem eg_X8_sheet_8 : decode (zcc m_X8_sheet) 15 = .ok (.ireturn, 1) ∧ decode (zcc m_X8_sheet) 16 = .ok (.iload_n 3, 1) ∧ decode (zcc m_X8_sheet) 17 = .ok (.ifCond .ge (6), 3) ∧ decode (zcc m_X8_sheet) 20 = .ok (.bipush (-14), 2) ∧ decode (zcc m_X8_sheet) 22 = .ok (.ireturn, 1) ∧ decode (zcc m_X8_sheet) 23 = .ok (.aload_n 0, 1) ∧ decode (zcc m_X8_sheet) 24 = .ok (.getfield 63, 3) ∧ decode (zcc m_X8_sheet) 27 = .ok (.iload_n 1, 1) := by decide +kernel
set_option maxRecDepth 20000 in
theorem eg_X8_sheet_16 : decode (zcc m_X8_sheet) 28 = .ok (.iload_n 2, 1) ∧ decode (zcc m_X8_sheet) 29 = .ok (.iastore, 1) ∧ decode (zcc m_X8_sheet) 30 = .ok (.aload_n 0, 1) ∧ decode (zcc m_X8_sheet) 31 = .ok (.getfield 66, 3) ∧ decode (zcc m_X8_sheet) 34 = .ok (.iload_n 1, 1) ∧ decode (zcc m_X8_sheet) 35 = .ok (.iload_n 3, 1) ∧ decode (zcc m_X8_sheet) 36 = .ok (.iastore, 1) ∧ decode (zcc m_X8_sheet) 37 = .ok (.iconst 0, 1) := by decide +kernel
set_option maxRecDepth 20000 in
theorem eg_X8_sheet_24 : decode (zcc m_X8_sheet) 38 = .ok (.istore 4, 2) ∧ decode (zcc m_X8_sheet) 40 = .ok (.iload 4, 2) ∧ decode (zcc m_X8_sheet) 42 = .ok (.bipush 40, 2) ∧ decode (zcc m_X8_sheet) 44 = .ok (.if_icmp .ge (22), 3) ∧ decode (zcc m_X8_sheet) 47 = .ok (.aload_n 0, 1) ∧ decode (zcc m_X8_sheet) 48 = .ok (.getfield 69, 3) ∧ decode (zcc m_X8_sheet) 51 = .ok (.bipush 40, 2) ∧ decode (zcc m_X8_sheet) 53 = .ok (.iload_n 1, 1) := by decide +kernel
set_option maxRecDepth 20000 in
theorem eg_X8_sheet_32 : decode (zcc m_X8_sheet) 54 = .ok (.imul, 1) ∧ decode (zcc m_X8_sheet) 55 = .ok (.iload 4, 2) ∧ decode (zcc m_X8_sheet) 57 = .ok (.iadd, 1) ∧ decode (zcc m_X8_sheet) 58 = .ok (.iconst 0, 1) ∧ decode (zcc m_X8_sheet) 59 = .ok (.iastore, 1) ∧ decode (zcc m_X8_sheet) 60 = .ok (.iinc 4 1, 3) ∧ decode (zcc m_X8_sheet) 63 = .ok (.goto (-23), 3) ∧ decode (zcc m_X8_sheet) 66 = .ok (.iconst 1, 1) := by decide +kernel
set_option maxRecDepth 20000 in
theorem eg_X8_sheet_40 : decode (zcc m_X8_sheet) 67 = .ok (.ireturn, 1) := by decide +kernel
theorem d_X8_sheet_0 : zD m_X8_sheet 0 (.iload_n 1) 1 1 := ⟨eg_X8_sheet_0.1, rfl⟩
theorem d_X8_sheet_1 : zD m_X8_sheet 1 (.iload_n 2) 1 2 := ⟨eg_X8_sheet_0.2.1, rfl⟩
theorem d_X8_sheet_2 : zD m_X8_sheet 2 (.invokestatic 316) 3 5 := ⟨eg_X8_sheet_0.2.2.1, rfl⟩
theorem d_X8_sheet_5 : zDj m_X8_sheet 5 (.ifCond .eq) 8 14 := ⟨9, eg_X8_sheet_0.2.2.2.1, rfl, by decide⟩
theorem d_X8_sheet_8 : zD m_X8_sheet 8 (.iload_n 3) 1 9 := ⟨eg_X8_sheet_0.2.2.2.2.1, rfl⟩
theorem d_X8_sheet_9 : zD m_X8_sheet 9 (.bipush 40) 2 11 := ⟨eg_X8_sheet_0.2.2.2.2.2.1, rfl⟩
theorem d_X8_sheet_11 : zDj m_X8_sheet 11 (.if_icmp .le) 14 16 := ⟨5, eg_X8_sheet_0.2.2.2.2.2.2.1, rfl, by decide⟩
theorem d_X8_sheet_14 : zD m_X8_sheet 14 (.iconst (-1)) 1 15 := ⟨eg_X8_sheet_0.2.2.2.2.2.2.2, rfl⟩
theorem d_X8_sheet_15 : decode (zcc m_X8_sheet) 15 = .ok (.ireturn, 1) := eg_X8_sheet_8.1
theorem d_X8_sheet_16 : zD m_X8_sheet 16 (.iload_n 3) 1 17 := ⟨eg_X8_sheet_8.2.1, rfl⟩
theorem d_X8_sheet_17 : zDj m_X8_sheet 17 (.ifCond .ge) 20 23 := ⟨6, eg_X8_sheet_8.2.2.1, rfl, by decide⟩
theorem d_X8_sheet_20 : zD m_X8_sheet 20 (.bipush (-14)) 2 22 := ⟨eg_X8_sheet_8.2.2.2.1, rfl⟩
theorem d_X8_sheet_22 : decode (zcc m_X8_sheet) 22 = .ok (.ireturn, 1) := eg_X8_sheet_8.2.2.2.2.1
theorem d_X8_sheet_23 : zD m_X8_sheet 23 (.aload_n 0) 1 24 := ⟨eg_X8_sheet_8.2.2.2.2.2.1, rfl⟩
theorem d_X8_sheet_24 : zD m_X8_sheet 24 (.getfield 63) 3 27 := ⟨eg_X8_sheet_8.2.2.2.2.2.2.1, rfl⟩
theorem d_X8_sheet_27 : zD m_X8_sheet 27 (.iload_n 1) 1 28 := ⟨eg_X8_sheet_8.2.2.2.2.2.2.2, rfl⟩
theorem d_X8_sheet_28 : zD m_X8_sheet 28 (.iload_n 2) 1 29 := ⟨eg_X8_sheet_16.1, rfl⟩
theorem d_X8_sheet_29 : zD m_X8_sheet 29 (.iastore) 1 30 := ⟨eg_X8_sheet_16.2.1, rfl⟩
theorem d_X8_sheet_30 : zD m_X8_sheet 30 (.aload_n 0) 1 31 := ⟨eg_X8_sheet_16.2.2.1, rfl⟩
theorem d_X8_sheet_31 : zD m_X8_sheet 31 (.getfield 66) 3 34 := ⟨eg_X8_sheet_16.2.2.2.1, rfl⟩
theorem d_X8_sheet_34 : zD m_X8_sheet 34 (.iload_n 1) 1 35 := ⟨eg_X8_sheet_16.2.2.2.2.1, rfl⟩
theorem d_X8_sheet_35 : zD m_X8_sheet 35 (.iload_n 3) 1 36 := ⟨eg_X8_sheet_16.2.2.2.2.2.1, rfl⟩
theorem d_X8_sheet_36 : zD m_X8_sheet 36 (.iastore) 1 37 := ⟨eg_X8_sheet_16.2.2.2.2.2.2.1, rfl⟩
theorem d_X8_sheet_37 : zD m_X8_sheet 37 (.iconst 0) 1 38 := ⟨eg_X8_sheet_16.2.2.2.2.2.2.2, rfl⟩
theorem d_X8_sheet_38 : zD m_X8_sheet 38 (.istore 4) 2 40 := ⟨eg_X8_sheet_24.1, rfl⟩
theorem d_X8_sheet_40 : zD m_X8_sheet 40 (.iload 4) 2 42 := ⟨eg_X8_sheet_24.2.1, rfl⟩
theorem d_X8_sheet_42 : zD m_X8_sheet 42 (.bipush 40) 2 44 := ⟨eg_X8_sheet_24.2.2.1, rfl⟩
theorem d_X8_sheet_44 : zDj m_X8_sheet 44 (.if_icmp .ge) 47 66 := ⟨22, eg_X8_sheet_24.2.2.2.1, rfl, by decide⟩
theorem d_X8_sheet_47 : zD m_X8_sheet 47 (.aload_n 0) 1 48 := ⟨eg_X8_sheet_24.2.2.2.2.1, rfl⟩
theorem d_X8_sheet_48 : zD m_X8_sheet 48 (.getfield 69) 3 51 := ⟨eg_X8_sheet_24.2.2.2.2.2.1, rfl⟩
theorem d_X8_sheet_51 : zD m_X8_sheet 51 (.bipush 40) 2 53 := ⟨eg_X8_sheet_24.2.2.2.2.2.2.1, rfl⟩
theorem d_X8_sheet_53 : zD m_X8_sheet 53 (.iload_n 1) 1 54 := ⟨eg_X8_sheet_24.2.2.2.2.2.2.2, rfl⟩
theorem d_X8_sheet_54 : zD m_X8_sheet 54 (.imul) 1 55 := ⟨eg_X8_sheet_32.1, rfl⟩
theorem d_X8_sheet_55 : zD m_X8_sheet 55 (.iload 4) 2 57 := ⟨eg_X8_sheet_32.2.1, rfl⟩
theorem d_X8_sheet_57 : zD m_X8_sheet 57 (.iadd) 1 58 := ⟨eg_X8_sheet_32.2.2.1, rfl⟩
theorem d_X8_sheet_58 : zD m_X8_sheet 58 (.iconst 0) 1 59 := ⟨eg_X8_sheet_32.2.2.2.1, rfl⟩
theorem d_X8_sheet_59 : zD m_X8_sheet 59 (.iastore) 1 60 := ⟨eg_X8_sheet_32.2.2.2.2.1, rfl⟩
theorem d_X8_sheet_60 : zD m_X8_sheet 60 (.iinc 4 1) 3 63 := ⟨eg_X8_sheet_32.2.2.2.2.2.1, rfl⟩
theorem d_X8_sheet_63 : zDj m_X8_sheet 63 (.goto) 66 40 := ⟨-23, eg_X8_sheet_32.2.2.2.2.2.2.1, rfl, by decide⟩
theorem d_X8_sheet_66 : zD m_X8_sheet 66 (.iconst 1) 1 67 := ⟨eg_X8_sheet_32.2.2.2.2.2.2.2, rfl⟩
theorem d_X8_sheet_67 : decode (zcc m_X8_sheet) 67 = .ok (.ireturn, 1) := eg_X8_sheet_40
set_option maxRecDepth 20000 in
theorem eg_X8_lay_0 : decode (zcc m_X8_lay) 0 = .ok (.iload_n 1, 1) ∧ decode (zcc m_X8_lay) 1 = .ok (.iconst 0, 1) ∧ decode (zcc m_X8_lay) 2 = .ok (.invokestatic 316, 3) ∧ decode (zcc m_X8_lay) 5 = .ok (.ifCond .ne (5), 3) ∧ decode (zcc m_X8_lay) 8 = .ok (.iconst (-1), 1) ∧ decode (zcc m_X8_lay) 9 = .ok (.ireturn, 1) ∧ decode (zcc m_X8_lay) 10 = .ok (.aload_n 0, 1) ∧ decode (zcc m_X8_lay) 11 = .ok (.getfield 63, 3) := by decide +kernel
set_option maxRecDepth 20000 in
theorem eg_X8_lay_8 : decode (zcc m_X8_lay) 14 = .ok (.iload_n 1, 1) ∧ decode (zcc m_X8_lay) 15 = .ok (.iaload, 1) ∧ decode (zcc m_X8_lay) 16 = .ok (.bipush (-4), 2) ∧ decode (zcc m_X8_lay) 18 = .ok (.if_icmp .ne (6), 3) ∧ decode (zcc m_X8_lay) 21 = .ok (.bipush (-11), 2) ∧ decode (zcc m_X8_lay) 23 = .ok (.ireturn, 1) ∧ decode (zcc m_X8_lay) 24 = .ok (.iload_n 2, 1) ∧ decode (zcc m_X8_lay) 25 = .ok (.i2l, 1) := by decide +kernel
set_option maxRecDepth 20000 in
theorem eg_X8_lay_16 : decode (zcc m_X8_lay) 26 = .ok (.lconst 0, 1) ∧ decode (zcc m_X8_lay) 27 = .ok (.aload_n 0, 1) ∧ decode (zcc m_X8_lay) 28 = .ok (.getfield 66, 3) ∧ decode (zcc m_X8_lay) 31 = .ok (.iload_n 1, 1) ∧ decode (zcc m_X8_lay) 32 = .ok (.iaload, 1) ∧ decode (zcc m_X8_lay) 33 = .ok (.iconst 1, 1) ∧ decode (zcc m_X8_lay) 34 = .ok (.isub, 1) ∧ decode (zcc m_X8_lay) 35 = .ok (.i2l, 1) := by decide +kernel
set_option maxRecDepth 20000 in
theorem eg_X8_lay_24 : decode (zcc m_X8_lay) 36 = .ok (.invokestatic 92, 3) ∧ decode (zcc m_X8_lay) 39 = .ok (.ifCond .ne (6), 3) ∧ decode (zcc m_X8_lay) 42 = .ok (.bipush (-12), 2) ∧ decode (zcc m_X8_lay) 44 = .ok (.ireturn, 1) ∧ decode (zcc m_X8_lay) 45 = .ok (.aload_n 0, 1) ∧ decode (zcc m_X8_lay) 46 = .ok (.getfield 69, 3) ∧ decode (zcc m_X8_lay) 49 = .ok (.bipush 40, 2) ∧ decode (zcc m_X8_lay) 51 = .ok (.iload_n 1, 1) := by decide +kernel
set_option maxRecDepth 20000 in
theorem eg_X8_lay_32 : decode (zcc m_X8_lay) 52 = .ok (.imul, 1) ∧ decode (zcc m_X8_lay) 53 = .ok (.iload_n 2, 1) ∧ decode (zcc m_X8_lay) 54 = .ok (.iadd, 1) ∧ decode (zcc m_X8_lay) 55 = .ok (.aload_n 0, 1) ∧ decode (zcc m_X8_lay) 56 = .ok (.getfield 63, 3) ∧ decode (zcc m_X8_lay) 59 = .ok (.iload_n 1, 1) ∧ decode (zcc m_X8_lay) 60 = .ok (.iaload, 1) ∧ decode (zcc m_X8_lay) 61 = .ok (.ifCond .ne (8), 3) := by decide +kernel
set_option maxRecDepth 20000 in
theorem eg_X8_lay_40 : decode (zcc m_X8_lay) 64 = .ok (.iload_n 3, 1) ∧ decode (zcc m_X8_lay) 65 = .ok (.i2b, 1) ∧ decode (zcc m_X8_lay) 66 = .ok (.goto (19), 3) ∧ decode (zcc m_X8_lay) 69 = .ok (.aload_n 0, 1) ∧ decode (zcc m_X8_lay) 70 = .ok (.getfield 63, 3) ∧ decode (zcc m_X8_lay) 73 = .ok (.iload_n 1, 1) ∧ decode (zcc m_X8_lay) 74 = .ok (.iaload, 1) ∧ decode (zcc m_X8_lay) 75 = .ok (.iconst 1, 1) := by decide +kernel
set_option maxRecDepth 20000 in
theorem eg_X8_lay_48 : decode (zcc m_X8_lay) 76 = .ok (.if_icmp .ne (8), 3) ∧ decode (zcc m_X8_lay) 79 = .ok (.iload_n 3, 1) ∧ decode (zcc m_X8_lay) 80 = .ok (.i2s, 1) ∧ decode (zcc m_X8_lay) 81 = .ok (.goto (4), 3) ∧ decode (zcc m_X8_lay) 84 = .ok (.iload_n 3, 1) ∧ decode (zcc m_X8_lay) 85 = .ok (.iastore, 1) ∧ decode (zcc m_X8_lay) 86 = .ok (.iconst 1, 1) ∧ decode (zcc m_X8_lay) 87 = .ok (.ireturn, 1) := by decide +kernel
theorem d_X8_lay_0 : zD m_X8_lay 0 (.iload_n 1) 1 1 := ⟨eg_X8_lay_0.1, rfl⟩
theorem d_X8_lay_1 : zD m_X8_lay 1 (.iconst 0) 1 2 := ⟨eg_X8_lay_0.2.1, rfl⟩
theorem d_X8_lay_2 : zD m_X8_lay 2 (.invokestatic 316) 3 5 := ⟨eg_X8_lay_0.2.2.1, rfl⟩
theorem d_X8_lay_5 : zDj m_X8_lay 5 (.ifCond .ne) 8 10 := ⟨5, eg_X8_lay_0.2.2.2.1, rfl, by decide⟩
theorem d_X8_lay_8 : zD m_X8_lay 8 (.iconst (-1)) 1 9 := ⟨eg_X8_lay_0.2.2.2.2.1, rfl⟩
theorem d_X8_lay_9 : decode (zcc m_X8_lay) 9 = .ok (.ireturn, 1) := eg_X8_lay_0.2.2.2.2.2.1
theorem d_X8_lay_10 : zD m_X8_lay 10 (.aload_n 0) 1 11 := ⟨eg_X8_lay_0.2.2.2.2.2.2.1, rfl⟩
theorem d_X8_lay_11 : zD m_X8_lay 11 (.getfield 63) 3 14 := ⟨eg_X8_lay_0.2.2.2.2.2.2.2, rfl⟩
theorem d_X8_lay_14 : zD m_X8_lay 14 (.iload_n 1) 1 15 := ⟨eg_X8_lay_8.1, rfl⟩
theorem d_X8_lay_15 : zD m_X8_lay 15 (.iaload) 1 16 := ⟨eg_X8_lay_8.2.1, rfl⟩
theorem d_X8_lay_16 : zD m_X8_lay 16 (.bipush (-4)) 2 18 := ⟨eg_X8_lay_8.2.2.1, rfl⟩
theorem d_X8_lay_18 : zDj m_X8_lay 18 (.if_icmp .ne) 21 24 := ⟨6, eg_X8_lay_8.2.2.2.1, rfl, by decide⟩
theorem d_X8_lay_21 : zD m_X8_lay 21 (.bipush (-11)) 2 23 := ⟨eg_X8_lay_8.2.2.2.2.1, rfl⟩
theorem d_X8_lay_23 : decode (zcc m_X8_lay) 23 = .ok (.ireturn, 1) := eg_X8_lay_8.2.2.2.2.2.1
theorem d_X8_lay_24 : zD m_X8_lay 24 (.iload_n 2) 1 25 := ⟨eg_X8_lay_8.2.2.2.2.2.2.1, rfl⟩
theorem d_X8_lay_25 : zD m_X8_lay 25 (.i2l) 1 26 := ⟨eg_X8_lay_8.2.2.2.2.2.2.2, rfl⟩
theorem d_X8_lay_26 : zD m_X8_lay 26 (.lconst 0) 1 27 := ⟨eg_X8_lay_16.1, rfl⟩
theorem d_X8_lay_27 : zD m_X8_lay 27 (.aload_n 0) 1 28 := ⟨eg_X8_lay_16.2.1, rfl⟩
theorem d_X8_lay_28 : zD m_X8_lay 28 (.getfield 66) 3 31 := ⟨eg_X8_lay_16.2.2.1, rfl⟩
theorem d_X8_lay_31 : zD m_X8_lay 31 (.iload_n 1) 1 32 := ⟨eg_X8_lay_16.2.2.2.1, rfl⟩
theorem d_X8_lay_32 : zD m_X8_lay 32 (.iaload) 1 33 := ⟨eg_X8_lay_16.2.2.2.2.1, rfl⟩
theorem d_X8_lay_33 : zD m_X8_lay 33 (.iconst 1) 1 34 := ⟨eg_X8_lay_16.2.2.2.2.2.1, rfl⟩
theorem d_X8_lay_34 : zD m_X8_lay 34 (.isub) 1 35 := ⟨eg_X8_lay_16.2.2.2.2.2.2.1, rfl⟩
theorem d_X8_lay_35 : zD m_X8_lay 35 (.i2l) 1 36 := ⟨eg_X8_lay_16.2.2.2.2.2.2.2, rfl⟩
theorem d_X8_lay_36 : zD m_X8_lay 36 (.invokestatic 92) 3 39 := ⟨eg_X8_lay_24.1, rfl⟩
theorem d_X8_lay_39 : zDj m_X8_lay 39 (.ifCond .ne) 42 45 := ⟨6, eg_X8_lay_24.2.1, rfl, by decide⟩
theorem d_X8_lay_42 : zD m_X8_lay 42 (.bipush (-12)) 2 44 := ⟨eg_X8_lay_24.2.2.1, rfl⟩
theorem d_X8_lay_44 : decode (zcc m_X8_lay) 44 = .ok (.ireturn, 1) := eg_X8_lay_24.2.2.2.1
theorem d_X8_lay_45 : zD m_X8_lay 45 (.aload_n 0) 1 46 := ⟨eg_X8_lay_24.2.2.2.2.1, rfl⟩
theorem d_X8_lay_46 : zD m_X8_lay 46 (.getfield 69) 3 49 := ⟨eg_X8_lay_24.2.2.2.2.2.1, rfl⟩
theorem d_X8_lay_49 : zD m_X8_lay 49 (.bipush 40) 2 51 := ⟨eg_X8_lay_24.2.2.2.2.2.2.1, rfl⟩
theorem d_X8_lay_51 : zD m_X8_lay 51 (.iload_n 1) 1 52 := ⟨eg_X8_lay_24.2.2.2.2.2.2.2, rfl⟩
theorem d_X8_lay_52 : zD m_X8_lay 52 (.imul) 1 53 := ⟨eg_X8_lay_32.1, rfl⟩
theorem d_X8_lay_53 : zD m_X8_lay 53 (.iload_n 2) 1 54 := ⟨eg_X8_lay_32.2.1, rfl⟩
theorem d_X8_lay_54 : zD m_X8_lay 54 (.iadd) 1 55 := ⟨eg_X8_lay_32.2.2.1, rfl⟩
theorem d_X8_lay_55 : zD m_X8_lay 55 (.aload_n 0) 1 56 := ⟨eg_X8_lay_32.2.2.2.1, rfl⟩
theorem d_X8_lay_56 : zD m_X8_lay 56 (.getfield 63) 3 59 := ⟨eg_X8_lay_32.2.2.2.2.1, rfl⟩
theorem d_X8_lay_59 : zD m_X8_lay 59 (.iload_n 1) 1 60 := ⟨eg_X8_lay_32.2.2.2.2.2.1, rfl⟩
theorem d_X8_lay_60 : zD m_X8_lay 60 (.iaload) 1 61 := ⟨eg_X8_lay_32.2.2.2.2.2.2.1, rfl⟩
theorem d_X8_lay_61 : zDj m_X8_lay 61 (.ifCond .ne) 64 69 := ⟨8, eg_X8_lay_32.2.2.2.2.2.2.2, rfl, by decide⟩
theorem d_X8_lay_64 : zD m_X8_lay 64 (.iload_n 3) 1 65 := ⟨eg_X8_lay_40.1, rfl⟩
theorem d_X8_lay_65 : zD m_X8_lay 65 (.i2b) 1 66 := ⟨eg_X8_lay_40.2.1, rfl⟩
theorem d_X8_lay_66 : zDj m_X8_lay 66 (.goto) 69 85 := ⟨19, eg_X8_lay_40.2.2.1, rfl, by decide⟩
theorem d_X8_lay_69 : zD m_X8_lay 69 (.aload_n 0) 1 70 := ⟨eg_X8_lay_40.2.2.2.1, rfl⟩
theorem d_X8_lay_70 : zD m_X8_lay 70 (.getfield 63) 3 73 := ⟨eg_X8_lay_40.2.2.2.2.1, rfl⟩
theorem d_X8_lay_73 : zD m_X8_lay 73 (.iload_n 1) 1 74 := ⟨eg_X8_lay_40.2.2.2.2.2.1, rfl⟩
theorem d_X8_lay_74 : zD m_X8_lay 74 (.iaload) 1 75 := ⟨eg_X8_lay_40.2.2.2.2.2.2.1, rfl⟩
theorem d_X8_lay_75 : zD m_X8_lay 75 (.iconst 1) 1 76 := ⟨eg_X8_lay_40.2.2.2.2.2.2.2, rfl⟩
theorem d_X8_lay_76 : zDj m_X8_lay 76 (.if_icmp .ne) 79 84 := ⟨8, eg_X8_lay_48.1, rfl, by decide⟩
theorem d_X8_lay_79 : zD m_X8_lay 79 (.iload_n 3) 1 80 := ⟨eg_X8_lay_48.2.1, rfl⟩
theorem d_X8_lay_80 : zD m_X8_lay 80 (.i2s) 1 81 := ⟨eg_X8_lay_48.2.2.1, rfl⟩
theorem d_X8_lay_81 : zDj m_X8_lay 81 (.goto) 84 85 := ⟨4, eg_X8_lay_48.2.2.2.1, rfl, by decide⟩
theorem d_X8_lay_84 : zD m_X8_lay 84 (.iload_n 3) 1 85 := ⟨eg_X8_lay_48.2.2.2.2.1, rfl⟩
theorem d_X8_lay_85 : zD m_X8_lay 85 (.iastore) 1 86 := ⟨eg_X8_lay_48.2.2.2.2.2.1, rfl⟩
theorem d_X8_lay_86 : zD m_X8_lay 86 (.iconst 1) 1 87 := ⟨eg_X8_lay_48.2.2.2.2.2.2.1, rfl⟩
theorem d_X8_lay_87 : decode (zcc m_X8_lay) 87 = .ok (.ireturn, 1) := eg_X8_lay_48.2.2.2.2.2.2.2
set_option maxRecDepth 20000 in
theorem eg_X8_reads_0 : decode (zcc m_X8_reads) 0 = .ok (.iload_n 1, 1) ∧ decode (zcc m_X8_reads) 1 = .ok (.iload_n 2, 1) ∧ decode (zcc m_X8_reads) 2 = .ok (.invokestatic 316, 3) ∧ decode (zcc m_X8_reads) 5 = .ok (.ifCond .eq (16), 3) ∧ decode (zcc m_X8_reads) 8 = .ok (.iload 4, 2) ∧ decode (zcc m_X8_reads) 10 = .ok (.i2l, 1) ∧ decode (zcc m_X8_reads) 11 = .ok (.lconst 0, 1) ∧ decode (zcc m_X8_reads) 12 = .ok (.ldc2_w 319, 3) := by decide +kernel
set_option maxRecDepth 20000 in
theorem eg_X8_reads_8 : decode (zcc m_X8_reads) 15 = .ok (.invokestatic 92, 3) ∧ decode (zcc m_X8_reads) 18 = .ok (.ifCond .ne (5), 3) ∧ decode (zcc m_X8_reads) 21 = .ok (.iconst (-1), 1) ∧ decode (zcc m_X8_reads) 22 = .ok (.ireturn, 1) ∧ decode (zcc m_X8_reads) 23 = .ok (.iconst 0, 1) ∧ decode (zcc m_X8_reads) 24 = .ok (.istore 5, 2) ∧ decode (zcc m_X8_reads) 26 = .ok (.iconst 0, 1) ∧ decode (zcc m_X8_reads) 27 = .ok (.istore 6, 2) := by decide +kernel
set_option maxRecDepth 20000 in
theorem eg_X8_reads_16 : decode (zcc m_X8_reads) 29 = .ok (.iconst 0, 1) ∧ decode (zcc m_X8_reads) 30 = .ok (.istore 7, 2) ∧ decode (zcc m_X8_reads) 32 = .ok (.iload 7, 2) ∧ decode (zcc m_X8_reads) 34 = .ok (.iload 4, 2) ∧ decode (zcc m_X8_reads) 36 = .ok (.if_icmp .ge (164), 3) ∧ decode (zcc m_X8_reads) 39 = .ok (.iload 5, 2) ∧ decode (zcc m_X8_reads) 41 = .ok (.ifCond .ne (159), 3) ∧ decode (zcc m_X8_reads) 44 = .ok (.iconst 0, 1) := by decide +kernel
set_option maxRecDepth 20000 in
theorem eg_X8_reads_24 : decode (zcc m_X8_reads) 45 = .ok (.istore 8, 2) ∧ decode (zcc m_X8_reads) 47 = .ok (.iload 8, 2) ∧ decode (zcc m_X8_reads) 49 = .ok (.iconst 2, 1) ∧ decode (zcc m_X8_reads) 50 = .ok (.if_icmp .ge (84), 3) ∧ decode (zcc m_X8_reads) 53 = .ok (.iload 5, 2) ∧ decode (zcc m_X8_reads) 55 = .ok (.ifCond .ne (79), 3) ∧ decode (zcc m_X8_reads) 58 = .ok (.iload_n 3, 1) ∧ decode (zcc m_X8_reads) 59 = .ok (.i2l, 1) := by decide +kernel
set_option maxRecDepth 20000 in
theorem eg_X8_reads_32 : decode (zcc m_X8_reads) 60 = .ok (.iconst 2, 1) ∧ decode (zcc m_X8_reads) 61 = .ok (.iload 7, 2) ∧ decode (zcc m_X8_reads) 63 = .ok (.imul, 1) ∧ decode (zcc m_X8_reads) 64 = .ok (.i2l, 1) ∧ decode (zcc m_X8_reads) 65 = .ok (.ladd, 1) ∧ decode (zcc m_X8_reads) 66 = .ok (.iload 8, 2) ∧ decode (zcc m_X8_reads) 68 = .ok (.i2l, 1) ∧ decode (zcc m_X8_reads) 69 = .ok (.ladd, 1) := by decide +kernel
set_option maxRecDepth 20000 in
theorem eg_X8_reads_40 : decode (zcc m_X8_reads) 70 = .ok (.lstore 9, 2) ∧ decode (zcc m_X8_reads) 72 = .ok (.aload_n 0, 1) ∧ decode (zcc m_X8_reads) 73 = .ok (.getfield 63, 3) ∧ decode (zcc m_X8_reads) 76 = .ok (.iload_n 1, 1) ∧ decode (zcc m_X8_reads) 77 = .ok (.iaload, 1) ∧ decode (zcc m_X8_reads) 78 = .ok (.bipush (-4), 2) ∧ decode (zcc m_X8_reads) 80 = .ok (.if_icmp .ne (7), 3) ∧ decode (zcc m_X8_reads) 83 = .ok (.iconst 1, 1) := by decide +kernel
set_option maxRecDepth 20000 in
theorem eg_X8_reads_48 : decode (zcc m_X8_reads) 84 = .ok (.goto (42), 3) ∧ decode (zcc m_X8_reads) 87 = .ok (.aload_n 0, 1) ∧ decode (zcc m_X8_reads) 88 = .ok (.getfield 63, 3) ∧ decode (zcc m_X8_reads) 91 = .ok (.iload_n 1, 1) ∧ decode (zcc m_X8_reads) 92 = .ok (.iaload, 1) ∧ decode (zcc m_X8_reads) 93 = .ok (.iload_n 2, 1) ∧ decode (zcc m_X8_reads) 94 = .ok (.if_icmp .eq (7), 3) ∧ decode (zcc m_X8_reads) 97 = .ok (.iconst 3, 1) := by decide +kernel
set_option maxRecDepth 20000 in
theorem eg_X8_reads_56 : decode (zcc m_X8_reads) 98 = .ok (.goto (28), 3) ∧ decode (zcc m_X8_reads) 101 = .ok (.lload 9, 2) ∧ decode (zcc m_X8_reads) 103 = .ok (.lconst 0, 1) ∧ decode (zcc m_X8_reads) 104 = .ok (.lcmp, 1) ∧ decode (zcc m_X8_reads) 105 = .ok (.ifCond .lt (16), 3) ∧ decode (zcc m_X8_reads) 108 = .ok (.lload 9, 2) ∧ decode (zcc m_X8_reads) 110 = .ok (.aload_n 0, 1) ∧ decode (zcc m_X8_reads) 111 = .ok (.getfield 66, 3) := by decide +kernel
set_option maxRecDepth 20000 in
theorem eg_X8_reads_64 : decode (zcc m_X8_reads) 114 = .ok (.iload_n 1, 1) ∧ decode (zcc m_X8_reads) 115 = .ok (.iaload, 1) ∧ decode (zcc m_X8_reads) 116 = .ok (.i2l, 1) ∧ decode (zcc m_X8_reads) 117 = .ok (.lcmp, 1) ∧ decode (zcc m_X8_reads) 118 = .ok (.ifCond .lt (7), 3) ∧ decode (zcc m_X8_reads) 121 = .ok (.iconst 2, 1) ∧ decode (zcc m_X8_reads) 122 = .ok (.goto (4), 3) ∧ decode (zcc m_X8_reads) 125 = .ok (.iconst 0, 1) := by decide +kernel
set_option maxRecDepth 20000 in
theorem eg_X8_reads_72 : decode (zcc m_X8_reads) 126 = .ok (.istore 5, 2) ∧ decode (zcc m_X8_reads) 128 = .ok (.iinc 8 1, 3) ∧ decode (zcc m_X8_reads) 131 = .ok (.goto (-84), 3) ∧ decode (zcc m_X8_reads) 134 = .ok (.iload 5, 2) ∧ decode (zcc m_X8_reads) 136 = .ok (.ifCond .ne (58), 3) ∧ decode (zcc m_X8_reads) 139 = .ok (.bipush 40, 2) ∧ decode (zcc m_X8_reads) 141 = .ok (.iload_n 1, 1) ∧ decode (zcc m_X8_reads) 142 = .ok (.imul, 1) := by decide +kernel
set_option maxRecDepth 20000 in
theorem eg_X8_reads_80 : decode (zcc m_X8_reads) 143 = .ok (.iload_n 3, 1) ∧ decode (zcc m_X8_reads) 144 = .ok (.iadd, 1) ∧ decode (zcc m_X8_reads) 145 = .ok (.iconst 2, 1) ∧ decode (zcc m_X8_reads) 146 = .ok (.iload 7, 2) ∧ decode (zcc m_X8_reads) 148 = .ok (.imul, 1) ∧ decode (zcc m_X8_reads) 149 = .ok (.iadd, 1) ∧ decode (zcc m_X8_reads) 150 = .ok (.istore 8, 2) ∧ decode (zcc m_X8_reads) 152 = .ok (.aload_n 0, 1) := by decide +kernel
set_option maxRecDepth 20000 in
theorem eg_X8_reads_88 : decode (zcc m_X8_reads) 153 = .ok (.getfield 69, 3) ∧ decode (zcc m_X8_reads) 156 = .ok (.iload 8, 2) ∧ decode (zcc m_X8_reads) 158 = .ok (.iaload, 1) ∧ decode (zcc m_X8_reads) 159 = .ok (.invokestatic 183, 3) ∧ decode (zcc m_X8_reads) 162 = .ok (.ifCond .eq (23), 3) ∧ decode (zcc m_X8_reads) 165 = .ok (.aload_n 0, 1) ∧ decode (zcc m_X8_reads) 166 = .ok (.getfield 69, 3) ∧ decode (zcc m_X8_reads) 169 = .ok (.iload 8, 2) := by decide +kernel
set_option maxRecDepth 20000 in
theorem eg_X8_reads_96 : decode (zcc m_X8_reads) 171 = .ok (.iconst 1, 1) ∧ decode (zcc m_X8_reads) 172 = .ok (.iadd, 1) ∧ decode (zcc m_X8_reads) 173 = .ok (.iaload, 1) ∧ decode (zcc m_X8_reads) 174 = .ok (.i2l, 1) ∧ decode (zcc m_X8_reads) 175 = .ok (.lconst 0, 1) ∧ decode (zcc m_X8_reads) 176 = .ok (.ldc2_w 189, 3) ∧ decode (zcc m_X8_reads) 179 = .ok (.invokestatic 92, 3) ∧ decode (zcc m_X8_reads) 182 = .ok (.ifCond .ne (9), 3) := by decide +kernel
set_option maxRecDepth 20000 in
theorem eg_X8_reads_104 : decode (zcc m_X8_reads) 185 = .ok (.bipush (-20), 2) ∧ decode (zcc m_X8_reads) 187 = .ok (.iload 7, 2) ∧ decode (zcc m_X8_reads) 189 = .ok (.isub, 1) ∧ decode (zcc m_X8_reads) 190 = .ok (.ireturn, 1) ∧ decode (zcc m_X8_reads) 191 = .ok (.iinc 6 1, 3) ∧ decode (zcc m_X8_reads) 194 = .ok (.iinc 7 1, 3) ∧ decode (zcc m_X8_reads) 197 = .ok (.goto (-165), 3) ∧ decode (zcc m_X8_reads) 200 = .ok (.aload_n 0, 1) := by decide +kernel
set_option maxRecDepth 20000 in
theorem eg_X8_reads_112 : decode (zcc m_X8_reads) 201 = .ok (.iload 5, 2) ∧ decode (zcc m_X8_reads) 203 = .ok (.putfield 321, 3) ∧ decode (zcc m_X8_reads) 206 = .ok (.iconst 0, 1) ∧ decode (zcc m_X8_reads) 207 = .ok (.istore 7, 2) ∧ decode (zcc m_X8_reads) 209 = .ok (.iload 7, 2) ∧ decode (zcc m_X8_reads) 211 = .ok (.iload 6, 2) ∧ decode (zcc m_X8_reads) 213 = .ok (.if_icmp .ge (46), 3) ∧ decode (zcc m_X8_reads) 216 = .ok (.bipush 40, 2) := by decide +kernel
set_option maxRecDepth 20000 in
theorem eg_X8_reads_120 : decode (zcc m_X8_reads) 218 = .ok (.iload_n 1, 1) ∧ decode (zcc m_X8_reads) 219 = .ok (.imul, 1) ∧ decode (zcc m_X8_reads) 220 = .ok (.iload_n 3, 1) ∧ decode (zcc m_X8_reads) 221 = .ok (.iadd, 1) ∧ decode (zcc m_X8_reads) 222 = .ok (.iconst 2, 1) ∧ decode (zcc m_X8_reads) 223 = .ok (.iload 7, 2) ∧ decode (zcc m_X8_reads) 225 = .ok (.imul, 1) ∧ decode (zcc m_X8_reads) 226 = .ok (.iadd, 1) := by decide +kernel
set_option maxRecDepth 20000 in
theorem eg_X8_reads_128 : decode (zcc m_X8_reads) 227 = .ok (.istore 8, 2) ∧ decode (zcc m_X8_reads) 229 = .ok (.aload_n 0, 1) ∧ decode (zcc m_X8_reads) 230 = .ok (.getfield 7, 3) ∧ decode (zcc m_X8_reads) 233 = .ok (.bipush 104, 2) ∧ decode (zcc m_X8_reads) 235 = .ok (.aload_n 0, 1) ∧ decode (zcc m_X8_reads) 236 = .ok (.getfield 69, 3) ∧ decode (zcc m_X8_reads) 239 = .ok (.iload 8, 2) ∧ decode (zcc m_X8_reads) 241 = .ok (.iaload, 1) := by decide +kernel
set_option maxRecDepth 20000 in
theorem eg_X8_reads_136 : decode (zcc m_X8_reads) 242 = .ok (.iadd, 1) ∧ decode (zcc m_X8_reads) 243 = .ok (.aload_n 0, 1) ∧ decode (zcc m_X8_reads) 244 = .ok (.getfield 69, 3) ∧ decode (zcc m_X8_reads) 247 = .ok (.iload 8, 2) ∧ decode (zcc m_X8_reads) 249 = .ok (.iconst 1, 1) ∧ decode (zcc m_X8_reads) 250 = .ok (.iadd, 1) ∧ decode (zcc m_X8_reads) 251 = .ok (.iaload, 1) ∧ decode (zcc m_X8_reads) 252 = .ok (.iastore, 1) := by decide +kernel
set_option maxRecDepth 20000 in
theorem eg_X8_reads_144 : decode (zcc m_X8_reads) 253 = .ok (.iinc 7 1, 3) ∧ decode (zcc m_X8_reads) 256 = .ok (.goto (-47), 3) ∧ decode (zcc m_X8_reads) 259 = .ok (.iload 6, 2) ∧ decode (zcc m_X8_reads) 261 = .ok (.ireturn, 1) := by decide +kernel
theorem d_X8_reads_0 : zD m_X8_reads 0 (.iload_n 1) 1 1 := ⟨eg_X8_reads_0.1, rfl⟩
theorem d_X8_reads_1 : zD m_X8_reads 1 (.iload_n 2) 1 2 := ⟨eg_X8_reads_0.2.1, rfl⟩
theorem d_X8_reads_2 : zD m_X8_reads 2 (.invokestatic 316) 3 5 := ⟨eg_X8_reads_0.2.2.1, rfl⟩
theorem d_X8_reads_5 : zDj m_X8_reads 5 (.ifCond .eq) 8 21 := ⟨16, eg_X8_reads_0.2.2.2.1, rfl, by decide⟩
theorem d_X8_reads_8 : zD m_X8_reads 8 (.iload 4) 2 10 := ⟨eg_X8_reads_0.2.2.2.2.1, rfl⟩
theorem d_X8_reads_10 : zD m_X8_reads 10 (.i2l) 1 11 := ⟨eg_X8_reads_0.2.2.2.2.2.1, rfl⟩
theorem d_X8_reads_11 : zD m_X8_reads 11 (.lconst 0) 1 12 := ⟨eg_X8_reads_0.2.2.2.2.2.2.1, rfl⟩
theorem d_X8_reads_12 : zD m_X8_reads 12 (.ldc2_w 319) 3 15 := ⟨eg_X8_reads_0.2.2.2.2.2.2.2, rfl⟩
theorem d_X8_reads_15 : zD m_X8_reads 15 (.invokestatic 92) 3 18 := ⟨eg_X8_reads_8.1, rfl⟩
theorem d_X8_reads_18 : zDj m_X8_reads 18 (.ifCond .ne) 21 23 := ⟨5, eg_X8_reads_8.2.1, rfl, by decide⟩
theorem d_X8_reads_21 : zD m_X8_reads 21 (.iconst (-1)) 1 22 := ⟨eg_X8_reads_8.2.2.1, rfl⟩
theorem d_X8_reads_22 : decode (zcc m_X8_reads) 22 = .ok (.ireturn, 1) := eg_X8_reads_8.2.2.2.1
theorem d_X8_reads_23 : zD m_X8_reads 23 (.iconst 0) 1 24 := ⟨eg_X8_reads_8.2.2.2.2.1, rfl⟩
theorem d_X8_reads_24 : zD m_X8_reads 24 (.istore 5) 2 26 := ⟨eg_X8_reads_8.2.2.2.2.2.1, rfl⟩
theorem d_X8_reads_26 : zD m_X8_reads 26 (.iconst 0) 1 27 := ⟨eg_X8_reads_8.2.2.2.2.2.2.1, rfl⟩
theorem d_X8_reads_27 : zD m_X8_reads 27 (.istore 6) 2 29 := ⟨eg_X8_reads_8.2.2.2.2.2.2.2, rfl⟩
theorem d_X8_reads_29 : zD m_X8_reads 29 (.iconst 0) 1 30 := ⟨eg_X8_reads_16.1, rfl⟩
theorem d_X8_reads_30 : zD m_X8_reads 30 (.istore 7) 2 32 := ⟨eg_X8_reads_16.2.1, rfl⟩
theorem d_X8_reads_32 : zD m_X8_reads 32 (.iload 7) 2 34 := ⟨eg_X8_reads_16.2.2.1, rfl⟩
theorem d_X8_reads_34 : zD m_X8_reads 34 (.iload 4) 2 36 := ⟨eg_X8_reads_16.2.2.2.1, rfl⟩
theorem d_X8_reads_36 : zDj m_X8_reads 36 (.if_icmp .ge) 39 200 := ⟨164, eg_X8_reads_16.2.2.2.2.1, rfl, by decide⟩
theorem d_X8_reads_39 : zD m_X8_reads 39 (.iload 5) 2 41 := ⟨eg_X8_reads_16.2.2.2.2.2.1, rfl⟩
theorem d_X8_reads_41 : zDj m_X8_reads 41 (.ifCond .ne) 44 200 := ⟨159, eg_X8_reads_16.2.2.2.2.2.2.1, rfl, by decide⟩
theorem d_X8_reads_44 : zD m_X8_reads 44 (.iconst 0) 1 45 := ⟨eg_X8_reads_16.2.2.2.2.2.2.2, rfl⟩
theorem d_X8_reads_45 : zD m_X8_reads 45 (.istore 8) 2 47 := ⟨eg_X8_reads_24.1, rfl⟩
theorem d_X8_reads_47 : zD m_X8_reads 47 (.iload 8) 2 49 := ⟨eg_X8_reads_24.2.1, rfl⟩
theorem d_X8_reads_49 : zD m_X8_reads 49 (.iconst 2) 1 50 := ⟨eg_X8_reads_24.2.2.1, rfl⟩
theorem d_X8_reads_50 : zDj m_X8_reads 50 (.if_icmp .ge) 53 134 := ⟨84, eg_X8_reads_24.2.2.2.1, rfl, by decide⟩
theorem d_X8_reads_53 : zD m_X8_reads 53 (.iload 5) 2 55 := ⟨eg_X8_reads_24.2.2.2.2.1, rfl⟩
theorem d_X8_reads_55 : zDj m_X8_reads 55 (.ifCond .ne) 58 134 := ⟨79, eg_X8_reads_24.2.2.2.2.2.1, rfl, by decide⟩
theorem d_X8_reads_58 : zD m_X8_reads 58 (.iload_n 3) 1 59 := ⟨eg_X8_reads_24.2.2.2.2.2.2.1, rfl⟩
theorem d_X8_reads_59 : zD m_X8_reads 59 (.i2l) 1 60 := ⟨eg_X8_reads_24.2.2.2.2.2.2.2, rfl⟩
theorem d_X8_reads_60 : zD m_X8_reads 60 (.iconst 2) 1 61 := ⟨eg_X8_reads_32.1, rfl⟩
theorem d_X8_reads_61 : zD m_X8_reads 61 (.iload 7) 2 63 := ⟨eg_X8_reads_32.2.1, rfl⟩
theorem d_X8_reads_63 : zD m_X8_reads 63 (.imul) 1 64 := ⟨eg_X8_reads_32.2.2.1, rfl⟩
theorem d_X8_reads_64 : zD m_X8_reads 64 (.i2l) 1 65 := ⟨eg_X8_reads_32.2.2.2.1, rfl⟩
theorem d_X8_reads_65 : zD m_X8_reads 65 (.ladd) 1 66 := ⟨eg_X8_reads_32.2.2.2.2.1, rfl⟩
theorem d_X8_reads_66 : zD m_X8_reads 66 (.iload 8) 2 68 := ⟨eg_X8_reads_32.2.2.2.2.2.1, rfl⟩
theorem d_X8_reads_68 : zD m_X8_reads 68 (.i2l) 1 69 := ⟨eg_X8_reads_32.2.2.2.2.2.2.1, rfl⟩
theorem d_X8_reads_69 : zD m_X8_reads 69 (.ladd) 1 70 := ⟨eg_X8_reads_32.2.2.2.2.2.2.2, rfl⟩
theorem d_X8_reads_70 : zD m_X8_reads 70 (.lstore 9) 2 72 := ⟨eg_X8_reads_40.1, rfl⟩
theorem d_X8_reads_72 : zD m_X8_reads 72 (.aload_n 0) 1 73 := ⟨eg_X8_reads_40.2.1, rfl⟩
theorem d_X8_reads_73 : zD m_X8_reads 73 (.getfield 63) 3 76 := ⟨eg_X8_reads_40.2.2.1, rfl⟩
theorem d_X8_reads_76 : zD m_X8_reads 76 (.iload_n 1) 1 77 := ⟨eg_X8_reads_40.2.2.2.1, rfl⟩
theorem d_X8_reads_77 : zD m_X8_reads 77 (.iaload) 1 78 := ⟨eg_X8_reads_40.2.2.2.2.1, rfl⟩
theorem d_X8_reads_78 : zD m_X8_reads 78 (.bipush (-4)) 2 80 := ⟨eg_X8_reads_40.2.2.2.2.2.1, rfl⟩
theorem d_X8_reads_80 : zDj m_X8_reads 80 (.if_icmp .ne) 83 87 := ⟨7, eg_X8_reads_40.2.2.2.2.2.2.1, rfl, by decide⟩
theorem d_X8_reads_83 : zD m_X8_reads 83 (.iconst 1) 1 84 := ⟨eg_X8_reads_40.2.2.2.2.2.2.2, rfl⟩
theorem d_X8_reads_84 : zDj m_X8_reads 84 (.goto) 87 126 := ⟨42, eg_X8_reads_48.1, rfl, by decide⟩
theorem d_X8_reads_87 : zD m_X8_reads 87 (.aload_n 0) 1 88 := ⟨eg_X8_reads_48.2.1, rfl⟩
theorem d_X8_reads_88 : zD m_X8_reads 88 (.getfield 63) 3 91 := ⟨eg_X8_reads_48.2.2.1, rfl⟩
theorem d_X8_reads_91 : zD m_X8_reads 91 (.iload_n 1) 1 92 := ⟨eg_X8_reads_48.2.2.2.1, rfl⟩
theorem d_X8_reads_92 : zD m_X8_reads 92 (.iaload) 1 93 := ⟨eg_X8_reads_48.2.2.2.2.1, rfl⟩
theorem d_X8_reads_93 : zD m_X8_reads 93 (.iload_n 2) 1 94 := ⟨eg_X8_reads_48.2.2.2.2.2.1, rfl⟩
theorem d_X8_reads_94 : zDj m_X8_reads 94 (.if_icmp .eq) 97 101 := ⟨7, eg_X8_reads_48.2.2.2.2.2.2.1, rfl, by decide⟩
theorem d_X8_reads_97 : zD m_X8_reads 97 (.iconst 3) 1 98 := ⟨eg_X8_reads_48.2.2.2.2.2.2.2, rfl⟩
theorem d_X8_reads_98 : zDj m_X8_reads 98 (.goto) 101 126 := ⟨28, eg_X8_reads_56.1, rfl, by decide⟩
theorem d_X8_reads_101 : zD m_X8_reads 101 (.lload 9) 2 103 := ⟨eg_X8_reads_56.2.1, rfl⟩
theorem d_X8_reads_103 : zD m_X8_reads 103 (.lconst 0) 1 104 := ⟨eg_X8_reads_56.2.2.1, rfl⟩
theorem d_X8_reads_104 : zD m_X8_reads 104 (.lcmp) 1 105 := ⟨eg_X8_reads_56.2.2.2.1, rfl⟩
theorem d_X8_reads_105 : zDj m_X8_reads 105 (.ifCond .lt) 108 121 := ⟨16, eg_X8_reads_56.2.2.2.2.1, rfl, by decide⟩
theorem d_X8_reads_108 : zD m_X8_reads 108 (.lload 9) 2 110 := ⟨eg_X8_reads_56.2.2.2.2.2.1, rfl⟩
theorem d_X8_reads_110 : zD m_X8_reads 110 (.aload_n 0) 1 111 := ⟨eg_X8_reads_56.2.2.2.2.2.2.1, rfl⟩
theorem d_X8_reads_111 : zD m_X8_reads 111 (.getfield 66) 3 114 := ⟨eg_X8_reads_56.2.2.2.2.2.2.2, rfl⟩
theorem d_X8_reads_114 : zD m_X8_reads 114 (.iload_n 1) 1 115 := ⟨eg_X8_reads_64.1, rfl⟩
theorem d_X8_reads_115 : zD m_X8_reads 115 (.iaload) 1 116 := ⟨eg_X8_reads_64.2.1, rfl⟩
theorem d_X8_reads_116 : zD m_X8_reads 116 (.i2l) 1 117 := ⟨eg_X8_reads_64.2.2.1, rfl⟩
theorem d_X8_reads_117 : zD m_X8_reads 117 (.lcmp) 1 118 := ⟨eg_X8_reads_64.2.2.2.1, rfl⟩
theorem d_X8_reads_118 : zDj m_X8_reads 118 (.ifCond .lt) 121 125 := ⟨7, eg_X8_reads_64.2.2.2.2.1, rfl, by decide⟩
theorem d_X8_reads_121 : zD m_X8_reads 121 (.iconst 2) 1 122 := ⟨eg_X8_reads_64.2.2.2.2.2.1, rfl⟩
theorem d_X8_reads_122 : zDj m_X8_reads 122 (.goto) 125 126 := ⟨4, eg_X8_reads_64.2.2.2.2.2.2.1, rfl, by decide⟩
theorem d_X8_reads_125 : zD m_X8_reads 125 (.iconst 0) 1 126 := ⟨eg_X8_reads_64.2.2.2.2.2.2.2, rfl⟩
theorem d_X8_reads_126 : zD m_X8_reads 126 (.istore 5) 2 128 := ⟨eg_X8_reads_72.1, rfl⟩
theorem d_X8_reads_128 : zD m_X8_reads 128 (.iinc 8 1) 3 131 := ⟨eg_X8_reads_72.2.1, rfl⟩
theorem d_X8_reads_131 : zDj m_X8_reads 131 (.goto) 134 47 := ⟨-84, eg_X8_reads_72.2.2.1, rfl, by decide⟩
theorem d_X8_reads_134 : zD m_X8_reads 134 (.iload 5) 2 136 := ⟨eg_X8_reads_72.2.2.2.1, rfl⟩
theorem d_X8_reads_136 : zDj m_X8_reads 136 (.ifCond .ne) 139 194 := ⟨58, eg_X8_reads_72.2.2.2.2.1, rfl, by decide⟩
theorem d_X8_reads_139 : zD m_X8_reads 139 (.bipush 40) 2 141 := ⟨eg_X8_reads_72.2.2.2.2.2.1, rfl⟩
theorem d_X8_reads_141 : zD m_X8_reads 141 (.iload_n 1) 1 142 := ⟨eg_X8_reads_72.2.2.2.2.2.2.1, rfl⟩
theorem d_X8_reads_142 : zD m_X8_reads 142 (.imul) 1 143 := ⟨eg_X8_reads_72.2.2.2.2.2.2.2, rfl⟩
theorem d_X8_reads_143 : zD m_X8_reads 143 (.iload_n 3) 1 144 := ⟨eg_X8_reads_80.1, rfl⟩
theorem d_X8_reads_144 : zD m_X8_reads 144 (.iadd) 1 145 := ⟨eg_X8_reads_80.2.1, rfl⟩
theorem d_X8_reads_145 : zD m_X8_reads 145 (.iconst 2) 1 146 := ⟨eg_X8_reads_80.2.2.1, rfl⟩
theorem d_X8_reads_146 : zD m_X8_reads 146 (.iload 7) 2 148 := ⟨eg_X8_reads_80.2.2.2.1, rfl⟩
theorem d_X8_reads_148 : zD m_X8_reads 148 (.imul) 1 149 := ⟨eg_X8_reads_80.2.2.2.2.1, rfl⟩
theorem d_X8_reads_149 : zD m_X8_reads 149 (.iadd) 1 150 := ⟨eg_X8_reads_80.2.2.2.2.2.1, rfl⟩
theorem d_X8_reads_150 : zD m_X8_reads 150 (.istore 8) 2 152 := ⟨eg_X8_reads_80.2.2.2.2.2.2.1, rfl⟩
theorem d_X8_reads_152 : zD m_X8_reads 152 (.aload_n 0) 1 153 := ⟨eg_X8_reads_80.2.2.2.2.2.2.2, rfl⟩
theorem d_X8_reads_153 : zD m_X8_reads 153 (.getfield 69) 3 156 := ⟨eg_X8_reads_88.1, rfl⟩
theorem d_X8_reads_156 : zD m_X8_reads 156 (.iload 8) 2 158 := ⟨eg_X8_reads_88.2.1, rfl⟩
theorem d_X8_reads_158 : zD m_X8_reads 158 (.iaload) 1 159 := ⟨eg_X8_reads_88.2.2.1, rfl⟩
theorem d_X8_reads_159 : zD m_X8_reads 159 (.invokestatic 183) 3 162 := ⟨eg_X8_reads_88.2.2.2.1, rfl⟩
theorem d_X8_reads_162 : zDj m_X8_reads 162 (.ifCond .eq) 165 185 := ⟨23, eg_X8_reads_88.2.2.2.2.1, rfl, by decide⟩
theorem d_X8_reads_165 : zD m_X8_reads 165 (.aload_n 0) 1 166 := ⟨eg_X8_reads_88.2.2.2.2.2.1, rfl⟩
theorem d_X8_reads_166 : zD m_X8_reads 166 (.getfield 69) 3 169 := ⟨eg_X8_reads_88.2.2.2.2.2.2.1, rfl⟩
theorem d_X8_reads_169 : zD m_X8_reads 169 (.iload 8) 2 171 := ⟨eg_X8_reads_88.2.2.2.2.2.2.2, rfl⟩
theorem d_X8_reads_171 : zD m_X8_reads 171 (.iconst 1) 1 172 := ⟨eg_X8_reads_96.1, rfl⟩
theorem d_X8_reads_172 : zD m_X8_reads 172 (.iadd) 1 173 := ⟨eg_X8_reads_96.2.1, rfl⟩
theorem d_X8_reads_173 : zD m_X8_reads 173 (.iaload) 1 174 := ⟨eg_X8_reads_96.2.2.1, rfl⟩
theorem d_X8_reads_174 : zD m_X8_reads 174 (.i2l) 1 175 := ⟨eg_X8_reads_96.2.2.2.1, rfl⟩
theorem d_X8_reads_175 : zD m_X8_reads 175 (.lconst 0) 1 176 := ⟨eg_X8_reads_96.2.2.2.2.1, rfl⟩
theorem d_X8_reads_176 : zD m_X8_reads 176 (.ldc2_w 189) 3 179 := ⟨eg_X8_reads_96.2.2.2.2.2.1, rfl⟩
theorem d_X8_reads_179 : zD m_X8_reads 179 (.invokestatic 92) 3 182 := ⟨eg_X8_reads_96.2.2.2.2.2.2.1, rfl⟩
theorem d_X8_reads_182 : zDj m_X8_reads 182 (.ifCond .ne) 185 191 := ⟨9, eg_X8_reads_96.2.2.2.2.2.2.2, rfl, by decide⟩
theorem d_X8_reads_185 : zD m_X8_reads 185 (.bipush (-20)) 2 187 := ⟨eg_X8_reads_104.1, rfl⟩
theorem d_X8_reads_187 : zD m_X8_reads 187 (.iload 7) 2 189 := ⟨eg_X8_reads_104.2.1, rfl⟩
theorem d_X8_reads_189 : zD m_X8_reads 189 (.isub) 1 190 := ⟨eg_X8_reads_104.2.2.1, rfl⟩
theorem d_X8_reads_190 : decode (zcc m_X8_reads) 190 = .ok (.ireturn, 1) := eg_X8_reads_104.2.2.2.1
theorem d_X8_reads_191 : zD m_X8_reads 191 (.iinc 6 1) 3 194 := ⟨eg_X8_reads_104.2.2.2.2.1, rfl⟩
theorem d_X8_reads_194 : zD m_X8_reads 194 (.iinc 7 1) 3 197 := ⟨eg_X8_reads_104.2.2.2.2.2.1, rfl⟩
theorem d_X8_reads_197 : zDj m_X8_reads 197 (.goto) 200 32 := ⟨-165, eg_X8_reads_104.2.2.2.2.2.2.1, rfl, by decide⟩
theorem d_X8_reads_200 : zD m_X8_reads 200 (.aload_n 0) 1 201 := ⟨eg_X8_reads_104.2.2.2.2.2.2.2, rfl⟩
theorem d_X8_reads_201 : zD m_X8_reads 201 (.iload 5) 2 203 := ⟨eg_X8_reads_112.1, rfl⟩
theorem d_X8_reads_203 : zD m_X8_reads 203 (.putfield 321) 3 206 := ⟨eg_X8_reads_112.2.1, rfl⟩
theorem d_X8_reads_206 : zD m_X8_reads 206 (.iconst 0) 1 207 := ⟨eg_X8_reads_112.2.2.1, rfl⟩
theorem d_X8_reads_207 : zD m_X8_reads 207 (.istore 7) 2 209 := ⟨eg_X8_reads_112.2.2.2.1, rfl⟩
theorem d_X8_reads_209 : zD m_X8_reads 209 (.iload 7) 2 211 := ⟨eg_X8_reads_112.2.2.2.2.1, rfl⟩
theorem d_X8_reads_211 : zD m_X8_reads 211 (.iload 6) 2 213 := ⟨eg_X8_reads_112.2.2.2.2.2.1, rfl⟩
theorem d_X8_reads_213 : zDj m_X8_reads 213 (.if_icmp .ge) 216 259 := ⟨46, eg_X8_reads_112.2.2.2.2.2.2.1, rfl, by decide⟩
theorem d_X8_reads_216 : zD m_X8_reads 216 (.bipush 40) 2 218 := ⟨eg_X8_reads_112.2.2.2.2.2.2.2, rfl⟩
theorem d_X8_reads_218 : zD m_X8_reads 218 (.iload_n 1) 1 219 := ⟨eg_X8_reads_120.1, rfl⟩
theorem d_X8_reads_219 : zD m_X8_reads 219 (.imul) 1 220 := ⟨eg_X8_reads_120.2.1, rfl⟩
theorem d_X8_reads_220 : zD m_X8_reads 220 (.iload_n 3) 1 221 := ⟨eg_X8_reads_120.2.2.1, rfl⟩
theorem d_X8_reads_221 : zD m_X8_reads 221 (.iadd) 1 222 := ⟨eg_X8_reads_120.2.2.2.1, rfl⟩
theorem d_X8_reads_222 : zD m_X8_reads 222 (.iconst 2) 1 223 := ⟨eg_X8_reads_120.2.2.2.2.1, rfl⟩
theorem d_X8_reads_223 : zD m_X8_reads 223 (.iload 7) 2 225 := ⟨eg_X8_reads_120.2.2.2.2.2.1, rfl⟩
theorem d_X8_reads_225 : zD m_X8_reads 225 (.imul) 1 226 := ⟨eg_X8_reads_120.2.2.2.2.2.2.1, rfl⟩
theorem d_X8_reads_226 : zD m_X8_reads 226 (.iadd) 1 227 := ⟨eg_X8_reads_120.2.2.2.2.2.2.2, rfl⟩
theorem d_X8_reads_227 : zD m_X8_reads 227 (.istore 8) 2 229 := ⟨eg_X8_reads_128.1, rfl⟩
theorem d_X8_reads_229 : zD m_X8_reads 229 (.aload_n 0) 1 230 := ⟨eg_X8_reads_128.2.1, rfl⟩
theorem d_X8_reads_230 : zD m_X8_reads 230 (.getfield 7) 3 233 := ⟨eg_X8_reads_128.2.2.1, rfl⟩
theorem d_X8_reads_233 : zD m_X8_reads 233 (.bipush 104) 2 235 := ⟨eg_X8_reads_128.2.2.2.1, rfl⟩
theorem d_X8_reads_235 : zD m_X8_reads 235 (.aload_n 0) 1 236 := ⟨eg_X8_reads_128.2.2.2.2.1, rfl⟩
theorem d_X8_reads_236 : zD m_X8_reads 236 (.getfield 69) 3 239 := ⟨eg_X8_reads_128.2.2.2.2.2.1, rfl⟩
theorem d_X8_reads_239 : zD m_X8_reads 239 (.iload 8) 2 241 := ⟨eg_X8_reads_128.2.2.2.2.2.2.1, rfl⟩
theorem d_X8_reads_241 : zD m_X8_reads 241 (.iaload) 1 242 := ⟨eg_X8_reads_128.2.2.2.2.2.2.2, rfl⟩
theorem d_X8_reads_242 : zD m_X8_reads 242 (.iadd) 1 243 := ⟨eg_X8_reads_136.1, rfl⟩
theorem d_X8_reads_243 : zD m_X8_reads 243 (.aload_n 0) 1 244 := ⟨eg_X8_reads_136.2.1, rfl⟩
theorem d_X8_reads_244 : zD m_X8_reads 244 (.getfield 69) 3 247 := ⟨eg_X8_reads_136.2.2.1, rfl⟩
theorem d_X8_reads_247 : zD m_X8_reads 247 (.iload 8) 2 249 := ⟨eg_X8_reads_136.2.2.2.1, rfl⟩
theorem d_X8_reads_249 : zD m_X8_reads 249 (.iconst 1) 1 250 := ⟨eg_X8_reads_136.2.2.2.2.1, rfl⟩
theorem d_X8_reads_250 : zD m_X8_reads 250 (.iadd) 1 251 := ⟨eg_X8_reads_136.2.2.2.2.2.1, rfl⟩
theorem d_X8_reads_251 : zD m_X8_reads 251 (.iaload) 1 252 := ⟨eg_X8_reads_136.2.2.2.2.2.2.1, rfl⟩
theorem d_X8_reads_252 : zD m_X8_reads 252 (.iastore) 1 253 := ⟨eg_X8_reads_136.2.2.2.2.2.2.2, rfl⟩
theorem d_X8_reads_253 : zD m_X8_reads 253 (.iinc 7 1) 3 256 := ⟨eg_X8_reads_144.1, rfl⟩
theorem d_X8_reads_256 : zDj m_X8_reads 256 (.goto) 259 209 := ⟨-47, eg_X8_reads_144.2.1, rfl, by decide⟩
theorem d_X8_reads_259 : zD m_X8_reads 259 (.iload 6) 2 261 := ⟨eg_X8_reads_144.2.2.1, rfl⟩
theorem d_X8_reads_261 : decode (zcc m_X8_reads) 261 = .ok (.ireturn, 1) := eg_X8_reads_144.2.2.2
set_option maxRecDepth 20000 in
theorem eg_X8_torn_0 : decode (zcc m_X8_torn) 0 = .ok (.aload_n 0, 1) ∧ decode (zcc m_X8_torn) 1 = .ok (.getfield 321, 3) ∧ decode (zcc m_X8_torn) 4 = .ok (.ireturn, 1) := by decide +kernel
theorem d_X8_torn_0 : zD m_X8_torn 0 (.aload_n 0) 1 1 := ⟨eg_X8_torn_0.1, rfl⟩
theorem d_X8_torn_1 : zD m_X8_torn 1 (.getfield 321) 3 4 := ⟨eg_X8_torn_0.2.1, rfl⟩
theorem d_X8_torn_4 : decode (zcc m_X8_torn) 4 = .ok (.ireturn, 1) := eg_X8_torn_0.2.2
set_option maxRecDepth 20000 in
theorem eg_X8_count_0 : decode (zcc m_X8_count) 0 = .ok (.iconst 0, 1) ∧ decode (zcc m_X8_count) 1 = .ok (.istore_n 2, 1) ∧ decode (zcc m_X8_count) 2 = .ok (.iconst 0, 1) ∧ decode (zcc m_X8_count) 3 = .ok (.istore_n 3, 1) ∧ decode (zcc m_X8_count) 4 = .ok (.iconst 0, 1) ∧ decode (zcc m_X8_count) 5 = .ok (.istore 4, 2) ∧ decode (zcc m_X8_count) 7 = .ok (.iconst 0, 1) ∧ decode (zcc m_X8_count) 8 = .ok (.istore 5, 2) := by decide +kernel
set_option maxRecDepth 20000 in
theorem eg_X8_count_8 : decode (zcc m_X8_count) 10 = .ok (.iload 5, 2) ∧ decode (zcc m_X8_count) 12 = .ok (.bipush 48, 2) ∧ decode (zcc m_X8_count) 14 = .ok (.if_icmp .ge (77), 3) ∧ decode (zcc m_X8_count) 17 = .ok (.iload_n 2, 1) ∧ decode (zcc m_X8_count) 18 = .ok (.aload_n 0, 1) ∧ decode (zcc m_X8_count) 19 = .ok (.getfield 24, 3) ∧ decode (zcc m_X8_count) 22 = .ok (.iload 5, 2) ∧ decode (zcc m_X8_count) 24 = .ok (.iaload, 1) := by decide +kernel
set_option maxRecDepth 20000 in
theorem eg_X8_count_16 : decode (zcc m_X8_count) 25 = .ok (.ifCond .le (7), 3) ∧ decode (zcc m_X8_count) 28 = .ok (.iconst 1, 1) ∧ decode (zcc m_X8_count) 29 = .ok (.goto (4), 3) ∧ decode (zcc m_X8_count) 32 = .ok (.iconst 0, 1) ∧ decode (zcc m_X8_count) 33 = .ok (.invokestatic 237, 3) ∧ decode (zcc m_X8_count) 36 = .ok (.iadd, 1) ∧ decode (zcc m_X8_count) 37 = .ok (.istore_n 2, 1) ∧ decode (zcc m_X8_count) 38 = .ok (.iload_n 3, 1) := by decide +kernel
set_option maxRecDepth 20000 in
theorem eg_X8_count_24 : decode (zcc m_X8_count) 39 = .ok (.aload_n 0, 1) ∧ decode (zcc m_X8_count) 40 = .ok (.getfield 27, 3) ∧ decode (zcc m_X8_count) 43 = .ok (.iload 5, 2) ∧ decode (zcc m_X8_count) 45 = .ok (.iaload, 1) ∧ decode (zcc m_X8_count) 46 = .ok (.ifCond .le (7), 3) ∧ decode (zcc m_X8_count) 49 = .ok (.iconst 1, 1) ∧ decode (zcc m_X8_count) 50 = .ok (.goto (4), 3) ∧ decode (zcc m_X8_count) 53 = .ok (.iconst 0, 1) := by decide +kernel
set_option maxRecDepth 20000 in
theorem eg_X8_count_32 : decode (zcc m_X8_count) 54 = .ok (.invokestatic 237, 3) ∧ decode (zcc m_X8_count) 57 = .ok (.iadd, 1) ∧ decode (zcc m_X8_count) 58 = .ok (.istore_n 3, 1) ∧ decode (zcc m_X8_count) 59 = .ok (.iload 4, 2) ∧ decode (zcc m_X8_count) 61 = .ok (.aload_n 0, 1) ∧ decode (zcc m_X8_count) 62 = .ok (.getfield 7, 3) ∧ decode (zcc m_X8_count) 65 = .ok (.bipush 104, 2) ∧ decode (zcc m_X8_count) 67 = .ok (.iload 5, 2) := by decide +kernel
set_option maxRecDepth 20000 in
theorem eg_X8_count_40 : decode (zcc m_X8_count) 69 = .ok (.iadd, 1) ∧ decode (zcc m_X8_count) 70 = .ok (.iaload, 1) ∧ decode (zcc m_X8_count) 71 = .ok (.ifCond .le (7), 3) ∧ decode (zcc m_X8_count) 74 = .ok (.iconst 1, 1) ∧ decode (zcc m_X8_count) 75 = .ok (.goto (4), 3) ∧ decode (zcc m_X8_count) 78 = .ok (.iconst 0, 1) ∧ decode (zcc m_X8_count) 79 = .ok (.invokestatic 237, 3) ∧ decode (zcc m_X8_count) 82 = .ok (.iadd, 1) := by decide +kernel
set_option maxRecDepth 20000 in
theorem eg_X8_count_48 : decode (zcc m_X8_count) 83 = .ok (.istore 4, 2) ∧ decode (zcc m_X8_count) 85 = .ok (.iinc 5 1, 3) ∧ decode (zcc m_X8_count) 88 = .ok (.goto (-78), 3) ∧ decode (zcc m_X8_count) 91 = .ok (.iload_n 1, 1) ∧ decode (zcc m_X8_count) 92 = .ok (.tableswitch 104 0 6 #[44, 46, 48, 53, 73, 78, 101], 44) ∧ decode (zcc m_X8_count) 136 = .ok (.iload_n 2, 1) ∧ decode (zcc m_X8_count) 137 = .ok (.ireturn, 1) ∧ decode (zcc m_X8_count) 138 = .ok (.iload_n 3, 1) := by decide +kernel
set_option maxRecDepth 20000 in
theorem eg_X8_count_56 : decode (zcc m_X8_count) 139 = .ok (.ireturn, 1) ∧ decode (zcc m_X8_count) 140 = .ok (.aload_n 0, 1) ∧ decode (zcc m_X8_count) 141 = .ok (.getfield 99, 3) ∧ decode (zcc m_X8_count) 144 = .ok (.ireturn, 1) ∧ decode (zcc m_X8_count) 145 = .ok (.aload_n 0, 1) ∧ decode (zcc m_X8_count) 146 = .ok (.getfield 17, 3) ∧ decode (zcc m_X8_count) 149 = .ok (.iconst 0, 1) ∧ decode (zcc m_X8_count) 150 = .ok (.baload, 1) := by decide +kernel
set_option maxRecDepth 20000 in
theorem eg_X8_count_64 : decode (zcc m_X8_count) 151 = .ok (.invokestatic 237, 3) ∧ decode (zcc m_X8_count) 154 = .ok (.aload_n 0, 1) ∧ decode (zcc m_X8_count) 155 = .ok (.getfield 17, 3) ∧ decode (zcc m_X8_count) 158 = .ok (.iconst 1, 1) ∧ decode (zcc m_X8_count) 159 = .ok (.baload, 1) ∧ decode (zcc m_X8_count) 160 = .ok (.invokestatic 237, 3) ∧ decode (zcc m_X8_count) 163 = .ok (.iadd, 1) ∧ decode (zcc m_X8_count) 164 = .ok (.ireturn, 1) := by decide +kernel
set_option maxRecDepth 20000 in
theorem eg_X8_count_72 : decode (zcc m_X8_count) 165 = .ok (.aload_n 0, 1) ∧ decode (zcc m_X8_count) 166 = .ok (.getfield 102, 3) ∧ decode (zcc m_X8_count) 169 = .ok (.ireturn, 1) ∧ decode (zcc m_X8_count) 170 = .ok (.aload_n 0, 1) ∧ decode (zcc m_X8_count) 171 = .ok (.getfield 63, 3) ∧ decode (zcc m_X8_count) 174 = .ok (.iconst 0, 1) ∧ decode (zcc m_X8_count) 175 = .ok (.iaload, 1) ∧ decode (zcc m_X8_count) 176 = .ok (.bipush (-4), 2) := by decide +kernel
set_option maxRecDepth 20000 in
theorem eg_X8_count_80 : decode (zcc m_X8_count) 178 = .ok (.if_icmp .ne (8), 3) ∧ decode (zcc m_X8_count) 181 = .ok (.bipush (-4), 2) ∧ decode (zcc m_X8_count) 183 = .ok (.goto (9), 3) ∧ decode (zcc m_X8_count) 186 = .ok (.aload_n 0, 1) ∧ decode (zcc m_X8_count) 187 = .ok (.getfield 66, 3) ∧ decode (zcc m_X8_count) 190 = .ok (.iconst 0, 1) ∧ decode (zcc m_X8_count) 191 = .ok (.iaload, 1) ∧ decode (zcc m_X8_count) 192 = .ok (.ireturn, 1) := by decide +kernel
set_option maxRecDepth 20000 in
theorem eg_X8_count_88 : decode (zcc m_X8_count) 193 = .ok (.iload 4, 2) ∧ decode (zcc m_X8_count) 195 = .ok (.ireturn, 1) ∧ decode (zcc m_X8_count) 196 = .ok (.iconst (-1), 1) ∧ decode (zcc m_X8_count) 197 = .ok (.ireturn, 1) := by decide +kernel
theorem d_X8_count_0 : zD m_X8_count 0 (.iconst 0) 1 1 := ⟨eg_X8_count_0.1, rfl⟩
theorem d_X8_count_1 : zD m_X8_count 1 (.istore_n 2) 1 2 := ⟨eg_X8_count_0.2.1, rfl⟩
theorem d_X8_count_2 : zD m_X8_count 2 (.iconst 0) 1 3 := ⟨eg_X8_count_0.2.2.1, rfl⟩
theorem d_X8_count_3 : zD m_X8_count 3 (.istore_n 3) 1 4 := ⟨eg_X8_count_0.2.2.2.1, rfl⟩
theorem d_X8_count_4 : zD m_X8_count 4 (.iconst 0) 1 5 := ⟨eg_X8_count_0.2.2.2.2.1, rfl⟩
theorem d_X8_count_5 : zD m_X8_count 5 (.istore 4) 2 7 := ⟨eg_X8_count_0.2.2.2.2.2.1, rfl⟩
theorem d_X8_count_7 : zD m_X8_count 7 (.iconst 0) 1 8 := ⟨eg_X8_count_0.2.2.2.2.2.2.1, rfl⟩
theorem d_X8_count_8 : zD m_X8_count 8 (.istore 5) 2 10 := ⟨eg_X8_count_0.2.2.2.2.2.2.2, rfl⟩
theorem d_X8_count_10 : zD m_X8_count 10 (.iload 5) 2 12 := ⟨eg_X8_count_8.1, rfl⟩
theorem d_X8_count_12 : zD m_X8_count 12 (.bipush 48) 2 14 := ⟨eg_X8_count_8.2.1, rfl⟩
theorem d_X8_count_14 : zDj m_X8_count 14 (.if_icmp .ge) 17 91 := ⟨77, eg_X8_count_8.2.2.1, rfl, by decide⟩
theorem d_X8_count_17 : zD m_X8_count 17 (.iload_n 2) 1 18 := ⟨eg_X8_count_8.2.2.2.1, rfl⟩
theorem d_X8_count_18 : zD m_X8_count 18 (.aload_n 0) 1 19 := ⟨eg_X8_count_8.2.2.2.2.1, rfl⟩
theorem d_X8_count_19 : zD m_X8_count 19 (.getfield 24) 3 22 := ⟨eg_X8_count_8.2.2.2.2.2.1, rfl⟩
theorem d_X8_count_22 : zD m_X8_count 22 (.iload 5) 2 24 := ⟨eg_X8_count_8.2.2.2.2.2.2.1, rfl⟩
theorem d_X8_count_24 : zD m_X8_count 24 (.iaload) 1 25 := ⟨eg_X8_count_8.2.2.2.2.2.2.2, rfl⟩
theorem d_X8_count_25 : zDj m_X8_count 25 (.ifCond .le) 28 32 := ⟨7, eg_X8_count_16.1, rfl, by decide⟩
theorem d_X8_count_28 : zD m_X8_count 28 (.iconst 1) 1 29 := ⟨eg_X8_count_16.2.1, rfl⟩
theorem d_X8_count_29 : zDj m_X8_count 29 (.goto) 32 33 := ⟨4, eg_X8_count_16.2.2.1, rfl, by decide⟩
theorem d_X8_count_32 : zD m_X8_count 32 (.iconst 0) 1 33 := ⟨eg_X8_count_16.2.2.2.1, rfl⟩
theorem d_X8_count_33 : zD m_X8_count 33 (.invokestatic 237) 3 36 := ⟨eg_X8_count_16.2.2.2.2.1, rfl⟩
theorem d_X8_count_36 : zD m_X8_count 36 (.iadd) 1 37 := ⟨eg_X8_count_16.2.2.2.2.2.1, rfl⟩
theorem d_X8_count_37 : zD m_X8_count 37 (.istore_n 2) 1 38 := ⟨eg_X8_count_16.2.2.2.2.2.2.1, rfl⟩
theorem d_X8_count_38 : zD m_X8_count 38 (.iload_n 3) 1 39 := ⟨eg_X8_count_16.2.2.2.2.2.2.2, rfl⟩
theorem d_X8_count_39 : zD m_X8_count 39 (.aload_n 0) 1 40 := ⟨eg_X8_count_24.1, rfl⟩
theorem d_X8_count_40 : zD m_X8_count 40 (.getfield 27) 3 43 := ⟨eg_X8_count_24.2.1, rfl⟩
theorem d_X8_count_43 : zD m_X8_count 43 (.iload 5) 2 45 := ⟨eg_X8_count_24.2.2.1, rfl⟩
theorem d_X8_count_45 : zD m_X8_count 45 (.iaload) 1 46 := ⟨eg_X8_count_24.2.2.2.1, rfl⟩
theorem d_X8_count_46 : zDj m_X8_count 46 (.ifCond .le) 49 53 := ⟨7, eg_X8_count_24.2.2.2.2.1, rfl, by decide⟩
theorem d_X8_count_49 : zD m_X8_count 49 (.iconst 1) 1 50 := ⟨eg_X8_count_24.2.2.2.2.2.1, rfl⟩
theorem d_X8_count_50 : zDj m_X8_count 50 (.goto) 53 54 := ⟨4, eg_X8_count_24.2.2.2.2.2.2.1, rfl, by decide⟩
theorem d_X8_count_53 : zD m_X8_count 53 (.iconst 0) 1 54 := ⟨eg_X8_count_24.2.2.2.2.2.2.2, rfl⟩
theorem d_X8_count_54 : zD m_X8_count 54 (.invokestatic 237) 3 57 := ⟨eg_X8_count_32.1, rfl⟩
theorem d_X8_count_57 : zD m_X8_count 57 (.iadd) 1 58 := ⟨eg_X8_count_32.2.1, rfl⟩
theorem d_X8_count_58 : zD m_X8_count 58 (.istore_n 3) 1 59 := ⟨eg_X8_count_32.2.2.1, rfl⟩
theorem d_X8_count_59 : zD m_X8_count 59 (.iload 4) 2 61 := ⟨eg_X8_count_32.2.2.2.1, rfl⟩
theorem d_X8_count_61 : zD m_X8_count 61 (.aload_n 0) 1 62 := ⟨eg_X8_count_32.2.2.2.2.1, rfl⟩
theorem d_X8_count_62 : zD m_X8_count 62 (.getfield 7) 3 65 := ⟨eg_X8_count_32.2.2.2.2.2.1, rfl⟩
theorem d_X8_count_65 : zD m_X8_count 65 (.bipush 104) 2 67 := ⟨eg_X8_count_32.2.2.2.2.2.2.1, rfl⟩
theorem d_X8_count_67 : zD m_X8_count 67 (.iload 5) 2 69 := ⟨eg_X8_count_32.2.2.2.2.2.2.2, rfl⟩
theorem d_X8_count_69 : zD m_X8_count 69 (.iadd) 1 70 := ⟨eg_X8_count_40.1, rfl⟩
theorem d_X8_count_70 : zD m_X8_count 70 (.iaload) 1 71 := ⟨eg_X8_count_40.2.1, rfl⟩
theorem d_X8_count_71 : zDj m_X8_count 71 (.ifCond .le) 74 78 := ⟨7, eg_X8_count_40.2.2.1, rfl, by decide⟩
theorem d_X8_count_74 : zD m_X8_count 74 (.iconst 1) 1 75 := ⟨eg_X8_count_40.2.2.2.1, rfl⟩
theorem d_X8_count_75 : zDj m_X8_count 75 (.goto) 78 79 := ⟨4, eg_X8_count_40.2.2.2.2.1, rfl, by decide⟩
theorem d_X8_count_78 : zD m_X8_count 78 (.iconst 0) 1 79 := ⟨eg_X8_count_40.2.2.2.2.2.1, rfl⟩
theorem d_X8_count_79 : zD m_X8_count 79 (.invokestatic 237) 3 82 := ⟨eg_X8_count_40.2.2.2.2.2.2.1, rfl⟩
theorem d_X8_count_82 : zD m_X8_count 82 (.iadd) 1 83 := ⟨eg_X8_count_40.2.2.2.2.2.2.2, rfl⟩
theorem d_X8_count_83 : zD m_X8_count 83 (.istore 4) 2 85 := ⟨eg_X8_count_48.1, rfl⟩
theorem d_X8_count_85 : zD m_X8_count 85 (.iinc 5 1) 3 88 := ⟨eg_X8_count_48.2.1, rfl⟩
theorem d_X8_count_88 : zDj m_X8_count 88 (.goto) 91 10 := ⟨-78, eg_X8_count_48.2.2.1, rfl, by decide⟩
theorem d_X8_count_91 : zD m_X8_count 91 (.iload_n 1) 1 92 := ⟨eg_X8_count_48.2.2.2.1, rfl⟩
theorem d_X8_count_92 : decode (zcc m_X8_count) 92 = .ok (.tableswitch 104 0 6 #[44, 46, 48, 53, 73, 78, 101], 44) := eg_X8_count_48.2.2.2.2.1
theorem d_X8_count_136 : zD m_X8_count 136 (.iload_n 2) 1 137 := ⟨eg_X8_count_48.2.2.2.2.2.1, rfl⟩
theorem d_X8_count_137 : decode (zcc m_X8_count) 137 = .ok (.ireturn, 1) := eg_X8_count_48.2.2.2.2.2.2.1
theorem d_X8_count_138 : zD m_X8_count 138 (.iload_n 3) 1 139 := ⟨eg_X8_count_48.2.2.2.2.2.2.2, rfl⟩
theorem d_X8_count_139 : decode (zcc m_X8_count) 139 = .ok (.ireturn, 1) := eg_X8_count_56.1
theorem d_X8_count_140 : zD m_X8_count 140 (.aload_n 0) 1 141 := ⟨eg_X8_count_56.2.1, rfl⟩
theorem d_X8_count_141 : zD m_X8_count 141 (.getfield 99) 3 144 := ⟨eg_X8_count_56.2.2.1, rfl⟩
theorem d_X8_count_144 : decode (zcc m_X8_count) 144 = .ok (.ireturn, 1) := eg_X8_count_56.2.2.2.1
theorem d_X8_count_145 : zD m_X8_count 145 (.aload_n 0) 1 146 := ⟨eg_X8_count_56.2.2.2.2.1, rfl⟩
theorem d_X8_count_146 : zD m_X8_count 146 (.getfield 17) 3 149 := ⟨eg_X8_count_56.2.2.2.2.2.1, rfl⟩
theorem d_X8_count_149 : zD m_X8_count 149 (.iconst 0) 1 150 := ⟨eg_X8_count_56.2.2.2.2.2.2.1, rfl⟩
theorem d_X8_count_150 : zD m_X8_count 150 (.baload) 1 151 := ⟨eg_X8_count_56.2.2.2.2.2.2.2, rfl⟩
theorem d_X8_count_151 : zD m_X8_count 151 (.invokestatic 237) 3 154 := ⟨eg_X8_count_64.1, rfl⟩
theorem d_X8_count_154 : zD m_X8_count 154 (.aload_n 0) 1 155 := ⟨eg_X8_count_64.2.1, rfl⟩
theorem d_X8_count_155 : zD m_X8_count 155 (.getfield 17) 3 158 := ⟨eg_X8_count_64.2.2.1, rfl⟩
theorem d_X8_count_158 : zD m_X8_count 158 (.iconst 1) 1 159 := ⟨eg_X8_count_64.2.2.2.1, rfl⟩
theorem d_X8_count_159 : zD m_X8_count 159 (.baload) 1 160 := ⟨eg_X8_count_64.2.2.2.2.1, rfl⟩
theorem d_X8_count_160 : zD m_X8_count 160 (.invokestatic 237) 3 163 := ⟨eg_X8_count_64.2.2.2.2.2.1, rfl⟩
theorem d_X8_count_163 : zD m_X8_count 163 (.iadd) 1 164 := ⟨eg_X8_count_64.2.2.2.2.2.2.1, rfl⟩
theorem d_X8_count_164 : decode (zcc m_X8_count) 164 = .ok (.ireturn, 1) := eg_X8_count_64.2.2.2.2.2.2.2
theorem d_X8_count_165 : zD m_X8_count 165 (.aload_n 0) 1 166 := ⟨eg_X8_count_72.1, rfl⟩
theorem d_X8_count_166 : zD m_X8_count 166 (.getfield 102) 3 169 := ⟨eg_X8_count_72.2.1, rfl⟩
theorem d_X8_count_169 : decode (zcc m_X8_count) 169 = .ok (.ireturn, 1) := eg_X8_count_72.2.2.1
theorem d_X8_count_170 : zD m_X8_count 170 (.aload_n 0) 1 171 := ⟨eg_X8_count_72.2.2.2.1, rfl⟩
theorem d_X8_count_171 : zD m_X8_count 171 (.getfield 63) 3 174 := ⟨eg_X8_count_72.2.2.2.2.1, rfl⟩
theorem d_X8_count_174 : zD m_X8_count 174 (.iconst 0) 1 175 := ⟨eg_X8_count_72.2.2.2.2.2.1, rfl⟩
theorem d_X8_count_175 : zD m_X8_count 175 (.iaload) 1 176 := ⟨eg_X8_count_72.2.2.2.2.2.2.1, rfl⟩
theorem d_X8_count_176 : zD m_X8_count 176 (.bipush (-4)) 2 178 := ⟨eg_X8_count_72.2.2.2.2.2.2.2, rfl⟩
theorem d_X8_count_178 : zDj m_X8_count 178 (.if_icmp .ne) 181 186 := ⟨8, eg_X8_count_80.1, rfl, by decide⟩
theorem d_X8_count_181 : zD m_X8_count 181 (.bipush (-4)) 2 183 := ⟨eg_X8_count_80.2.1, rfl⟩
theorem d_X8_count_183 : zDj m_X8_count 183 (.goto) 186 192 := ⟨9, eg_X8_count_80.2.2.1, rfl, by decide⟩
theorem d_X8_count_186 : zD m_X8_count 186 (.aload_n 0) 1 187 := ⟨eg_X8_count_80.2.2.2.1, rfl⟩
theorem d_X8_count_187 : zD m_X8_count 187 (.getfield 66) 3 190 := ⟨eg_X8_count_80.2.2.2.2.1, rfl⟩
theorem d_X8_count_190 : zD m_X8_count 190 (.iconst 0) 1 191 := ⟨eg_X8_count_80.2.2.2.2.2.1, rfl⟩
theorem d_X8_count_191 : zD m_X8_count 191 (.iaload) 1 192 := ⟨eg_X8_count_80.2.2.2.2.2.2.1, rfl⟩
theorem d_X8_count_192 : decode (zcc m_X8_count) 192 = .ok (.ireturn, 1) := eg_X8_count_80.2.2.2.2.2.2.2
theorem d_X8_count_193 : zD m_X8_count 193 (.iload 4) 2 195 := ⟨eg_X8_count_88.1, rfl⟩
theorem d_X8_count_195 : decode (zcc m_X8_count) 195 = .ok (.ireturn, 1) := eg_X8_count_88.2.1
theorem d_X8_count_196 : zD m_X8_count 196 (.iconst (-1)) 1 197 := ⟨eg_X8_count_88.2.2.1, rfl⟩
theorem d_X8_count_197 : decode (zcc m_X8_count) 197 = .ok (.ireturn, 1) := eg_X8_count_88.2.2.2
