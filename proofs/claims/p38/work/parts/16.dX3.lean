set_option maxRecDepth 20000 in
theorem eg_X3_init_0 : decode (zcc m_X3_init) 0 = .ok (.aload_n 0, 1) ∧ decode (zcc m_X3_init) 1 = .ok (.invokespecial 3, 3) ∧ decode (zcc m_X3_init) 4 = .ok (.aload_n 0, 1) ∧ decode (zcc m_X3_init) 5 = .ok (.bipush 7, 2) ∧ decode (zcc m_X3_init) 7 = .ok (.newarray .int, 2) ∧ decode (zcc m_X3_init) 9 = .ok (.putfield 9, 3) ∧ decode (zcc m_X3_init) 12 = .ok (.aload_n 0, 1) ∧ decode (zcc m_X3_init) 13 = .ok (.bipush 48, 2) := by decide +kernel
set_option maxRecDepth 20000 in
theorem eg_X3_init_8 : decode (zcc m_X3_init) 15 = .ok (.newarray .int, 2) ∧ decode (zcc m_X3_init) 17 = .ok (.putfield 15, 3) ∧ decode (zcc m_X3_init) 20 = .ok (.aload_n 0, 1) ∧ decode (zcc m_X3_init) 21 = .ok (.bipush 48, 2) ∧ decode (zcc m_X3_init) 23 = .ok (.newarray .int, 2) ∧ decode (zcc m_X3_init) 25 = .ok (.putfield 18, 3) ∧ decode (zcc m_X3_init) 28 = .ok (.aload_n 0, 1) ∧ decode (zcc m_X3_init) 29 = .ok (.bipush 12, 2) := by decide +kernel
set_option maxRecDepth 20000 in
theorem eg_X3_init_16 : decode (zcc m_X3_init) 31 = .ok (.newarray .int, 2) ∧ decode (zcc m_X3_init) 33 = .ok (.putfield 21, 3) ∧ decode (zcc m_X3_init) 36 = .ok (.aload_n 0, 1) ∧ decode (zcc m_X3_init) 37 = .ok (.invokevirtual 24, 3) ∧ decode (zcc m_X3_init) 40 = .ok (.return_, 1) := by decide +kernel
theorem d_X3_init_0 : zD m_X3_init 0 (.aload_n 0) 1 1 := ⟨eg_X3_init_0.1, rfl⟩
theorem d_X3_init_1 : zD m_X3_init 1 (.invokespecial 3) 3 4 := ⟨eg_X3_init_0.2.1, rfl⟩
theorem d_X3_init_4 : zD m_X3_init 4 (.aload_n 0) 1 5 := ⟨eg_X3_init_0.2.2.1, rfl⟩
theorem d_X3_init_5 : zD m_X3_init 5 (.bipush 7) 2 7 := ⟨eg_X3_init_0.2.2.2.1, rfl⟩
theorem d_X3_init_7 : zD m_X3_init 7 (.newarray .int) 2 9 := ⟨eg_X3_init_0.2.2.2.2.1, rfl⟩
theorem d_X3_init_9 : zD m_X3_init 9 (.putfield 9) 3 12 := ⟨eg_X3_init_0.2.2.2.2.2.1, rfl⟩
theorem d_X3_init_12 : zD m_X3_init 12 (.aload_n 0) 1 13 := ⟨eg_X3_init_0.2.2.2.2.2.2.1, rfl⟩
theorem d_X3_init_13 : zD m_X3_init 13 (.bipush 48) 2 15 := ⟨eg_X3_init_0.2.2.2.2.2.2.2, rfl⟩
theorem d_X3_init_15 : zD m_X3_init 15 (.newarray .int) 2 17 := ⟨eg_X3_init_8.1, rfl⟩
theorem d_X3_init_17 : zD m_X3_init 17 (.putfield 15) 3 20 := ⟨eg_X3_init_8.2.1, rfl⟩
theorem d_X3_init_20 : zD m_X3_init 20 (.aload_n 0) 1 21 := ⟨eg_X3_init_8.2.2.1, rfl⟩
theorem d_X3_init_21 : zD m_X3_init 21 (.bipush 48) 2 23 := ⟨eg_X3_init_8.2.2.2.1, rfl⟩
theorem d_X3_init_23 : zD m_X3_init 23 (.newarray .int) 2 25 := ⟨eg_X3_init_8.2.2.2.2.1, rfl⟩
theorem d_X3_init_25 : zD m_X3_init 25 (.putfield 18) 3 28 := ⟨eg_X3_init_8.2.2.2.2.2.1, rfl⟩
theorem d_X3_init_28 : zD m_X3_init 28 (.aload_n 0) 1 29 := ⟨eg_X3_init_8.2.2.2.2.2.2.1, rfl⟩
theorem d_X3_init_29 : zD m_X3_init 29 (.bipush 12) 2 31 := ⟨eg_X3_init_8.2.2.2.2.2.2.2, rfl⟩
theorem d_X3_init_31 : zD m_X3_init 31 (.newarray .int) 2 33 := ⟨eg_X3_init_16.1, rfl⟩
theorem d_X3_init_33 : zD m_X3_init 33 (.putfield 21) 3 36 := ⟨eg_X3_init_16.2.1, rfl⟩
theorem d_X3_init_36 : zD m_X3_init 36 (.aload_n 0) 1 37 := ⟨eg_X3_init_16.2.2.1, rfl⟩
theorem d_X3_init_37 : zD m_X3_init 37 (.invokevirtual 24) 3 40 := ⟨eg_X3_init_16.2.2.2.1, rfl⟩
theorem d_X3_init_40 : decode (zcc m_X3_init) 40 = .ok (.return_, 1) := eg_X3_init_16.2.2.2.2
set_option maxRecDepth 20000 in
theorem eg_X3_beAsAtFirst_0 : decode (zcc m_X3_beAsAtFirst) 0 = .ok (.aload_n 0, 1) ∧ decode (zcc m_X3_beAsAtFirst) 1 = .ok (.getfield 9, 3) ∧ decode (zcc m_X3_beAsAtFirst) 4 = .ok (.iconst 0, 1) ∧ decode (zcc m_X3_beAsAtFirst) 5 = .ok (.sipush 200, 3) ∧ decode (zcc m_X3_beAsAtFirst) 8 = .ok (.iastore, 1) ∧ decode (zcc m_X3_beAsAtFirst) 9 = .ok (.aload_n 0, 1) ∧ decode (zcc m_X3_beAsAtFirst) 10 = .ok (.getfield 9, 3) ∧ decode (zcc m_X3_beAsAtFirst) 13 = .ok (.iconst 1, 1) := by decide +kernel
set_option maxRecDepth 20000 in
theorem eg_X3_beAsAtFirst_8 : decode (zcc m_X3_beAsAtFirst) 14 = .ok (.iconst 0, 1) ∧ decode (zcc m_X3_beAsAtFirst) 15 = .ok (.iastore, 1) ∧ decode (zcc m_X3_beAsAtFirst) 16 = .ok (.aload_n 0, 1) ∧ decode (zcc m_X3_beAsAtFirst) 17 = .ok (.getfield 9, 3) ∧ decode (zcc m_X3_beAsAtFirst) 20 = .ok (.iconst 2, 1) ∧ decode (zcc m_X3_beAsAtFirst) 21 = .ok (.iconst 0, 1) ∧ decode (zcc m_X3_beAsAtFirst) 22 = .ok (.iastore, 1) ∧ decode (zcc m_X3_beAsAtFirst) 23 = .ok (.aload_n 0, 1) := by decide +kernel
set_option maxRecDepth 20000 in
theorem eg_X3_beAsAtFirst_16 : decode (zcc m_X3_beAsAtFirst) 24 = .ok (.getfield 9, 3) ∧ decode (zcc m_X3_beAsAtFirst) 27 = .ok (.iconst 3, 1) ∧ decode (zcc m_X3_beAsAtFirst) 28 = .ok (.iconst 0, 1) ∧ decode (zcc m_X3_beAsAtFirst) 29 = .ok (.iastore, 1) ∧ decode (zcc m_X3_beAsAtFirst) 30 = .ok (.aload_n 0, 1) ∧ decode (zcc m_X3_beAsAtFirst) 31 = .ok (.getfield 9, 3) ∧ decode (zcc m_X3_beAsAtFirst) 34 = .ok (.iconst 4, 1) ∧ decode (zcc m_X3_beAsAtFirst) 35 = .ok (.iconst 1, 1) := by decide +kernel
set_option maxRecDepth 20000 in
theorem eg_X3_beAsAtFirst_24 : decode (zcc m_X3_beAsAtFirst) 36 = .ok (.iastore, 1) ∧ decode (zcc m_X3_beAsAtFirst) 37 = .ok (.aload_n 0, 1) ∧ decode (zcc m_X3_beAsAtFirst) 38 = .ok (.getfield 9, 3) ∧ decode (zcc m_X3_beAsAtFirst) 41 = .ok (.iconst 5, 1) ∧ decode (zcc m_X3_beAsAtFirst) 42 = .ok (.iconst 1, 1) ∧ decode (zcc m_X3_beAsAtFirst) 43 = .ok (.iastore, 1) ∧ decode (zcc m_X3_beAsAtFirst) 44 = .ok (.aload_n 0, 1) ∧ decode (zcc m_X3_beAsAtFirst) 45 = .ok (.getfield 9, 3) := by decide +kernel
set_option maxRecDepth 20000 in
theorem eg_X3_beAsAtFirst_32 : decode (zcc m_X3_beAsAtFirst) 48 = .ok (.bipush 6, 2) ∧ decode (zcc m_X3_beAsAtFirst) 50 = .ok (.iconst 3, 1) ∧ decode (zcc m_X3_beAsAtFirst) 51 = .ok (.iastore, 1) ∧ decode (zcc m_X3_beAsAtFirst) 52 = .ok (.aload_n 0, 1) ∧ decode (zcc m_X3_beAsAtFirst) 53 = .ok (.getfield 15, 3) ∧ decode (zcc m_X3_beAsAtFirst) 56 = .ok (.iconst 0, 1) ∧ decode (zcc m_X3_beAsAtFirst) 57 = .ok (.invokestatic 27, 3) ∧ decode (zcc m_X3_beAsAtFirst) 60 = .ok (.aload_n 0, 1) := by decide +kernel
set_option maxRecDepth 20000 in
theorem eg_X3_beAsAtFirst_40 : decode (zcc m_X3_beAsAtFirst) 61 = .ok (.getfield 18, 3) ∧ decode (zcc m_X3_beAsAtFirst) 64 = .ok (.iconst 0, 1) ∧ decode (zcc m_X3_beAsAtFirst) 65 = .ok (.invokestatic 27, 3) ∧ decode (zcc m_X3_beAsAtFirst) 68 = .ok (.aload_n 0, 1) ∧ decode (zcc m_X3_beAsAtFirst) 69 = .ok (.iconst 0, 1) ∧ decode (zcc m_X3_beAsAtFirst) 70 = .ok (.putfield 33, 3) ∧ decode (zcc m_X3_beAsAtFirst) 73 = .ok (.return_, 1) := by decide +kernel
theorem d_X3_beAsAtFirst_0 : zD m_X3_beAsAtFirst 0 (.aload_n 0) 1 1 := ⟨eg_X3_beAsAtFirst_0.1, rfl⟩
theorem d_X3_beAsAtFirst_1 : zD m_X3_beAsAtFirst 1 (.getfield 9) 3 4 := ⟨eg_X3_beAsAtFirst_0.2.1, rfl⟩
theorem d_X3_beAsAtFirst_4 : zD m_X3_beAsAtFirst 4 (.iconst 0) 1 5 := ⟨eg_X3_beAsAtFirst_0.2.2.1, rfl⟩
theorem d_X3_beAsAtFirst_5 : zD m_X3_beAsAtFirst 5 (.sipush 200) 3 8 := ⟨eg_X3_beAsAtFirst_0.2.2.2.1, rfl⟩
theorem d_X3_beAsAtFirst_8 : zD m_X3_beAsAtFirst 8 (.iastore) 1 9 := ⟨eg_X3_beAsAtFirst_0.2.2.2.2.1, rfl⟩
theorem d_X3_beAsAtFirst_9 : zD m_X3_beAsAtFirst 9 (.aload_n 0) 1 10 := ⟨eg_X3_beAsAtFirst_0.2.2.2.2.2.1, rfl⟩
theorem d_X3_beAsAtFirst_10 : zD m_X3_beAsAtFirst 10 (.getfield 9) 3 13 := ⟨eg_X3_beAsAtFirst_0.2.2.2.2.2.2.1, rfl⟩
theorem d_X3_beAsAtFirst_13 : zD m_X3_beAsAtFirst 13 (.iconst 1) 1 14 := ⟨eg_X3_beAsAtFirst_0.2.2.2.2.2.2.2, rfl⟩
theorem d_X3_beAsAtFirst_14 : zD m_X3_beAsAtFirst 14 (.iconst 0) 1 15 := ⟨eg_X3_beAsAtFirst_8.1, rfl⟩
theorem d_X3_beAsAtFirst_15 : zD m_X3_beAsAtFirst 15 (.iastore) 1 16 := ⟨eg_X3_beAsAtFirst_8.2.1, rfl⟩
theorem d_X3_beAsAtFirst_16 : zD m_X3_beAsAtFirst 16 (.aload_n 0) 1 17 := ⟨eg_X3_beAsAtFirst_8.2.2.1, rfl⟩
theorem d_X3_beAsAtFirst_17 : zD m_X3_beAsAtFirst 17 (.getfield 9) 3 20 := ⟨eg_X3_beAsAtFirst_8.2.2.2.1, rfl⟩
theorem d_X3_beAsAtFirst_20 : zD m_X3_beAsAtFirst 20 (.iconst 2) 1 21 := ⟨eg_X3_beAsAtFirst_8.2.2.2.2.1, rfl⟩
theorem d_X3_beAsAtFirst_21 : zD m_X3_beAsAtFirst 21 (.iconst 0) 1 22 := ⟨eg_X3_beAsAtFirst_8.2.2.2.2.2.1, rfl⟩
theorem d_X3_beAsAtFirst_22 : zD m_X3_beAsAtFirst 22 (.iastore) 1 23 := ⟨eg_X3_beAsAtFirst_8.2.2.2.2.2.2.1, rfl⟩
theorem d_X3_beAsAtFirst_23 : zD m_X3_beAsAtFirst 23 (.aload_n 0) 1 24 := ⟨eg_X3_beAsAtFirst_8.2.2.2.2.2.2.2, rfl⟩
theorem d_X3_beAsAtFirst_24 : zD m_X3_beAsAtFirst 24 (.getfield 9) 3 27 := ⟨eg_X3_beAsAtFirst_16.1, rfl⟩
theorem d_X3_beAsAtFirst_27 : zD m_X3_beAsAtFirst 27 (.iconst 3) 1 28 := ⟨eg_X3_beAsAtFirst_16.2.1, rfl⟩
theorem d_X3_beAsAtFirst_28 : zD m_X3_beAsAtFirst 28 (.iconst 0) 1 29 := ⟨eg_X3_beAsAtFirst_16.2.2.1, rfl⟩
theorem d_X3_beAsAtFirst_29 : zD m_X3_beAsAtFirst 29 (.iastore) 1 30 := ⟨eg_X3_beAsAtFirst_16.2.2.2.1, rfl⟩
theorem d_X3_beAsAtFirst_30 : zD m_X3_beAsAtFirst 30 (.aload_n 0) 1 31 := ⟨eg_X3_beAsAtFirst_16.2.2.2.2.1, rfl⟩
theorem d_X3_beAsAtFirst_31 : zD m_X3_beAsAtFirst 31 (.getfield 9) 3 34 := ⟨eg_X3_beAsAtFirst_16.2.2.2.2.2.1, rfl⟩
theorem d_X3_beAsAtFirst_34 : zD m_X3_beAsAtFirst 34 (.iconst 4) 1 35 := ⟨eg_X3_beAsAtFirst_16.2.2.2.2.2.2.1, rfl⟩
theorem d_X3_beAsAtFirst_35 : zD m_X3_beAsAtFirst 35 (.iconst 1) 1 36 := ⟨eg_X3_beAsAtFirst_16.2.2.2.2.2.2.2, rfl⟩
theorem d_X3_beAsAtFirst_36 : zD m_X3_beAsAtFirst 36 (.iastore) 1 37 := ⟨eg_X3_beAsAtFirst_24.1, rfl⟩
theorem d_X3_beAsAtFirst_37 : zD m_X3_beAsAtFirst 37 (.aload_n 0) 1 38 := ⟨eg_X3_beAsAtFirst_24.2.1, rfl⟩
theorem d_X3_beAsAtFirst_38 : zD m_X3_beAsAtFirst 38 (.getfield 9) 3 41 := ⟨eg_X3_beAsAtFirst_24.2.2.1, rfl⟩
theorem d_X3_beAsAtFirst_41 : zD m_X3_beAsAtFirst 41 (.iconst 5) 1 42 := ⟨eg_X3_beAsAtFirst_24.2.2.2.1, rfl⟩
theorem d_X3_beAsAtFirst_42 : zD m_X3_beAsAtFirst 42 (.iconst 1) 1 43 := ⟨eg_X3_beAsAtFirst_24.2.2.2.2.1, rfl⟩
theorem d_X3_beAsAtFirst_43 : zD m_X3_beAsAtFirst 43 (.iastore) 1 44 := ⟨eg_X3_beAsAtFirst_24.2.2.2.2.2.1, rfl⟩
theorem d_X3_beAsAtFirst_44 : zD m_X3_beAsAtFirst 44 (.aload_n 0) 1 45 := ⟨eg_X3_beAsAtFirst_24.2.2.2.2.2.2.1, rfl⟩
theorem d_X3_beAsAtFirst_45 : zD m_X3_beAsAtFirst 45 (.getfield 9) 3 48 := ⟨eg_X3_beAsAtFirst_24.2.2.2.2.2.2.2, rfl⟩
theorem d_X3_beAsAtFirst_48 : zD m_X3_beAsAtFirst 48 (.bipush 6) 2 50 := ⟨eg_X3_beAsAtFirst_32.1, rfl⟩
theorem d_X3_beAsAtFirst_50 : zD m_X3_beAsAtFirst 50 (.iconst 3) 1 51 := ⟨eg_X3_beAsAtFirst_32.2.1, rfl⟩
theorem d_X3_beAsAtFirst_51 : zD m_X3_beAsAtFirst 51 (.iastore) 1 52 := ⟨eg_X3_beAsAtFirst_32.2.2.1, rfl⟩
theorem d_X3_beAsAtFirst_52 : zD m_X3_beAsAtFirst 52 (.aload_n 0) 1 53 := ⟨eg_X3_beAsAtFirst_32.2.2.2.1, rfl⟩
theorem d_X3_beAsAtFirst_53 : zD m_X3_beAsAtFirst 53 (.getfield 15) 3 56 := ⟨eg_X3_beAsAtFirst_32.2.2.2.2.1, rfl⟩
theorem d_X3_beAsAtFirst_56 : zD m_X3_beAsAtFirst 56 (.iconst 0) 1 57 := ⟨eg_X3_beAsAtFirst_32.2.2.2.2.2.1, rfl⟩
theorem d_X3_beAsAtFirst_57 : zD m_X3_beAsAtFirst 57 (.invokestatic 27) 3 60 := ⟨eg_X3_beAsAtFirst_32.2.2.2.2.2.2.1, rfl⟩
theorem d_X3_beAsAtFirst_60 : zD m_X3_beAsAtFirst 60 (.aload_n 0) 1 61 := ⟨eg_X3_beAsAtFirst_32.2.2.2.2.2.2.2, rfl⟩
theorem d_X3_beAsAtFirst_61 : zD m_X3_beAsAtFirst 61 (.getfield 18) 3 64 := ⟨eg_X3_beAsAtFirst_40.1, rfl⟩
theorem d_X3_beAsAtFirst_64 : zD m_X3_beAsAtFirst 64 (.iconst 0) 1 65 := ⟨eg_X3_beAsAtFirst_40.2.1, rfl⟩
theorem d_X3_beAsAtFirst_65 : zD m_X3_beAsAtFirst 65 (.invokestatic 27) 3 68 := ⟨eg_X3_beAsAtFirst_40.2.2.1, rfl⟩
theorem d_X3_beAsAtFirst_68 : zD m_X3_beAsAtFirst 68 (.aload_n 0) 1 69 := ⟨eg_X3_beAsAtFirst_40.2.2.2.1, rfl⟩
theorem d_X3_beAsAtFirst_69 : zD m_X3_beAsAtFirst 69 (.iconst 0) 1 70 := ⟨eg_X3_beAsAtFirst_40.2.2.2.2.1, rfl⟩
theorem d_X3_beAsAtFirst_70 : zD m_X3_beAsAtFirst 70 (.putfield 33) 3 73 := ⟨eg_X3_beAsAtFirst_40.2.2.2.2.2.1, rfl⟩
theorem d_X3_beAsAtFirst_73 : decode (zcc m_X3_beAsAtFirst) 73 = .ok (.return_, 1) := eg_X3_beAsAtFirst_40.2.2.2.2.2.2
set_option maxRecDepth 20000 in
theorem eg_X3_takeFrom_0 : decode (zcc m_X3_takeFrom) 0 = .ok (.aload_n 1, 1) ∧ decode (zcc m_X3_takeFrom) 1 = .ok (.getfield 9, 3) ∧ decode (zcc m_X3_takeFrom) 4 = .ok (.iconst 0, 1) ∧ decode (zcc m_X3_takeFrom) 5 = .ok (.aload_n 0, 1) ∧ decode (zcc m_X3_takeFrom) 6 = .ok (.getfield 9, 3) ∧ decode (zcc m_X3_takeFrom) 9 = .ok (.iconst 0, 1) ∧ decode (zcc m_X3_takeFrom) 10 = .ok (.bipush 7, 2) ∧ decode (zcc m_X3_takeFrom) 12 = .ok (.invokestatic 37, 3) := by decide +kernel
set_option maxRecDepth 20000 in
theorem eg_X3_takeFrom_8 : decode (zcc m_X3_takeFrom) 15 = .ok (.aload_n 1, 1) ∧ decode (zcc m_X3_takeFrom) 16 = .ok (.getfield 15, 3) ∧ decode (zcc m_X3_takeFrom) 19 = .ok (.iconst 0, 1) ∧ decode (zcc m_X3_takeFrom) 20 = .ok (.aload_n 0, 1) ∧ decode (zcc m_X3_takeFrom) 21 = .ok (.getfield 15, 3) ∧ decode (zcc m_X3_takeFrom) 24 = .ok (.iconst 0, 1) ∧ decode (zcc m_X3_takeFrom) 25 = .ok (.bipush 48, 2) ∧ decode (zcc m_X3_takeFrom) 27 = .ok (.invokestatic 37, 3) := by decide +kernel
set_option maxRecDepth 20000 in
theorem eg_X3_takeFrom_16 : decode (zcc m_X3_takeFrom) 30 = .ok (.aload_n 1, 1) ∧ decode (zcc m_X3_takeFrom) 31 = .ok (.getfield 18, 3) ∧ decode (zcc m_X3_takeFrom) 34 = .ok (.iconst 0, 1) ∧ decode (zcc m_X3_takeFrom) 35 = .ok (.aload_n 0, 1) ∧ decode (zcc m_X3_takeFrom) 36 = .ok (.getfield 18, 3) ∧ decode (zcc m_X3_takeFrom) 39 = .ok (.iconst 0, 1) ∧ decode (zcc m_X3_takeFrom) 40 = .ok (.bipush 48, 2) ∧ decode (zcc m_X3_takeFrom) 42 = .ok (.invokestatic 37, 3) := by decide +kernel
set_option maxRecDepth 20000 in
theorem eg_X3_takeFrom_24 : decode (zcc m_X3_takeFrom) 45 = .ok (.aload_n 1, 1) ∧ decode (zcc m_X3_takeFrom) 46 = .ok (.getfield 21, 3) ∧ decode (zcc m_X3_takeFrom) 49 = .ok (.iconst 0, 1) ∧ decode (zcc m_X3_takeFrom) 50 = .ok (.aload_n 0, 1) ∧ decode (zcc m_X3_takeFrom) 51 = .ok (.getfield 21, 3) ∧ decode (zcc m_X3_takeFrom) 54 = .ok (.iconst 0, 1) ∧ decode (zcc m_X3_takeFrom) 55 = .ok (.bipush 12, 2) ∧ decode (zcc m_X3_takeFrom) 57 = .ok (.invokestatic 37, 3) := by decide +kernel
set_option maxRecDepth 20000 in
theorem eg_X3_takeFrom_32 : decode (zcc m_X3_takeFrom) 60 = .ok (.aload_n 0, 1) ∧ decode (zcc m_X3_takeFrom) 61 = .ok (.aload_n 1, 1) ∧ decode (zcc m_X3_takeFrom) 62 = .ok (.getfield 33, 3) ∧ decode (zcc m_X3_takeFrom) 65 = .ok (.putfield 33, 3) ∧ decode (zcc m_X3_takeFrom) 68 = .ok (.return_, 1) := by decide +kernel
theorem d_X3_takeFrom_0 : zD m_X3_takeFrom 0 (.aload_n 1) 1 1 := ⟨eg_X3_takeFrom_0.1, rfl⟩
theorem d_X3_takeFrom_1 : zD m_X3_takeFrom 1 (.getfield 9) 3 4 := ⟨eg_X3_takeFrom_0.2.1, rfl⟩
theorem d_X3_takeFrom_4 : zD m_X3_takeFrom 4 (.iconst 0) 1 5 := ⟨eg_X3_takeFrom_0.2.2.1, rfl⟩
theorem d_X3_takeFrom_5 : zD m_X3_takeFrom 5 (.aload_n 0) 1 6 := ⟨eg_X3_takeFrom_0.2.2.2.1, rfl⟩
theorem d_X3_takeFrom_6 : zD m_X3_takeFrom 6 (.getfield 9) 3 9 := ⟨eg_X3_takeFrom_0.2.2.2.2.1, rfl⟩
theorem d_X3_takeFrom_9 : zD m_X3_takeFrom 9 (.iconst 0) 1 10 := ⟨eg_X3_takeFrom_0.2.2.2.2.2.1, rfl⟩
theorem d_X3_takeFrom_10 : zD m_X3_takeFrom 10 (.bipush 7) 2 12 := ⟨eg_X3_takeFrom_0.2.2.2.2.2.2.1, rfl⟩
theorem d_X3_takeFrom_12 : zD m_X3_takeFrom 12 (.invokestatic 37) 3 15 := ⟨eg_X3_takeFrom_0.2.2.2.2.2.2.2, rfl⟩
theorem d_X3_takeFrom_15 : zD m_X3_takeFrom 15 (.aload_n 1) 1 16 := ⟨eg_X3_takeFrom_8.1, rfl⟩
theorem d_X3_takeFrom_16 : zD m_X3_takeFrom 16 (.getfield 15) 3 19 := ⟨eg_X3_takeFrom_8.2.1, rfl⟩
theorem d_X3_takeFrom_19 : zD m_X3_takeFrom 19 (.iconst 0) 1 20 := ⟨eg_X3_takeFrom_8.2.2.1, rfl⟩
theorem d_X3_takeFrom_20 : zD m_X3_takeFrom 20 (.aload_n 0) 1 21 := ⟨eg_X3_takeFrom_8.2.2.2.1, rfl⟩
theorem d_X3_takeFrom_21 : zD m_X3_takeFrom 21 (.getfield 15) 3 24 := ⟨eg_X3_takeFrom_8.2.2.2.2.1, rfl⟩
theorem d_X3_takeFrom_24 : zD m_X3_takeFrom 24 (.iconst 0) 1 25 := ⟨eg_X3_takeFrom_8.2.2.2.2.2.1, rfl⟩
theorem d_X3_takeFrom_25 : zD m_X3_takeFrom 25 (.bipush 48) 2 27 := ⟨eg_X3_takeFrom_8.2.2.2.2.2.2.1, rfl⟩
theorem d_X3_takeFrom_27 : zD m_X3_takeFrom 27 (.invokestatic 37) 3 30 := ⟨eg_X3_takeFrom_8.2.2.2.2.2.2.2, rfl⟩
theorem d_X3_takeFrom_30 : zD m_X3_takeFrom 30 (.aload_n 1) 1 31 := ⟨eg_X3_takeFrom_16.1, rfl⟩
theorem d_X3_takeFrom_31 : zD m_X3_takeFrom 31 (.getfield 18) 3 34 := ⟨eg_X3_takeFrom_16.2.1, rfl⟩
theorem d_X3_takeFrom_34 : zD m_X3_takeFrom 34 (.iconst 0) 1 35 := ⟨eg_X3_takeFrom_16.2.2.1, rfl⟩
theorem d_X3_takeFrom_35 : zD m_X3_takeFrom 35 (.aload_n 0) 1 36 := ⟨eg_X3_takeFrom_16.2.2.2.1, rfl⟩
theorem d_X3_takeFrom_36 : zD m_X3_takeFrom 36 (.getfield 18) 3 39 := ⟨eg_X3_takeFrom_16.2.2.2.2.1, rfl⟩
theorem d_X3_takeFrom_39 : zD m_X3_takeFrom 39 (.iconst 0) 1 40 := ⟨eg_X3_takeFrom_16.2.2.2.2.2.1, rfl⟩
theorem d_X3_takeFrom_40 : zD m_X3_takeFrom 40 (.bipush 48) 2 42 := ⟨eg_X3_takeFrom_16.2.2.2.2.2.2.1, rfl⟩
theorem d_X3_takeFrom_42 : zD m_X3_takeFrom 42 (.invokestatic 37) 3 45 := ⟨eg_X3_takeFrom_16.2.2.2.2.2.2.2, rfl⟩
theorem d_X3_takeFrom_45 : zD m_X3_takeFrom 45 (.aload_n 1) 1 46 := ⟨eg_X3_takeFrom_24.1, rfl⟩
theorem d_X3_takeFrom_46 : zD m_X3_takeFrom 46 (.getfield 21) 3 49 := ⟨eg_X3_takeFrom_24.2.1, rfl⟩
theorem d_X3_takeFrom_49 : zD m_X3_takeFrom 49 (.iconst 0) 1 50 := ⟨eg_X3_takeFrom_24.2.2.1, rfl⟩
theorem d_X3_takeFrom_50 : zD m_X3_takeFrom 50 (.aload_n 0) 1 51 := ⟨eg_X3_takeFrom_24.2.2.2.1, rfl⟩
theorem d_X3_takeFrom_51 : zD m_X3_takeFrom 51 (.getfield 21) 3 54 := ⟨eg_X3_takeFrom_24.2.2.2.2.1, rfl⟩
theorem d_X3_takeFrom_54 : zD m_X3_takeFrom 54 (.iconst 0) 1 55 := ⟨eg_X3_takeFrom_24.2.2.2.2.2.1, rfl⟩
theorem d_X3_takeFrom_55 : zD m_X3_takeFrom 55 (.bipush 12) 2 57 := ⟨eg_X3_takeFrom_24.2.2.2.2.2.2.1, rfl⟩
theorem d_X3_takeFrom_57 : zD m_X3_takeFrom 57 (.invokestatic 37) 3 60 := ⟨eg_X3_takeFrom_24.2.2.2.2.2.2.2, rfl⟩
theorem d_X3_takeFrom_60 : zD m_X3_takeFrom 60 (.aload_n 0) 1 61 := ⟨eg_X3_takeFrom_32.1, rfl⟩
theorem d_X3_takeFrom_61 : zD m_X3_takeFrom 61 (.aload_n 1) 1 62 := ⟨eg_X3_takeFrom_32.2.1, rfl⟩
theorem d_X3_takeFrom_62 : zD m_X3_takeFrom 62 (.getfield 33) 3 65 := ⟨eg_X3_takeFrom_32.2.2.1, rfl⟩
theorem d_X3_takeFrom_65 : zD m_X3_takeFrom 65 (.putfield 33) 3 68 := ⟨eg_X3_takeFrom_32.2.2.2.1, rfl⟩
theorem d_X3_takeFrom_68 : decode (zcc m_X3_takeFrom) 68 = .ok (.return_, 1) := eg_X3_takeFrom_32.2.2.2.2
