set_option maxRecDepth 20000 in
theorem eg_X0_init_0 : decode (zcc m_X0_init) 0 = .ok (.aload_n 0, 1) ∧ decode (zcc m_X0_init) 1 = .ok (.invokespecial 3, 3) ∧ decode (zcc m_X0_init) 4 = .ok (.aload_n 0, 1) ∧ decode (zcc m_X0_init) 5 = .ok (.bipush 48, 2) ∧ decode (zcc m_X0_init) 7 = .ok (.newarray .int, 2) ∧ decode (zcc m_X0_init) 9 = .ok (.putfield 9, 3) ∧ decode (zcc m_X0_init) 12 = .ok (.aload_n 0, 1) ∧ decode (zcc m_X0_init) 13 = .ok (.bipush 48, 2) := by decide +kernel
set_option maxRecDepth 20000 in
theorem eg_X0_init_8 : decode (zcc m_X0_init) 15 = .ok (.newarray .int, 2) ∧ decode (zcc m_X0_init) 17 = .ok (.putfield 15, 3) ∧ decode (zcc m_X0_init) 20 = .ok (.aload_n 0, 1) ∧ decode (zcc m_X0_init) 21 = .ok (.bipush 48, 2) ∧ decode (zcc m_X0_init) 23 = .ok (.newarray .int, 2) ∧ decode (zcc m_X0_init) 25 = .ok (.putfield 18, 3) ∧ decode (zcc m_X0_init) 28 = .ok (.aload_n 0, 1) ∧ decode (zcc m_X0_init) 29 = .ok (.bipush 8, 2) := by decide +kernel
set_option maxRecDepth 20000 in
theorem eg_X0_init_16 : decode (zcc m_X0_init) 31 = .ok (.newarray .int, 2) ∧ decode (zcc m_X0_init) 33 = .ok (.putfield 21, 3) ∧ decode (zcc m_X0_init) 36 = .ok (.return_, 1) := by decide +kernel
theorem d_X0_init_0 : zD m_X0_init 0 (.aload_n 0) 1 1 := ⟨eg_X0_init_0.1, rfl⟩
theorem d_X0_init_1 : zD m_X0_init 1 (.invokespecial 3) 3 4 := ⟨eg_X0_init_0.2.1, rfl⟩
theorem d_X0_init_4 : zD m_X0_init 4 (.aload_n 0) 1 5 := ⟨eg_X0_init_0.2.2.1, rfl⟩
theorem d_X0_init_5 : zD m_X0_init 5 (.bipush 48) 2 7 := ⟨eg_X0_init_0.2.2.2.1, rfl⟩
theorem d_X0_init_7 : zD m_X0_init 7 (.newarray .int) 2 9 := ⟨eg_X0_init_0.2.2.2.2.1, rfl⟩
theorem d_X0_init_9 : zD m_X0_init 9 (.putfield 9) 3 12 := ⟨eg_X0_init_0.2.2.2.2.2.1, rfl⟩
theorem d_X0_init_12 : zD m_X0_init 12 (.aload_n 0) 1 13 := ⟨eg_X0_init_0.2.2.2.2.2.2.1, rfl⟩
theorem d_X0_init_13 : zD m_X0_init 13 (.bipush 48) 2 15 := ⟨eg_X0_init_0.2.2.2.2.2.2.2, rfl⟩
theorem d_X0_init_15 : zD m_X0_init 15 (.newarray .int) 2 17 := ⟨eg_X0_init_8.1, rfl⟩
theorem d_X0_init_17 : zD m_X0_init 17 (.putfield 15) 3 20 := ⟨eg_X0_init_8.2.1, rfl⟩
theorem d_X0_init_20 : zD m_X0_init 20 (.aload_n 0) 1 21 := ⟨eg_X0_init_8.2.2.1, rfl⟩
theorem d_X0_init_21 : zD m_X0_init 21 (.bipush 48) 2 23 := ⟨eg_X0_init_8.2.2.2.1, rfl⟩
theorem d_X0_init_23 : zD m_X0_init 23 (.newarray .int) 2 25 := ⟨eg_X0_init_8.2.2.2.2.1, rfl⟩
theorem d_X0_init_25 : zD m_X0_init 25 (.putfield 18) 3 28 := ⟨eg_X0_init_8.2.2.2.2.2.1, rfl⟩
theorem d_X0_init_28 : zD m_X0_init 28 (.aload_n 0) 1 29 := ⟨eg_X0_init_8.2.2.2.2.2.2.1, rfl⟩
theorem d_X0_init_29 : zD m_X0_init 29 (.bipush 8) 2 31 := ⟨eg_X0_init_8.2.2.2.2.2.2.2, rfl⟩
theorem d_X0_init_31 : zD m_X0_init 31 (.newarray .int) 2 33 := ⟨eg_X0_init_16.1, rfl⟩
theorem d_X0_init_33 : zD m_X0_init 33 (.putfield 21) 3 36 := ⟨eg_X0_init_16.2.1, rfl⟩
theorem d_X0_init_36 : decode (zcc m_X0_init) 36 = .ok (.return_, 1) := eg_X0_init_16.2.2
set_option maxRecDepth 20000 in
theorem eg_X0_takeFrom_0 : decode (zcc m_X0_takeFrom) 0 = .ok (.aload_n 1, 1) ∧ decode (zcc m_X0_takeFrom) 1 = .ok (.getfield 9, 3) ∧ decode (zcc m_X0_takeFrom) 4 = .ok (.iconst 0, 1) ∧ decode (zcc m_X0_takeFrom) 5 = .ok (.aload_n 0, 1) ∧ decode (zcc m_X0_takeFrom) 6 = .ok (.getfield 9, 3) ∧ decode (zcc m_X0_takeFrom) 9 = .ok (.iconst 0, 1) ∧ decode (zcc m_X0_takeFrom) 10 = .ok (.bipush 48, 2) ∧ decode (zcc m_X0_takeFrom) 12 = .ok (.invokestatic 24, 3) := by decide +kernel
set_option maxRecDepth 20000 in
theorem eg_X0_takeFrom_8 : decode (zcc m_X0_takeFrom) 15 = .ok (.aload_n 1, 1) ∧ decode (zcc m_X0_takeFrom) 16 = .ok (.getfield 15, 3) ∧ decode (zcc m_X0_takeFrom) 19 = .ok (.iconst 0, 1) ∧ decode (zcc m_X0_takeFrom) 20 = .ok (.aload_n 0, 1) ∧ decode (zcc m_X0_takeFrom) 21 = .ok (.getfield 15, 3) ∧ decode (zcc m_X0_takeFrom) 24 = .ok (.iconst 0, 1) ∧ decode (zcc m_X0_takeFrom) 25 = .ok (.bipush 48, 2) ∧ decode (zcc m_X0_takeFrom) 27 = .ok (.invokestatic 24, 3) := by decide +kernel
set_option maxRecDepth 20000 in
theorem eg_X0_takeFrom_16 : decode (zcc m_X0_takeFrom) 30 = .ok (.aload_n 1, 1) ∧ decode (zcc m_X0_takeFrom) 31 = .ok (.getfield 18, 3) ∧ decode (zcc m_X0_takeFrom) 34 = .ok (.iconst 0, 1) ∧ decode (zcc m_X0_takeFrom) 35 = .ok (.aload_n 0, 1) ∧ decode (zcc m_X0_takeFrom) 36 = .ok (.getfield 18, 3) ∧ decode (zcc m_X0_takeFrom) 39 = .ok (.iconst 0, 1) ∧ decode (zcc m_X0_takeFrom) 40 = .ok (.bipush 48, 2) ∧ decode (zcc m_X0_takeFrom) 42 = .ok (.invokestatic 24, 3) := by decide +kernel
set_option maxRecDepth 20000 in
theorem eg_X0_takeFrom_24 : decode (zcc m_X0_takeFrom) 45 = .ok (.aload_n 1, 1) ∧ decode (zcc m_X0_takeFrom) 46 = .ok (.getfield 21, 3) ∧ decode (zcc m_X0_takeFrom) 49 = .ok (.iconst 0, 1) ∧ decode (zcc m_X0_takeFrom) 50 = .ok (.aload_n 0, 1) ∧ decode (zcc m_X0_takeFrom) 51 = .ok (.getfield 21, 3) ∧ decode (zcc m_X0_takeFrom) 54 = .ok (.iconst 0, 1) ∧ decode (zcc m_X0_takeFrom) 55 = .ok (.bipush 8, 2) ∧ decode (zcc m_X0_takeFrom) 57 = .ok (.invokestatic 24, 3) := by decide +kernel
set_option maxRecDepth 20000 in
theorem eg_X0_takeFrom_32 : decode (zcc m_X0_takeFrom) 60 = .ok (.aload_n 0, 1) ∧ decode (zcc m_X0_takeFrom) 61 = .ok (.aload_n 1, 1) ∧ decode (zcc m_X0_takeFrom) 62 = .ok (.getfield 30, 3) ∧ decode (zcc m_X0_takeFrom) 65 = .ok (.putfield 30, 3) ∧ decode (zcc m_X0_takeFrom) 68 = .ok (.aload_n 0, 1) ∧ decode (zcc m_X0_takeFrom) 69 = .ok (.aload_n 1, 1) ∧ decode (zcc m_X0_takeFrom) 70 = .ok (.getfield 34, 3) ∧ decode (zcc m_X0_takeFrom) 73 = .ok (.putfield 34, 3) := by decide +kernel
set_option maxRecDepth 20000 in
theorem eg_X0_takeFrom_40 : decode (zcc m_X0_takeFrom) 76 = .ok (.aload_n 0, 1) ∧ decode (zcc m_X0_takeFrom) 77 = .ok (.aload_n 1, 1) ∧ decode (zcc m_X0_takeFrom) 78 = .ok (.getfield 37, 3) ∧ decode (zcc m_X0_takeFrom) 81 = .ok (.putfield 37, 3) ∧ decode (zcc m_X0_takeFrom) 84 = .ok (.return_, 1) := by decide +kernel
theorem d_X0_takeFrom_0 : zD m_X0_takeFrom 0 (.aload_n 1) 1 1 := ⟨eg_X0_takeFrom_0.1, rfl⟩
theorem d_X0_takeFrom_1 : zD m_X0_takeFrom 1 (.getfield 9) 3 4 := ⟨eg_X0_takeFrom_0.2.1, rfl⟩
theorem d_X0_takeFrom_4 : zD m_X0_takeFrom 4 (.iconst 0) 1 5 := ⟨eg_X0_takeFrom_0.2.2.1, rfl⟩
theorem d_X0_takeFrom_5 : zD m_X0_takeFrom 5 (.aload_n 0) 1 6 := ⟨eg_X0_takeFrom_0.2.2.2.1, rfl⟩
theorem d_X0_takeFrom_6 : zD m_X0_takeFrom 6 (.getfield 9) 3 9 := ⟨eg_X0_takeFrom_0.2.2.2.2.1, rfl⟩
theorem d_X0_takeFrom_9 : zD m_X0_takeFrom 9 (.iconst 0) 1 10 := ⟨eg_X0_takeFrom_0.2.2.2.2.2.1, rfl⟩
theorem d_X0_takeFrom_10 : zD m_X0_takeFrom 10 (.bipush 48) 2 12 := ⟨eg_X0_takeFrom_0.2.2.2.2.2.2.1, rfl⟩
theorem d_X0_takeFrom_12 : zD m_X0_takeFrom 12 (.invokestatic 24) 3 15 := ⟨eg_X0_takeFrom_0.2.2.2.2.2.2.2, rfl⟩
theorem d_X0_takeFrom_15 : zD m_X0_takeFrom 15 (.aload_n 1) 1 16 := ⟨eg_X0_takeFrom_8.1, rfl⟩
theorem d_X0_takeFrom_16 : zD m_X0_takeFrom 16 (.getfield 15) 3 19 := ⟨eg_X0_takeFrom_8.2.1, rfl⟩
theorem d_X0_takeFrom_19 : zD m_X0_takeFrom 19 (.iconst 0) 1 20 := ⟨eg_X0_takeFrom_8.2.2.1, rfl⟩
theorem d_X0_takeFrom_20 : zD m_X0_takeFrom 20 (.aload_n 0) 1 21 := ⟨eg_X0_takeFrom_8.2.2.2.1, rfl⟩
theorem d_X0_takeFrom_21 : zD m_X0_takeFrom 21 (.getfield 15) 3 24 := ⟨eg_X0_takeFrom_8.2.2.2.2.1, rfl⟩
theorem d_X0_takeFrom_24 : zD m_X0_takeFrom 24 (.iconst 0) 1 25 := ⟨eg_X0_takeFrom_8.2.2.2.2.2.1, rfl⟩
theorem d_X0_takeFrom_25 : zD m_X0_takeFrom 25 (.bipush 48) 2 27 := ⟨eg_X0_takeFrom_8.2.2.2.2.2.2.1, rfl⟩
theorem d_X0_takeFrom_27 : zD m_X0_takeFrom 27 (.invokestatic 24) 3 30 := ⟨eg_X0_takeFrom_8.2.2.2.2.2.2.2, rfl⟩
theorem d_X0_takeFrom_30 : zD m_X0_takeFrom 30 (.aload_n 1) 1 31 := ⟨eg_X0_takeFrom_16.1, rfl⟩
theorem d_X0_takeFrom_31 : zD m_X0_takeFrom 31 (.getfield 18) 3 34 := ⟨eg_X0_takeFrom_16.2.1, rfl⟩
theorem d_X0_takeFrom_34 : zD m_X0_takeFrom 34 (.iconst 0) 1 35 := ⟨eg_X0_takeFrom_16.2.2.1, rfl⟩
theorem d_X0_takeFrom_35 : zD m_X0_takeFrom 35 (.aload_n 0) 1 36 := ⟨eg_X0_takeFrom_16.2.2.2.1, rfl⟩
theorem d_X0_takeFrom_36 : zD m_X0_takeFrom 36 (.getfield 18) 3 39 := ⟨eg_X0_takeFrom_16.2.2.2.2.1, rfl⟩
theorem d_X0_takeFrom_39 : zD m_X0_takeFrom 39 (.iconst 0) 1 40 := ⟨eg_X0_takeFrom_16.2.2.2.2.2.1, rfl⟩
theorem d_X0_takeFrom_40 : zD m_X0_takeFrom 40 (.bipush 48) 2 42 := ⟨eg_X0_takeFrom_16.2.2.2.2.2.2.1, rfl⟩
theorem d_X0_takeFrom_42 : zD m_X0_takeFrom 42 (.invokestatic 24) 3 45 := ⟨eg_X0_takeFrom_16.2.2.2.2.2.2.2, rfl⟩
theorem d_X0_takeFrom_45 : zD m_X0_takeFrom 45 (.aload_n 1) 1 46 := ⟨eg_X0_takeFrom_24.1, rfl⟩
theorem d_X0_takeFrom_46 : zD m_X0_takeFrom 46 (.getfield 21) 3 49 := ⟨eg_X0_takeFrom_24.2.1, rfl⟩
theorem d_X0_takeFrom_49 : zD m_X0_takeFrom 49 (.iconst 0) 1 50 := ⟨eg_X0_takeFrom_24.2.2.1, rfl⟩
theorem d_X0_takeFrom_50 : zD m_X0_takeFrom 50 (.aload_n 0) 1 51 := ⟨eg_X0_takeFrom_24.2.2.2.1, rfl⟩
theorem d_X0_takeFrom_51 : zD m_X0_takeFrom 51 (.getfield 21) 3 54 := ⟨eg_X0_takeFrom_24.2.2.2.2.1, rfl⟩
theorem d_X0_takeFrom_54 : zD m_X0_takeFrom 54 (.iconst 0) 1 55 := ⟨eg_X0_takeFrom_24.2.2.2.2.2.1, rfl⟩
theorem d_X0_takeFrom_55 : zD m_X0_takeFrom 55 (.bipush 8) 2 57 := ⟨eg_X0_takeFrom_24.2.2.2.2.2.2.1, rfl⟩
theorem d_X0_takeFrom_57 : zD m_X0_takeFrom 57 (.invokestatic 24) 3 60 := ⟨eg_X0_takeFrom_24.2.2.2.2.2.2.2, rfl⟩
theorem d_X0_takeFrom_60 : zD m_X0_takeFrom 60 (.aload_n 0) 1 61 := ⟨eg_X0_takeFrom_32.1, rfl⟩
theorem d_X0_takeFrom_61 : zD m_X0_takeFrom 61 (.aload_n 1) 1 62 := ⟨eg_X0_takeFrom_32.2.1, rfl⟩
theorem d_X0_takeFrom_62 : zD m_X0_takeFrom 62 (.getfield 30) 3 65 := ⟨eg_X0_takeFrom_32.2.2.1, rfl⟩
theorem d_X0_takeFrom_65 : zD m_X0_takeFrom 65 (.putfield 30) 3 68 := ⟨eg_X0_takeFrom_32.2.2.2.1, rfl⟩
theorem d_X0_takeFrom_68 : zD m_X0_takeFrom 68 (.aload_n 0) 1 69 := ⟨eg_X0_takeFrom_32.2.2.2.2.1, rfl⟩
theorem d_X0_takeFrom_69 : zD m_X0_takeFrom 69 (.aload_n 1) 1 70 := ⟨eg_X0_takeFrom_32.2.2.2.2.2.1, rfl⟩
theorem d_X0_takeFrom_70 : zD m_X0_takeFrom 70 (.getfield 34) 3 73 := ⟨eg_X0_takeFrom_32.2.2.2.2.2.2.1, rfl⟩
theorem d_X0_takeFrom_73 : zD m_X0_takeFrom 73 (.putfield 34) 3 76 := ⟨eg_X0_takeFrom_32.2.2.2.2.2.2.2, rfl⟩
theorem d_X0_takeFrom_76 : zD m_X0_takeFrom 76 (.aload_n 0) 1 77 := ⟨eg_X0_takeFrom_40.1, rfl⟩
theorem d_X0_takeFrom_77 : zD m_X0_takeFrom 77 (.aload_n 1) 1 78 := ⟨eg_X0_takeFrom_40.2.1, rfl⟩
theorem d_X0_takeFrom_78 : zD m_X0_takeFrom 78 (.getfield 37) 3 81 := ⟨eg_X0_takeFrom_40.2.2.1, rfl⟩
theorem d_X0_takeFrom_81 : zD m_X0_takeFrom 81 (.putfield 37) 3 84 := ⟨eg_X0_takeFrom_40.2.2.2.1, rfl⟩
theorem d_X0_takeFrom_84 : decode (zcc m_X0_takeFrom) 84 = .ok (.return_, 1) := eg_X0_takeFrom_40.2.2.2.2
set_option maxRecDepth 20000 in
theorem eg_X0_drainAll_0 : decode (zcc m_X0_drainAll) 0 = .ok (.aload_n 0, 1) ∧ decode (zcc m_X0_drainAll) 1 = .ok (.getfield 15, 3) ∧ decode (zcc m_X0_drainAll) 4 = .ok (.iconst 0, 1) ∧ decode (zcc m_X0_drainAll) 5 = .ok (.invokestatic 40, 3) ∧ decode (zcc m_X0_drainAll) 8 = .ok (.aload_n 0, 1) ∧ decode (zcc m_X0_drainAll) 9 = .ok (.getfield 18, 3) ∧ decode (zcc m_X0_drainAll) 12 = .ok (.iconst 0, 1) ∧ decode (zcc m_X0_drainAll) 13 = .ok (.invokestatic 40, 3) := by decide +kernel
set_option maxRecDepth 20000 in
theorem eg_X0_drainAll_8 : decode (zcc m_X0_drainAll) 16 = .ok (.aload_n 0, 1) ∧ decode (zcc m_X0_drainAll) 17 = .ok (.getfield 21, 3) ∧ decode (zcc m_X0_drainAll) 20 = .ok (.iconst 0, 1) ∧ decode (zcc m_X0_drainAll) 21 = .ok (.invokestatic 40, 3) ∧ decode (zcc m_X0_drainAll) 24 = .ok (.aload_n 0, 1) ∧ decode (zcc m_X0_drainAll) 25 = .ok (.lconst 0, 1) ∧ decode (zcc m_X0_drainAll) 26 = .ok (.putfield 30, 3) ∧ decode (zcc m_X0_drainAll) 29 = .ok (.aload_n 0, 1) := by decide +kernel
set_option maxRecDepth 20000 in
theorem eg_X0_drainAll_16 : decode (zcc m_X0_drainAll) 30 = .ok (.lconst 0, 1) ∧ decode (zcc m_X0_drainAll) 31 = .ok (.putfield 34, 3) ∧ decode (zcc m_X0_drainAll) 34 = .ok (.aload_n 0, 1) ∧ decode (zcc m_X0_drainAll) 35 = .ok (.lconst 0, 1) ∧ decode (zcc m_X0_drainAll) 36 = .ok (.putfield 37, 3) ∧ decode (zcc m_X0_drainAll) 39 = .ok (.return_, 1) := by decide +kernel
theorem d_X0_drainAll_0 : zD m_X0_drainAll 0 (.aload_n 0) 1 1 := ⟨eg_X0_drainAll_0.1, rfl⟩
theorem d_X0_drainAll_1 : zD m_X0_drainAll 1 (.getfield 15) 3 4 := ⟨eg_X0_drainAll_0.2.1, rfl⟩
theorem d_X0_drainAll_4 : zD m_X0_drainAll 4 (.iconst 0) 1 5 := ⟨eg_X0_drainAll_0.2.2.1, rfl⟩
theorem d_X0_drainAll_5 : zD m_X0_drainAll 5 (.invokestatic 40) 3 8 := ⟨eg_X0_drainAll_0.2.2.2.1, rfl⟩
theorem d_X0_drainAll_8 : zD m_X0_drainAll 8 (.aload_n 0) 1 9 := ⟨eg_X0_drainAll_0.2.2.2.2.1, rfl⟩
theorem d_X0_drainAll_9 : zD m_X0_drainAll 9 (.getfield 18) 3 12 := ⟨eg_X0_drainAll_0.2.2.2.2.2.1, rfl⟩
theorem d_X0_drainAll_12 : zD m_X0_drainAll 12 (.iconst 0) 1 13 := ⟨eg_X0_drainAll_0.2.2.2.2.2.2.1, rfl⟩
theorem d_X0_drainAll_13 : zD m_X0_drainAll 13 (.invokestatic 40) 3 16 := ⟨eg_X0_drainAll_0.2.2.2.2.2.2.2, rfl⟩
theorem d_X0_drainAll_16 : zD m_X0_drainAll 16 (.aload_n 0) 1 17 := ⟨eg_X0_drainAll_8.1, rfl⟩
theorem d_X0_drainAll_17 : zD m_X0_drainAll 17 (.getfield 21) 3 20 := ⟨eg_X0_drainAll_8.2.1, rfl⟩
theorem d_X0_drainAll_20 : zD m_X0_drainAll 20 (.iconst 0) 1 21 := ⟨eg_X0_drainAll_8.2.2.1, rfl⟩
theorem d_X0_drainAll_21 : zD m_X0_drainAll 21 (.invokestatic 40) 3 24 := ⟨eg_X0_drainAll_8.2.2.2.1, rfl⟩
theorem d_X0_drainAll_24 : zD m_X0_drainAll 24 (.aload_n 0) 1 25 := ⟨eg_X0_drainAll_8.2.2.2.2.1, rfl⟩
theorem d_X0_drainAll_25 : zD m_X0_drainAll 25 (.lconst 0) 1 26 := ⟨eg_X0_drainAll_8.2.2.2.2.2.1, rfl⟩
theorem d_X0_drainAll_26 : zD m_X0_drainAll 26 (.putfield 30) 3 29 := ⟨eg_X0_drainAll_8.2.2.2.2.2.2.1, rfl⟩
theorem d_X0_drainAll_29 : zD m_X0_drainAll 29 (.aload_n 0) 1 30 := ⟨eg_X0_drainAll_8.2.2.2.2.2.2.2, rfl⟩
theorem d_X0_drainAll_30 : zD m_X0_drainAll 30 (.lconst 0) 1 31 := ⟨eg_X0_drainAll_16.1, rfl⟩
theorem d_X0_drainAll_31 : zD m_X0_drainAll 31 (.putfield 34) 3 34 := ⟨eg_X0_drainAll_16.2.1, rfl⟩
theorem d_X0_drainAll_34 : zD m_X0_drainAll 34 (.aload_n 0) 1 35 := ⟨eg_X0_drainAll_16.2.2.1, rfl⟩
theorem d_X0_drainAll_35 : zD m_X0_drainAll 35 (.lconst 0) 1 36 := ⟨eg_X0_drainAll_16.2.2.2.1, rfl⟩
theorem d_X0_drainAll_36 : zD m_X0_drainAll 36 (.putfield 37) 3 39 := ⟨eg_X0_drainAll_16.2.2.2.2.1, rfl⟩
theorem d_X0_drainAll_39 : decode (zcc m_X0_drainAll) 39 = .ok (.return_, 1) := eg_X0_drainAll_16.2.2.2.2.2
set_option maxRecDepth 20000 in
theorem eg_X0_fillFor_0 : decode (zcc m_X0_fillFor) 0 = .ok (.iconst 0, 1) ∧ decode (zcc m_X0_fillFor) 1 = .ok (.istore_n 3, 1) ∧ decode (zcc m_X0_fillFor) 2 = .ok (.iload_n 3, 1) ∧ decode (zcc m_X0_fillFor) 3 = .ok (.bipush 48, 2) ∧ decode (zcc m_X0_fillFor) 5 = .ok (.if_icmp .ge (36), 3) ∧ decode (zcc m_X0_fillFor) 8 = .ok (.aload_n 0, 1) ∧ decode (zcc m_X0_fillFor) 9 = .ok (.iload_n 3, 1) ∧ decode (zcc m_X0_fillFor) 10 = .ok (.aload_n 0, 1) := by decide +kernel
set_option maxRecDepth 20000 in
theorem eg_X0_fillFor_8 : decode (zcc m_X0_fillFor) 11 = .ok (.getfield 9, 3) ∧ decode (zcc m_X0_fillFor) 14 = .ok (.iload_n 3, 1) ∧ decode (zcc m_X0_fillFor) 15 = .ok (.iaload, 1) ∧ decode (zcc m_X0_fillFor) 16 = .ok (.aload_n 2, 1) ∧ decode (zcc m_X0_fillFor) 17 = .ok (.getfield 46, 3) ∧ decode (zcc m_X0_fillFor) 20 = .ok (.iload_n 3, 1) ∧ decode (zcc m_X0_fillFor) 21 = .ok (.iaload, 1) ∧ decode (zcc m_X0_fillFor) 22 = .ok (.iadd, 1) := by decide +kernel
set_option maxRecDepth 20000 in
theorem eg_X0_fillFor_16 : decode (zcc m_X0_fillFor) 23 = .ok (.aload_n 2, 1) ∧ decode (zcc m_X0_fillFor) 24 = .ok (.getfield 51, 3) ∧ decode (zcc m_X0_fillFor) 27 = .ok (.iconst 1, 1) ∧ decode (zcc m_X0_fillFor) 28 = .ok (.iaload, 1) ∧ decode (zcc m_X0_fillFor) 29 = .ok (.iadd, 1) ∧ decode (zcc m_X0_fillFor) 30 = .ok (.iload_n 1, 1) ∧ decode (zcc m_X0_fillFor) 31 = .ok (.imul, 1) ∧ decode (zcc m_X0_fillFor) 32 = .ok (.invokevirtual 54, 3) := by decide +kernel
set_option maxRecDepth 20000 in
theorem eg_X0_fillFor_24 : decode (zcc m_X0_fillFor) 35 = .ok (.iinc 3 1, 3) ∧ decode (zcc m_X0_fillFor) 38 = .ok (.goto (-36), 3) ∧ decode (zcc m_X0_fillFor) 41 = .ok (.aload_n 0, 1) ∧ decode (zcc m_X0_fillFor) 42 = .ok (.aload_n 2, 1) ∧ decode (zcc m_X0_fillFor) 43 = .ok (.invokevirtual 58, 3) ∧ decode (zcc m_X0_fillFor) 46 = .ok (.return_, 1) := by decide +kernel
theorem d_X0_fillFor_0 : zD m_X0_fillFor 0 (.iconst 0) 1 1 := ⟨eg_X0_fillFor_0.1, rfl⟩
theorem d_X0_fillFor_1 : zD m_X0_fillFor 1 (.istore_n 3) 1 2 := ⟨eg_X0_fillFor_0.2.1, rfl⟩
theorem d_X0_fillFor_2 : zD m_X0_fillFor 2 (.iload_n 3) 1 3 := ⟨eg_X0_fillFor_0.2.2.1, rfl⟩
theorem d_X0_fillFor_3 : zD m_X0_fillFor 3 (.bipush 48) 2 5 := ⟨eg_X0_fillFor_0.2.2.2.1, rfl⟩
theorem d_X0_fillFor_5 : zDj m_X0_fillFor 5 (.if_icmp .ge) 8 41 := ⟨36, eg_X0_fillFor_0.2.2.2.2.1, rfl, by decide⟩
theorem d_X0_fillFor_8 : zD m_X0_fillFor 8 (.aload_n 0) 1 9 := ⟨eg_X0_fillFor_0.2.2.2.2.2.1, rfl⟩
theorem d_X0_fillFor_9 : zD m_X0_fillFor 9 (.iload_n 3) 1 10 := ⟨eg_X0_fillFor_0.2.2.2.2.2.2.1, rfl⟩
theorem d_X0_fillFor_10 : zD m_X0_fillFor 10 (.aload_n 0) 1 11 := ⟨eg_X0_fillFor_0.2.2.2.2.2.2.2, rfl⟩
theorem d_X0_fillFor_11 : zD m_X0_fillFor 11 (.getfield 9) 3 14 := ⟨eg_X0_fillFor_8.1, rfl⟩
theorem d_X0_fillFor_14 : zD m_X0_fillFor 14 (.iload_n 3) 1 15 := ⟨eg_X0_fillFor_8.2.1, rfl⟩
theorem d_X0_fillFor_15 : zD m_X0_fillFor 15 (.iaload) 1 16 := ⟨eg_X0_fillFor_8.2.2.1, rfl⟩
theorem d_X0_fillFor_16 : zD m_X0_fillFor 16 (.aload_n 2) 1 17 := ⟨eg_X0_fillFor_8.2.2.2.1, rfl⟩
theorem d_X0_fillFor_17 : zD m_X0_fillFor 17 (.getfield 46) 3 20 := ⟨eg_X0_fillFor_8.2.2.2.2.1, rfl⟩
theorem d_X0_fillFor_20 : zD m_X0_fillFor 20 (.iload_n 3) 1 21 := ⟨eg_X0_fillFor_8.2.2.2.2.2.1, rfl⟩
theorem d_X0_fillFor_21 : zD m_X0_fillFor 21 (.iaload) 1 22 := ⟨eg_X0_fillFor_8.2.2.2.2.2.2.1, rfl⟩
theorem d_X0_fillFor_22 : zD m_X0_fillFor 22 (.iadd) 1 23 := ⟨eg_X0_fillFor_8.2.2.2.2.2.2.2, rfl⟩
theorem d_X0_fillFor_23 : zD m_X0_fillFor 23 (.aload_n 2) 1 24 := ⟨eg_X0_fillFor_16.1, rfl⟩
theorem d_X0_fillFor_24 : zD m_X0_fillFor 24 (.getfield 51) 3 27 := ⟨eg_X0_fillFor_16.2.1, rfl⟩
theorem d_X0_fillFor_27 : zD m_X0_fillFor 27 (.iconst 1) 1 28 := ⟨eg_X0_fillFor_16.2.2.1, rfl⟩
theorem d_X0_fillFor_28 : zD m_X0_fillFor 28 (.iaload) 1 29 := ⟨eg_X0_fillFor_16.2.2.2.1, rfl⟩
theorem d_X0_fillFor_29 : zD m_X0_fillFor 29 (.iadd) 1 30 := ⟨eg_X0_fillFor_16.2.2.2.2.1, rfl⟩
theorem d_X0_fillFor_30 : zD m_X0_fillFor 30 (.iload_n 1) 1 31 := ⟨eg_X0_fillFor_16.2.2.2.2.2.1, rfl⟩
theorem d_X0_fillFor_31 : zD m_X0_fillFor 31 (.imul) 1 32 := ⟨eg_X0_fillFor_16.2.2.2.2.2.2.1, rfl⟩
theorem d_X0_fillFor_32 : zD m_X0_fillFor 32 (.invokevirtual 54) 3 35 := ⟨eg_X0_fillFor_16.2.2.2.2.2.2.2, rfl⟩
theorem d_X0_fillFor_35 : zD m_X0_fillFor 35 (.iinc 3 1) 3 38 := ⟨eg_X0_fillFor_24.1, rfl⟩
theorem d_X0_fillFor_38 : zDj m_X0_fillFor 38 (.goto) 41 2 := ⟨-36, eg_X0_fillFor_24.2.1, rfl, by decide⟩
theorem d_X0_fillFor_41 : zD m_X0_fillFor 41 (.aload_n 0) 1 42 := ⟨eg_X0_fillFor_24.2.2.1, rfl⟩
theorem d_X0_fillFor_42 : zD m_X0_fillFor 42 (.aload_n 2) 1 43 := ⟨eg_X0_fillFor_24.2.2.2.1, rfl⟩
theorem d_X0_fillFor_43 : zD m_X0_fillFor 43 (.invokevirtual 58) 3 46 := ⟨eg_X0_fillFor_24.2.2.2.2.1, rfl⟩
theorem d_X0_fillFor_46 : decode (zcc m_X0_fillFor) 46 = .ok (.return_, 1) := eg_X0_fillFor_24.2.2.2.2.2
set_option maxRecDepth 20000 in
theorem eg_X0_bring_0 : decode (zcc m_X0_bring) 0 = .ok (.aload_n 0, 1) ∧ decode (zcc m_X0_bring) 1 = .ok (.getfield 15, 3) ∧ decode (zcc m_X0_bring) 4 = .ok (.iload_n 1, 1) ∧ decode (zcc m_X0_bring) 5 = .ok (.dup2, 1) ∧ decode (zcc m_X0_bring) 6 = .ok (.iaload, 1) ∧ decode (zcc m_X0_bring) 7 = .ok (.iload_n 2, 1) ∧ decode (zcc m_X0_bring) 8 = .ok (.iadd, 1) ∧ decode (zcc m_X0_bring) 9 = .ok (.iastore, 1) := by decide +kernel
set_option maxRecDepth 20000 in
theorem eg_X0_bring_8 : decode (zcc m_X0_bring) 10 = .ok (.aload_n 0, 1) ∧ decode (zcc m_X0_bring) 11 = .ok (.dup, 1) ∧ decode (zcc m_X0_bring) 12 = .ok (.getfield 37, 3) ∧ decode (zcc m_X0_bring) 15 = .ok (.iload_n 2, 1) ∧ decode (zcc m_X0_bring) 16 = .ok (.i2l, 1) ∧ decode (zcc m_X0_bring) 17 = .ok (.ladd, 1) ∧ decode (zcc m_X0_bring) 18 = .ok (.putfield 37, 3) ∧ decode (zcc m_X0_bring) 21 = .ok (.return_, 1) := by decide +kernel
theorem d_X0_bring_0 : zD m_X0_bring 0 (.aload_n 0) 1 1 := ⟨eg_X0_bring_0.1, rfl⟩
theorem d_X0_bring_1 : zD m_X0_bring 1 (.getfield 15) 3 4 := ⟨eg_X0_bring_0.2.1, rfl⟩
theorem d_X0_bring_4 : zD m_X0_bring 4 (.iload_n 1) 1 5 := ⟨eg_X0_bring_0.2.2.1, rfl⟩
theorem d_X0_bring_5 : zD m_X0_bring 5 (.dup2) 1 6 := ⟨eg_X0_bring_0.2.2.2.1, rfl⟩
theorem d_X0_bring_6 : zD m_X0_bring 6 (.iaload) 1 7 := ⟨eg_X0_bring_0.2.2.2.2.1, rfl⟩
theorem d_X0_bring_7 : zD m_X0_bring 7 (.iload_n 2) 1 8 := ⟨eg_X0_bring_0.2.2.2.2.2.1, rfl⟩
theorem d_X0_bring_8 : zD m_X0_bring 8 (.iadd) 1 9 := ⟨eg_X0_bring_0.2.2.2.2.2.2.1, rfl⟩
theorem d_X0_bring_9 : zD m_X0_bring 9 (.iastore) 1 10 := ⟨eg_X0_bring_0.2.2.2.2.2.2.2, rfl⟩
theorem d_X0_bring_10 : zD m_X0_bring 10 (.aload_n 0) 1 11 := ⟨eg_X0_bring_8.1, rfl⟩
theorem d_X0_bring_11 : zD m_X0_bring 11 (.dup) 1 12 := ⟨eg_X0_bring_8.2.1, rfl⟩
theorem d_X0_bring_12 : zD m_X0_bring 12 (.getfield 37) 3 15 := ⟨eg_X0_bring_8.2.2.1, rfl⟩
theorem d_X0_bring_15 : zD m_X0_bring 15 (.iload_n 2) 1 16 := ⟨eg_X0_bring_8.2.2.2.1, rfl⟩
theorem d_X0_bring_16 : zD m_X0_bring 16 (.i2l) 1 17 := ⟨eg_X0_bring_8.2.2.2.2.1, rfl⟩
theorem d_X0_bring_17 : zD m_X0_bring 17 (.ladd) 1 18 := ⟨eg_X0_bring_8.2.2.2.2.2.1, rfl⟩
theorem d_X0_bring_18 : zD m_X0_bring 18 (.putfield 37) 3 21 := ⟨eg_X0_bring_8.2.2.2.2.2.2.1, rfl⟩
theorem d_X0_bring_21 : decode (zcc m_X0_bring) 21 = .ok (.return_, 1) := eg_X0_bring_8.2.2.2.2.2.2.2
set_option maxRecDepth 20000 in
theorem eg_X0_runOver_0 : decode (zcc m_X0_runOver) 0 = .ok (.aload_n 1, 1) ∧ decode (zcc m_X0_runOver) 1 = .ok (.getfield 51, 3) ∧ decode (zcc m_X0_runOver) 4 = .ok (.iconst 0, 1) ∧ decode (zcc m_X0_runOver) 5 = .ok (.iaload, 1) ∧ decode (zcc m_X0_runOver) 6 = .ok (.istore_n 2, 1) ∧ decode (zcc m_X0_runOver) 7 = .ok (.iconst 0, 1) ∧ decode (zcc m_X0_runOver) 8 = .ok (.istore_n 3, 1) ∧ decode (zcc m_X0_runOver) 9 = .ok (.iload_n 3, 1) := by decide +kernel
set_option maxRecDepth 20000 in
theorem eg_X0_runOver_8 : decode (zcc m_X0_runOver) 10 = .ok (.bipush 48, 2) ∧ decode (zcc m_X0_runOver) 12 = .ok (.if_icmp .ge (65), 3) ∧ decode (zcc m_X0_runOver) 15 = .ok (.aload_n 0, 1) ∧ decode (zcc m_X0_runOver) 16 = .ok (.getfield 15, 3) ∧ decode (zcc m_X0_runOver) 19 = .ok (.iload_n 3, 1) ∧ decode (zcc m_X0_runOver) 20 = .ok (.iaload, 1) ∧ decode (zcc m_X0_runOver) 21 = .ok (.iload_n 2, 1) ∧ decode (zcc m_X0_runOver) 22 = .ok (.isub, 1) := by decide +kernel
set_option maxRecDepth 20000 in
theorem eg_X0_runOver_16 : decode (zcc m_X0_runOver) 23 = .ok (.istore 4, 2) ∧ decode (zcc m_X0_runOver) 25 = .ok (.iload 4, 2) ∧ decode (zcc m_X0_runOver) 27 = .ok (.ifCond .le (44), 3) ∧ decode (zcc m_X0_runOver) 30 = .ok (.aload_n 0, 1) ∧ decode (zcc m_X0_runOver) 31 = .ok (.getfield 15, 3) ∧ decode (zcc m_X0_runOver) 34 = .ok (.iload_n 3, 1) ∧ decode (zcc m_X0_runOver) 35 = .ok (.iload_n 2, 1) ∧ decode (zcc m_X0_runOver) 36 = .ok (.iastore, 1) := by decide +kernel
set_option maxRecDepth 20000 in
theorem eg_X0_runOver_24 : decode (zcc m_X0_runOver) 37 = .ok (.aload_n 0, 1) ∧ decode (zcc m_X0_runOver) 38 = .ok (.dup, 1) ∧ decode (zcc m_X0_runOver) 39 = .ok (.getfield 30, 3) ∧ decode (zcc m_X0_runOver) 42 = .ok (.aload_n 1, 1) ∧ decode (zcc m_X0_runOver) 43 = .ok (.getfield 51, 3) ∧ decode (zcc m_X0_runOver) 46 = .ok (.iconst 2, 1) ∧ decode (zcc m_X0_runOver) 47 = .ok (.iaload, 1) ∧ decode (zcc m_X0_runOver) 48 = .ok (.iconst 1, 1) := by decide +kernel
set_option maxRecDepth 20000 in
theorem eg_X0_runOver_32 : decode (zcc m_X0_runOver) 49 = .ok (.if_icmp .ne (9), 3) ∧ decode (zcc m_X0_runOver) 52 = .ok (.iload 4, 2) ∧ decode (zcc m_X0_runOver) 54 = .ok (.i2l, 1) ∧ decode (zcc m_X0_runOver) 55 = .ok (.goto (12), 3) ∧ decode (zcc m_X0_runOver) 58 = .ok (.aload_n 0, 1) ∧ decode (zcc m_X0_runOver) 59 = .ok (.iload_n 3, 1) ∧ decode (zcc m_X0_runOver) 60 = .ok (.iload 4, 2) ∧ decode (zcc m_X0_runOver) 62 = .ok (.iload_n 2, 1) := by decide +kernel
set_option maxRecDepth 20000 in
theorem eg_X0_runOver_40 : decode (zcc m_X0_runOver) 63 = .ok (.invokevirtual 62, 3) ∧ decode (zcc m_X0_runOver) 66 = .ok (.i2l, 1) ∧ decode (zcc m_X0_runOver) 67 = .ok (.ladd, 1) ∧ decode (zcc m_X0_runOver) 68 = .ok (.putfield 30, 3) ∧ decode (zcc m_X0_runOver) 71 = .ok (.iinc 3 1, 3) ∧ decode (zcc m_X0_runOver) 74 = .ok (.goto (-65), 3) ∧ decode (zcc m_X0_runOver) 77 = .ok (.return_, 1) := by decide +kernel
theorem d_X0_runOver_0 : zD m_X0_runOver 0 (.aload_n 1) 1 1 := ⟨eg_X0_runOver_0.1, rfl⟩
theorem d_X0_runOver_1 : zD m_X0_runOver 1 (.getfield 51) 3 4 := ⟨eg_X0_runOver_0.2.1, rfl⟩
theorem d_X0_runOver_4 : zD m_X0_runOver 4 (.iconst 0) 1 5 := ⟨eg_X0_runOver_0.2.2.1, rfl⟩
theorem d_X0_runOver_5 : zD m_X0_runOver 5 (.iaload) 1 6 := ⟨eg_X0_runOver_0.2.2.2.1, rfl⟩
theorem d_X0_runOver_6 : zD m_X0_runOver 6 (.istore_n 2) 1 7 := ⟨eg_X0_runOver_0.2.2.2.2.1, rfl⟩
theorem d_X0_runOver_7 : zD m_X0_runOver 7 (.iconst 0) 1 8 := ⟨eg_X0_runOver_0.2.2.2.2.2.1, rfl⟩
theorem d_X0_runOver_8 : zD m_X0_runOver 8 (.istore_n 3) 1 9 := ⟨eg_X0_runOver_0.2.2.2.2.2.2.1, rfl⟩
theorem d_X0_runOver_9 : zD m_X0_runOver 9 (.iload_n 3) 1 10 := ⟨eg_X0_runOver_0.2.2.2.2.2.2.2, rfl⟩
theorem d_X0_runOver_10 : zD m_X0_runOver 10 (.bipush 48) 2 12 := ⟨eg_X0_runOver_8.1, rfl⟩
theorem d_X0_runOver_12 : zDj m_X0_runOver 12 (.if_icmp .ge) 15 77 := ⟨65, eg_X0_runOver_8.2.1, rfl, by decide⟩
theorem d_X0_runOver_15 : zD m_X0_runOver 15 (.aload_n 0) 1 16 := ⟨eg_X0_runOver_8.2.2.1, rfl⟩
theorem d_X0_runOver_16 : zD m_X0_runOver 16 (.getfield 15) 3 19 := ⟨eg_X0_runOver_8.2.2.2.1, rfl⟩
theorem d_X0_runOver_19 : zD m_X0_runOver 19 (.iload_n 3) 1 20 := ⟨eg_X0_runOver_8.2.2.2.2.1, rfl⟩
theorem d_X0_runOver_20 : zD m_X0_runOver 20 (.iaload) 1 21 := ⟨eg_X0_runOver_8.2.2.2.2.2.1, rfl⟩
theorem d_X0_runOver_21 : zD m_X0_runOver 21 (.iload_n 2) 1 22 := ⟨eg_X0_runOver_8.2.2.2.2.2.2.1, rfl⟩
theorem d_X0_runOver_22 : zD m_X0_runOver 22 (.isub) 1 23 := ⟨eg_X0_runOver_8.2.2.2.2.2.2.2, rfl⟩
theorem d_X0_runOver_23 : zD m_X0_runOver 23 (.istore 4) 2 25 := ⟨eg_X0_runOver_16.1, rfl⟩
theorem d_X0_runOver_25 : zD m_X0_runOver 25 (.iload 4) 2 27 := ⟨eg_X0_runOver_16.2.1, rfl⟩
theorem d_X0_runOver_27 : zDj m_X0_runOver 27 (.ifCond .le) 30 71 := ⟨44, eg_X0_runOver_16.2.2.1, rfl, by decide⟩
theorem d_X0_runOver_30 : zD m_X0_runOver 30 (.aload_n 0) 1 31 := ⟨eg_X0_runOver_16.2.2.2.1, rfl⟩
theorem d_X0_runOver_31 : zD m_X0_runOver 31 (.getfield 15) 3 34 := ⟨eg_X0_runOver_16.2.2.2.2.1, rfl⟩
theorem d_X0_runOver_34 : zD m_X0_runOver 34 (.iload_n 3) 1 35 := ⟨eg_X0_runOver_16.2.2.2.2.2.1, rfl⟩
theorem d_X0_runOver_35 : zD m_X0_runOver 35 (.iload_n 2) 1 36 := ⟨eg_X0_runOver_16.2.2.2.2.2.2.1, rfl⟩
theorem d_X0_runOver_36 : zD m_X0_runOver 36 (.iastore) 1 37 := ⟨eg_X0_runOver_16.2.2.2.2.2.2.2, rfl⟩
theorem d_X0_runOver_37 : zD m_X0_runOver 37 (.aload_n 0) 1 38 := ⟨eg_X0_runOver_24.1, rfl⟩
theorem d_X0_runOver_38 : zD m_X0_runOver 38 (.dup) 1 39 := ⟨eg_X0_runOver_24.2.1, rfl⟩
theorem d_X0_runOver_39 : zD m_X0_runOver 39 (.getfield 30) 3 42 := ⟨eg_X0_runOver_24.2.2.1, rfl⟩
theorem d_X0_runOver_42 : zD m_X0_runOver 42 (.aload_n 1) 1 43 := ⟨eg_X0_runOver_24.2.2.2.1, rfl⟩
theorem d_X0_runOver_43 : zD m_X0_runOver 43 (.getfield 51) 3 46 := ⟨eg_X0_runOver_24.2.2.2.2.1, rfl⟩
theorem d_X0_runOver_46 : zD m_X0_runOver 46 (.iconst 2) 1 47 := ⟨eg_X0_runOver_24.2.2.2.2.2.1, rfl⟩
theorem d_X0_runOver_47 : zD m_X0_runOver 47 (.iaload) 1 48 := ⟨eg_X0_runOver_24.2.2.2.2.2.2.1, rfl⟩
theorem d_X0_runOver_48 : zD m_X0_runOver 48 (.iconst 1) 1 49 := ⟨eg_X0_runOver_24.2.2.2.2.2.2.2, rfl⟩
theorem d_X0_runOver_49 : zDj m_X0_runOver 49 (.if_icmp .ne) 52 58 := ⟨9, eg_X0_runOver_32.1, rfl, by decide⟩
theorem d_X0_runOver_52 : zD m_X0_runOver 52 (.iload 4) 2 54 := ⟨eg_X0_runOver_32.2.1, rfl⟩
theorem d_X0_runOver_54 : zD m_X0_runOver 54 (.i2l) 1 55 := ⟨eg_X0_runOver_32.2.2.1, rfl⟩
theorem d_X0_runOver_55 : zDj m_X0_runOver 55 (.goto) 58 67 := ⟨12, eg_X0_runOver_32.2.2.2.1, rfl, by decide⟩
theorem d_X0_runOver_58 : zD m_X0_runOver 58 (.aload_n 0) 1 59 := ⟨eg_X0_runOver_32.2.2.2.2.1, rfl⟩
theorem d_X0_runOver_59 : zD m_X0_runOver 59 (.iload_n 3) 1 60 := ⟨eg_X0_runOver_32.2.2.2.2.2.1, rfl⟩
theorem d_X0_runOver_60 : zD m_X0_runOver 60 (.iload 4) 2 62 := ⟨eg_X0_runOver_32.2.2.2.2.2.2.1, rfl⟩
theorem d_X0_runOver_62 : zD m_X0_runOver 62 (.iload_n 2) 1 63 := ⟨eg_X0_runOver_32.2.2.2.2.2.2.2, rfl⟩
theorem d_X0_runOver_63 : zD m_X0_runOver 63 (.invokevirtual 62) 3 66 := ⟨eg_X0_runOver_40.1, rfl⟩
theorem d_X0_runOver_66 : zD m_X0_runOver 66 (.i2l) 1 67 := ⟨eg_X0_runOver_40.2.1, rfl⟩
theorem d_X0_runOver_67 : zD m_X0_runOver 67 (.ladd) 1 68 := ⟨eg_X0_runOver_40.2.2.1, rfl⟩
theorem d_X0_runOver_68 : zD m_X0_runOver 68 (.putfield 30) 3 71 := ⟨eg_X0_runOver_40.2.2.2.1, rfl⟩
theorem d_X0_runOver_71 : zD m_X0_runOver 71 (.iinc 3 1) 3 74 := ⟨eg_X0_runOver_40.2.2.2.2.1, rfl⟩
theorem d_X0_runOver_74 : zDj m_X0_runOver 74 (.goto) 77 9 := ⟨-65, eg_X0_runOver_40.2.2.2.2.2.1, rfl, by decide⟩
theorem d_X0_runOver_77 : decode (zcc m_X0_runOver) 77 = .ok (.return_, 1) := eg_X0_runOver_40.2.2.2.2.2.2
set_option maxRecDepth 20000 in
theorem eg_X0_spread_0 : decode (zcc m_X0_spread) 0 = .ok (.iload_n 2, 1) ∧ decode (zcc m_X0_spread) 1 = .ok (.istore 4, 2) ∧ decode (zcc m_X0_spread) 3 = .ok (.iconst 1, 1) ∧ decode (zcc m_X0_spread) 4 = .ok (.istore 5, 2) ∧ decode (zcc m_X0_spread) 6 = .ok (.iload 5, 2) ∧ decode (zcc m_X0_spread) 8 = .ok (.bipush 6, 2) ∧ decode (zcc m_X0_spread) 10 = .ok (.if_icmp .ge (52), 3) ∧ decode (zcc m_X0_spread) 13 = .ok (.iload 4, 2) := by decide +kernel
set_option maxRecDepth 20000 in
theorem eg_X0_spread_8 : decode (zcc m_X0_spread) 15 = .ok (.ifCond .le (47), 3) ∧ decode (zcc m_X0_spread) 18 = .ok (.iload 4, 2) ∧ decode (zcc m_X0_spread) 20 = .ok (.aload_n 0, 1) ∧ decode (zcc m_X0_spread) 21 = .ok (.iload_n 1, 1) ∧ decode (zcc m_X0_spread) 22 = .ok (.iload 5, 2) ∧ decode (zcc m_X0_spread) 24 = .ok (.bipush 8, 2) ∧ decode (zcc m_X0_spread) 26 = .ok (.imul, 1) ∧ decode (zcc m_X0_spread) 27 = .ok (.isub, 1) := by decide +kernel
set_option maxRecDepth 20000 in
theorem eg_X0_spread_16 : decode (zcc m_X0_spread) 28 = .ok (.iload 4, 2) ∧ decode (zcc m_X0_spread) 30 = .ok (.iload_n 3, 1) ∧ decode (zcc m_X0_spread) 31 = .ok (.invokevirtual 66, 3) ∧ decode (zcc m_X0_spread) 34 = .ok (.isub, 1) ∧ decode (zcc m_X0_spread) 35 = .ok (.istore 4, 2) ∧ decode (zcc m_X0_spread) 37 = .ok (.iload 4, 2) ∧ decode (zcc m_X0_spread) 39 = .ok (.aload_n 0, 1) ∧ decode (zcc m_X0_spread) 40 = .ok (.iload_n 1, 1) := by decide +kernel
set_option maxRecDepth 20000 in
theorem eg_X0_spread_24 : decode (zcc m_X0_spread) 41 = .ok (.iload 5, 2) ∧ decode (zcc m_X0_spread) 43 = .ok (.bipush 8, 2) ∧ decode (zcc m_X0_spread) 45 = .ok (.imul, 1) ∧ decode (zcc m_X0_spread) 46 = .ok (.iadd, 1) ∧ decode (zcc m_X0_spread) 47 = .ok (.iload 4, 2) ∧ decode (zcc m_X0_spread) 49 = .ok (.iload_n 3, 1) ∧ decode (zcc m_X0_spread) 50 = .ok (.invokevirtual 66, 3) ∧ decode (zcc m_X0_spread) 53 = .ok (.isub, 1) := by decide +kernel
set_option maxRecDepth 20000 in
theorem eg_X0_spread_32 : decode (zcc m_X0_spread) 54 = .ok (.istore 4, 2) ∧ decode (zcc m_X0_spread) 56 = .ok (.iinc 5 1, 3) ∧ decode (zcc m_X0_spread) 59 = .ok (.goto (-53), 3) ∧ decode (zcc m_X0_spread) 62 = .ok (.iload 4, 2) ∧ decode (zcc m_X0_spread) 64 = .ok (.ireturn, 1) := by decide +kernel
theorem d_X0_spread_0 : zD m_X0_spread 0 (.iload_n 2) 1 1 := ⟨eg_X0_spread_0.1, rfl⟩
theorem d_X0_spread_1 : zD m_X0_spread 1 (.istore 4) 2 3 := ⟨eg_X0_spread_0.2.1, rfl⟩
theorem d_X0_spread_3 : zD m_X0_spread 3 (.iconst 1) 1 4 := ⟨eg_X0_spread_0.2.2.1, rfl⟩
theorem d_X0_spread_4 : zD m_X0_spread 4 (.istore 5) 2 6 := ⟨eg_X0_spread_0.2.2.2.1, rfl⟩
theorem d_X0_spread_6 : zD m_X0_spread 6 (.iload 5) 2 8 := ⟨eg_X0_spread_0.2.2.2.2.1, rfl⟩
theorem d_X0_spread_8 : zD m_X0_spread 8 (.bipush 6) 2 10 := ⟨eg_X0_spread_0.2.2.2.2.2.1, rfl⟩
theorem d_X0_spread_10 : zDj m_X0_spread 10 (.if_icmp .ge) 13 62 := ⟨52, eg_X0_spread_0.2.2.2.2.2.2.1, rfl, by decide⟩
theorem d_X0_spread_13 : zD m_X0_spread 13 (.iload 4) 2 15 := ⟨eg_X0_spread_0.2.2.2.2.2.2.2, rfl⟩
theorem d_X0_spread_15 : zDj m_X0_spread 15 (.ifCond .le) 18 62 := ⟨47, eg_X0_spread_8.1, rfl, by decide⟩
theorem d_X0_spread_18 : zD m_X0_spread 18 (.iload 4) 2 20 := ⟨eg_X0_spread_8.2.1, rfl⟩
theorem d_X0_spread_20 : zD m_X0_spread 20 (.aload_n 0) 1 21 := ⟨eg_X0_spread_8.2.2.1, rfl⟩
theorem d_X0_spread_21 : zD m_X0_spread 21 (.iload_n 1) 1 22 := ⟨eg_X0_spread_8.2.2.2.1, rfl⟩
theorem d_X0_spread_22 : zD m_X0_spread 22 (.iload 5) 2 24 := ⟨eg_X0_spread_8.2.2.2.2.1, rfl⟩
theorem d_X0_spread_24 : zD m_X0_spread 24 (.bipush 8) 2 26 := ⟨eg_X0_spread_8.2.2.2.2.2.1, rfl⟩
theorem d_X0_spread_26 : zD m_X0_spread 26 (.imul) 1 27 := ⟨eg_X0_spread_8.2.2.2.2.2.2.1, rfl⟩
theorem d_X0_spread_27 : zD m_X0_spread 27 (.isub) 1 28 := ⟨eg_X0_spread_8.2.2.2.2.2.2.2, rfl⟩
theorem d_X0_spread_28 : zD m_X0_spread 28 (.iload 4) 2 30 := ⟨eg_X0_spread_16.1, rfl⟩
theorem d_X0_spread_30 : zD m_X0_spread 30 (.iload_n 3) 1 31 := ⟨eg_X0_spread_16.2.1, rfl⟩
theorem d_X0_spread_31 : zD m_X0_spread 31 (.invokevirtual 66) 3 34 := ⟨eg_X0_spread_16.2.2.1, rfl⟩
theorem d_X0_spread_34 : zD m_X0_spread 34 (.isub) 1 35 := ⟨eg_X0_spread_16.2.2.2.1, rfl⟩
theorem d_X0_spread_35 : zD m_X0_spread 35 (.istore 4) 2 37 := ⟨eg_X0_spread_16.2.2.2.2.1, rfl⟩
theorem d_X0_spread_37 : zD m_X0_spread 37 (.iload 4) 2 39 := ⟨eg_X0_spread_16.2.2.2.2.2.1, rfl⟩
theorem d_X0_spread_39 : zD m_X0_spread 39 (.aload_n 0) 1 40 := ⟨eg_X0_spread_16.2.2.2.2.2.2.1, rfl⟩
theorem d_X0_spread_40 : zD m_X0_spread 40 (.iload_n 1) 1 41 := ⟨eg_X0_spread_16.2.2.2.2.2.2.2, rfl⟩
theorem d_X0_spread_41 : zD m_X0_spread 41 (.iload 5) 2 43 := ⟨eg_X0_spread_24.1, rfl⟩
theorem d_X0_spread_43 : zD m_X0_spread 43 (.bipush 8) 2 45 := ⟨eg_X0_spread_24.2.1, rfl⟩
theorem d_X0_spread_45 : zD m_X0_spread 45 (.imul) 1 46 := ⟨eg_X0_spread_24.2.2.1, rfl⟩
theorem d_X0_spread_46 : zD m_X0_spread 46 (.iadd) 1 47 := ⟨eg_X0_spread_24.2.2.2.1, rfl⟩
theorem d_X0_spread_47 : zD m_X0_spread 47 (.iload 4) 2 49 := ⟨eg_X0_spread_24.2.2.2.2.1, rfl⟩
theorem d_X0_spread_49 : zD m_X0_spread 49 (.iload_n 3) 1 50 := ⟨eg_X0_spread_24.2.2.2.2.2.1, rfl⟩
theorem d_X0_spread_50 : zD m_X0_spread 50 (.invokevirtual 66) 3 53 := ⟨eg_X0_spread_24.2.2.2.2.2.2.1, rfl⟩
theorem d_X0_spread_53 : zD m_X0_spread 53 (.isub) 1 54 := ⟨eg_X0_spread_24.2.2.2.2.2.2.2, rfl⟩
theorem d_X0_spread_54 : zD m_X0_spread 54 (.istore 4) 2 56 := ⟨eg_X0_spread_32.1, rfl⟩
theorem d_X0_spread_56 : zD m_X0_spread 56 (.iinc 5 1) 3 59 := ⟨eg_X0_spread_32.2.1, rfl⟩
theorem d_X0_spread_59 : zDj m_X0_spread 59 (.goto) 62 6 := ⟨-53, eg_X0_spread_32.2.2.1, rfl, by decide⟩
theorem d_X0_spread_62 : zD m_X0_spread 62 (.iload 4) 2 64 := ⟨eg_X0_spread_32.2.2.2.1, rfl⟩
theorem d_X0_spread_64 : decode (zcc m_X0_spread) 64 = .ok (.ireturn, 1) := eg_X0_spread_32.2.2.2.2
set_option maxRecDepth 20000 in
theorem eg_X0_pourInto_0 : decode (zcc m_X0_pourInto) 0 = .ok (.iload_n 1, 1) ∧ decode (zcc m_X0_pourInto) 1 = .ok (.invokestatic 69, 3) ∧ decode (zcc m_X0_pourInto) 4 = .ok (.ifCond .eq (13), 3) ∧ decode (zcc m_X0_pourInto) 7 = .ok (.aload_n 0, 1) ∧ decode (zcc m_X0_pourInto) 8 = .ok (.getfield 15, 3) ∧ decode (zcc m_X0_pourInto) 11 = .ok (.iload_n 1, 1) ∧ decode (zcc m_X0_pourInto) 12 = .ok (.iaload, 1) ∧ decode (zcc m_X0_pourInto) 13 = .ok (.iload_n 3, 1) := by decide +kernel
set_option maxRecDepth 20000 in
theorem eg_X0_pourInto_8 : decode (zcc m_X0_pourInto) 14 = .ok (.if_icmp .lt (5), 3) ∧ decode (zcc m_X0_pourInto) 17 = .ok (.iconst 0, 1) ∧ decode (zcc m_X0_pourInto) 18 = .ok (.ireturn, 1) ∧ decode (zcc m_X0_pourInto) 19 = .ok (.iload_n 2, 1) ∧ decode (zcc m_X0_pourInto) 20 = .ok (.iload_n 3, 1) ∧ decode (zcc m_X0_pourInto) 21 = .ok (.aload_n 0, 1) ∧ decode (zcc m_X0_pourInto) 22 = .ok (.getfield 15, 3) ∧ decode (zcc m_X0_pourInto) 25 = .ok (.iload_n 1, 1) := by decide +kernel
set_option maxRecDepth 20000 in
theorem eg_X0_pourInto_16 : decode (zcc m_X0_pourInto) 26 = .ok (.iaload, 1) ∧ decode (zcc m_X0_pourInto) 27 = .ok (.isub, 1) ∧ decode (zcc m_X0_pourInto) 28 = .ok (.invokestatic 73, 3) ∧ decode (zcc m_X0_pourInto) 31 = .ok (.istore 4, 2) ∧ decode (zcc m_X0_pourInto) 33 = .ok (.aload_n 0, 1) ∧ decode (zcc m_X0_pourInto) 34 = .ok (.getfield 15, 3) ∧ decode (zcc m_X0_pourInto) 37 = .ok (.iload_n 1, 1) ∧ decode (zcc m_X0_pourInto) 38 = .ok (.dup2, 1) := by decide +kernel
set_option maxRecDepth 20000 in
theorem eg_X0_pourInto_24 : decode (zcc m_X0_pourInto) 39 = .ok (.iaload, 1) ∧ decode (zcc m_X0_pourInto) 40 = .ok (.iload 4, 2) ∧ decode (zcc m_X0_pourInto) 42 = .ok (.iadd, 1) ∧ decode (zcc m_X0_pourInto) 43 = .ok (.iastore, 1) ∧ decode (zcc m_X0_pourInto) 44 = .ok (.iload 4, 2) ∧ decode (zcc m_X0_pourInto) 46 = .ok (.ireturn, 1) := by decide +kernel
theorem d_X0_pourInto_0 : zD m_X0_pourInto 0 (.iload_n 1) 1 1 := ⟨eg_X0_pourInto_0.1, rfl⟩
theorem d_X0_pourInto_1 : zD m_X0_pourInto 1 (.invokestatic 69) 3 4 := ⟨eg_X0_pourInto_0.2.1, rfl⟩
theorem d_X0_pourInto_4 : zDj m_X0_pourInto 4 (.ifCond .eq) 7 17 := ⟨13, eg_X0_pourInto_0.2.2.1, rfl, by decide⟩
theorem d_X0_pourInto_7 : zD m_X0_pourInto 7 (.aload_n 0) 1 8 := ⟨eg_X0_pourInto_0.2.2.2.1, rfl⟩
theorem d_X0_pourInto_8 : zD m_X0_pourInto 8 (.getfield 15) 3 11 := ⟨eg_X0_pourInto_0.2.2.2.2.1, rfl⟩
theorem d_X0_pourInto_11 : zD m_X0_pourInto 11 (.iload_n 1) 1 12 := ⟨eg_X0_pourInto_0.2.2.2.2.2.1, rfl⟩
theorem d_X0_pourInto_12 : zD m_X0_pourInto 12 (.iaload) 1 13 := ⟨eg_X0_pourInto_0.2.2.2.2.2.2.1, rfl⟩
theorem d_X0_pourInto_13 : zD m_X0_pourInto 13 (.iload_n 3) 1 14 := ⟨eg_X0_pourInto_0.2.2.2.2.2.2.2, rfl⟩
theorem d_X0_pourInto_14 : zDj m_X0_pourInto 14 (.if_icmp .lt) 17 19 := ⟨5, eg_X0_pourInto_8.1, rfl, by decide⟩
theorem d_X0_pourInto_17 : zD m_X0_pourInto 17 (.iconst 0) 1 18 := ⟨eg_X0_pourInto_8.2.1, rfl⟩
theorem d_X0_pourInto_18 : decode (zcc m_X0_pourInto) 18 = .ok (.ireturn, 1) := eg_X0_pourInto_8.2.2.1
theorem d_X0_pourInto_19 : zD m_X0_pourInto 19 (.iload_n 2) 1 20 := ⟨eg_X0_pourInto_8.2.2.2.1, rfl⟩
theorem d_X0_pourInto_20 : zD m_X0_pourInto 20 (.iload_n 3) 1 21 := ⟨eg_X0_pourInto_8.2.2.2.2.1, rfl⟩
theorem d_X0_pourInto_21 : zD m_X0_pourInto 21 (.aload_n 0) 1 22 := ⟨eg_X0_pourInto_8.2.2.2.2.2.1, rfl⟩
theorem d_X0_pourInto_22 : zD m_X0_pourInto 22 (.getfield 15) 3 25 := ⟨eg_X0_pourInto_8.2.2.2.2.2.2.1, rfl⟩
theorem d_X0_pourInto_25 : zD m_X0_pourInto 25 (.iload_n 1) 1 26 := ⟨eg_X0_pourInto_8.2.2.2.2.2.2.2, rfl⟩
theorem d_X0_pourInto_26 : zD m_X0_pourInto 26 (.iaload) 1 27 := ⟨eg_X0_pourInto_16.1, rfl⟩
theorem d_X0_pourInto_27 : zD m_X0_pourInto 27 (.isub) 1 28 := ⟨eg_X0_pourInto_16.2.1, rfl⟩
theorem d_X0_pourInto_28 : zD m_X0_pourInto 28 (.invokestatic 73) 3 31 := ⟨eg_X0_pourInto_16.2.2.1, rfl⟩
theorem d_X0_pourInto_31 : zD m_X0_pourInto 31 (.istore 4) 2 33 := ⟨eg_X0_pourInto_16.2.2.2.1, rfl⟩
theorem d_X0_pourInto_33 : zD m_X0_pourInto 33 (.aload_n 0) 1 34 := ⟨eg_X0_pourInto_16.2.2.2.2.1, rfl⟩
theorem d_X0_pourInto_34 : zD m_X0_pourInto 34 (.getfield 15) 3 37 := ⟨eg_X0_pourInto_16.2.2.2.2.2.1, rfl⟩
theorem d_X0_pourInto_37 : zD m_X0_pourInto 37 (.iload_n 1) 1 38 := ⟨eg_X0_pourInto_16.2.2.2.2.2.2.1, rfl⟩
theorem d_X0_pourInto_38 : zD m_X0_pourInto 38 (.dup2) 1 39 := ⟨eg_X0_pourInto_16.2.2.2.2.2.2.2, rfl⟩
theorem d_X0_pourInto_39 : zD m_X0_pourInto 39 (.iaload) 1 40 := ⟨eg_X0_pourInto_24.1, rfl⟩
theorem d_X0_pourInto_40 : zD m_X0_pourInto 40 (.iload 4) 2 42 := ⟨eg_X0_pourInto_24.2.1, rfl⟩
theorem d_X0_pourInto_42 : zD m_X0_pourInto 42 (.iadd) 1 43 := ⟨eg_X0_pourInto_24.2.2.1, rfl⟩
theorem d_X0_pourInto_43 : zD m_X0_pourInto 43 (.iastore) 1 44 := ⟨eg_X0_pourInto_24.2.2.2.1, rfl⟩
theorem d_X0_pourInto_44 : zD m_X0_pourInto 44 (.iload 4) 2 46 := ⟨eg_X0_pourInto_24.2.2.2.2.1, rfl⟩
theorem d_X0_pourInto_46 : decode (zcc m_X0_pourInto) 46 = .ok (.ireturn, 1) := eg_X0_pourInto_24.2.2.2.2.2
set_option maxRecDepth 20000 in
theorem eg_X0_handDown_0 : decode (zcc m_X0_handDown) 0 = .ok (.aload_n 0, 1) ∧ decode (zcc m_X0_handDown) 1 = .ok (.iconst 2, 1) ∧ decode (zcc m_X0_handDown) 2 = .ok (.aload_n 1, 1) ∧ decode (zcc m_X0_handDown) 3 = .ok (.getfield 51, 3) ∧ decode (zcc m_X0_handDown) 6 = .ok (.iconst 0, 1) ∧ decode (zcc m_X0_handDown) 7 = .ok (.iaload, 1) ∧ decode (zcc m_X0_handDown) 8 = .ok (.imul, 1) ∧ decode (zcc m_X0_handDown) 9 = .ok (.invokevirtual 79, 3) := by decide +kernel
set_option maxRecDepth 20000 in
theorem eg_X0_handDown_8 : decode (zcc m_X0_handDown) 12 = .ok (.iload_n 2, 1) ∧ decode (zcc m_X0_handDown) 13 = .ok (.ifCond .eq (40), 3) ∧ decode (zcc m_X0_handDown) 16 = .ok (.aload_n 0, 1) ∧ decode (zcc m_X0_handDown) 17 = .ok (.aload_n 1, 1) ∧ decode (zcc m_X0_handDown) 18 = .ok (.invokevirtual 83, 3) ∧ decode (zcc m_X0_handDown) 21 = .ok (.iconst 0, 1) ∧ decode (zcc m_X0_handDown) 22 = .ok (.istore_n 3, 1) ∧ decode (zcc m_X0_handDown) 23 = .ok (.iload_n 3, 1) := by decide +kernel
set_option maxRecDepth 20000 in
theorem eg_X0_handDown_16 : decode (zcc m_X0_handDown) 24 = .ok (.bipush 48, 2) ∧ decode (zcc m_X0_handDown) 26 = .ok (.if_icmp .ge (27), 3) ∧ decode (zcc m_X0_handDown) 29 = .ok (.aload_n 0, 1) ∧ decode (zcc m_X0_handDown) 30 = .ok (.iload_n 3, 1) ∧ decode (zcc m_X0_handDown) 31 = .ok (.aload_n 0, 1) ∧ decode (zcc m_X0_handDown) 32 = .ok (.getfield 9, 3) ∧ decode (zcc m_X0_handDown) 35 = .ok (.iload_n 3, 1) ∧ decode (zcc m_X0_handDown) 36 = .ok (.iaload, 1) := by decide +kernel
set_option maxRecDepth 20000 in
theorem eg_X0_handDown_24 : decode (zcc m_X0_handDown) 37 = .ok (.aload_n 1, 1) ∧ decode (zcc m_X0_handDown) 38 = .ok (.getfield 51, 3) ∧ decode (zcc m_X0_handDown) 41 = .ok (.iconst 3, 1) ∧ decode (zcc m_X0_handDown) 42 = .ok (.iaload, 1) ∧ decode (zcc m_X0_handDown) 43 = .ok (.imul, 1) ∧ decode (zcc m_X0_handDown) 44 = .ok (.invokevirtual 54, 3) ∧ decode (zcc m_X0_handDown) 47 = .ok (.iinc 3 1, 3) ∧ decode (zcc m_X0_handDown) 50 = .ok (.goto (-27), 3) := by decide +kernel
set_option maxRecDepth 20000 in
theorem eg_X0_handDown_32 : decode (zcc m_X0_handDown) 53 = .ok (.aload_n 0, 1) ∧ decode (zcc m_X0_handDown) 54 = .ok (.aload_n 1, 1) ∧ decode (zcc m_X0_handDown) 55 = .ok (.invokevirtual 58, 3) ∧ decode (zcc m_X0_handDown) 58 = .ok (.return_, 1) := by decide +kernel
theorem d_X0_handDown_0 : zD m_X0_handDown 0 (.aload_n 0) 1 1 := ⟨eg_X0_handDown_0.1, rfl⟩
theorem d_X0_handDown_1 : zD m_X0_handDown 1 (.iconst 2) 1 2 := ⟨eg_X0_handDown_0.2.1, rfl⟩
theorem d_X0_handDown_2 : zD m_X0_handDown 2 (.aload_n 1) 1 3 := ⟨eg_X0_handDown_0.2.2.1, rfl⟩
theorem d_X0_handDown_3 : zD m_X0_handDown 3 (.getfield 51) 3 6 := ⟨eg_X0_handDown_0.2.2.2.1, rfl⟩
theorem d_X0_handDown_6 : zD m_X0_handDown 6 (.iconst 0) 1 7 := ⟨eg_X0_handDown_0.2.2.2.2.1, rfl⟩
theorem d_X0_handDown_7 : zD m_X0_handDown 7 (.iaload) 1 8 := ⟨eg_X0_handDown_0.2.2.2.2.2.1, rfl⟩
theorem d_X0_handDown_8 : zD m_X0_handDown 8 (.imul) 1 9 := ⟨eg_X0_handDown_0.2.2.2.2.2.2.1, rfl⟩
theorem d_X0_handDown_9 : zD m_X0_handDown 9 (.invokevirtual 79) 3 12 := ⟨eg_X0_handDown_0.2.2.2.2.2.2.2, rfl⟩
theorem d_X0_handDown_12 : zD m_X0_handDown 12 (.iload_n 2) 1 13 := ⟨eg_X0_handDown_8.1, rfl⟩
theorem d_X0_handDown_13 : zDj m_X0_handDown 13 (.ifCond .eq) 16 53 := ⟨40, eg_X0_handDown_8.2.1, rfl, by decide⟩
theorem d_X0_handDown_16 : zD m_X0_handDown 16 (.aload_n 0) 1 17 := ⟨eg_X0_handDown_8.2.2.1, rfl⟩
theorem d_X0_handDown_17 : zD m_X0_handDown 17 (.aload_n 1) 1 18 := ⟨eg_X0_handDown_8.2.2.2.1, rfl⟩
theorem d_X0_handDown_18 : zD m_X0_handDown 18 (.invokevirtual 83) 3 21 := ⟨eg_X0_handDown_8.2.2.2.2.1, rfl⟩
theorem d_X0_handDown_21 : zD m_X0_handDown 21 (.iconst 0) 1 22 := ⟨eg_X0_handDown_8.2.2.2.2.2.1, rfl⟩
theorem d_X0_handDown_22 : zD m_X0_handDown 22 (.istore_n 3) 1 23 := ⟨eg_X0_handDown_8.2.2.2.2.2.2.1, rfl⟩
theorem d_X0_handDown_23 : zD m_X0_handDown 23 (.iload_n 3) 1 24 := ⟨eg_X0_handDown_8.2.2.2.2.2.2.2, rfl⟩
theorem d_X0_handDown_24 : zD m_X0_handDown 24 (.bipush 48) 2 26 := ⟨eg_X0_handDown_16.1, rfl⟩
theorem d_X0_handDown_26 : zDj m_X0_handDown 26 (.if_icmp .ge) 29 53 := ⟨27, eg_X0_handDown_16.2.1, rfl, by decide⟩
theorem d_X0_handDown_29 : zD m_X0_handDown 29 (.aload_n 0) 1 30 := ⟨eg_X0_handDown_16.2.2.1, rfl⟩
theorem d_X0_handDown_30 : zD m_X0_handDown 30 (.iload_n 3) 1 31 := ⟨eg_X0_handDown_16.2.2.2.1, rfl⟩
theorem d_X0_handDown_31 : zD m_X0_handDown 31 (.aload_n 0) 1 32 := ⟨eg_X0_handDown_16.2.2.2.2.1, rfl⟩
theorem d_X0_handDown_32 : zD m_X0_handDown 32 (.getfield 9) 3 35 := ⟨eg_X0_handDown_16.2.2.2.2.2.1, rfl⟩
theorem d_X0_handDown_35 : zD m_X0_handDown 35 (.iload_n 3) 1 36 := ⟨eg_X0_handDown_16.2.2.2.2.2.2.1, rfl⟩
theorem d_X0_handDown_36 : zD m_X0_handDown 36 (.iaload) 1 37 := ⟨eg_X0_handDown_16.2.2.2.2.2.2.2, rfl⟩
theorem d_X0_handDown_37 : zD m_X0_handDown 37 (.aload_n 1) 1 38 := ⟨eg_X0_handDown_24.1, rfl⟩
theorem d_X0_handDown_38 : zD m_X0_handDown 38 (.getfield 51) 3 41 := ⟨eg_X0_handDown_24.2.1, rfl⟩
theorem d_X0_handDown_41 : zD m_X0_handDown 41 (.iconst 3) 1 42 := ⟨eg_X0_handDown_24.2.2.1, rfl⟩
theorem d_X0_handDown_42 : zD m_X0_handDown 42 (.iaload) 1 43 := ⟨eg_X0_handDown_24.2.2.2.1, rfl⟩
theorem d_X0_handDown_43 : zD m_X0_handDown 43 (.imul) 1 44 := ⟨eg_X0_handDown_24.2.2.2.2.1, rfl⟩
theorem d_X0_handDown_44 : zD m_X0_handDown 44 (.invokevirtual 54) 3 47 := ⟨eg_X0_handDown_24.2.2.2.2.2.1, rfl⟩
theorem d_X0_handDown_47 : zD m_X0_handDown 47 (.iinc 3 1) 3 50 := ⟨eg_X0_handDown_24.2.2.2.2.2.2.1, rfl⟩
theorem d_X0_handDown_50 : zDj m_X0_handDown 50 (.goto) 53 23 := ⟨-27, eg_X0_handDown_24.2.2.2.2.2.2.2, rfl, by decide⟩
theorem d_X0_handDown_53 : zD m_X0_handDown 53 (.aload_n 0) 1 54 := ⟨eg_X0_handDown_32.1, rfl⟩
theorem d_X0_handDown_54 : zD m_X0_handDown 54 (.aload_n 1) 1 55 := ⟨eg_X0_handDown_32.2.1, rfl⟩
theorem d_X0_handDown_55 : zD m_X0_handDown 55 (.invokevirtual 58) 3 58 := ⟨eg_X0_handDown_32.2.2.1, rfl⟩
theorem d_X0_handDown_58 : decode (zcc m_X0_handDown) 58 = .ok (.return_, 1) := eg_X0_handDown_32.2.2.2
set_option maxRecDepth 20000 in
theorem eg_X0_rowsDown_0 : decode (zcc m_X0_rowsDown) 0 = .ok (.iconst 0, 1) ∧ decode (zcc m_X0_rowsDown) 1 = .ok (.istore_n 2, 1) ∧ decode (zcc m_X0_rowsDown) 2 = .ok (.iload_n 2, 1) ∧ decode (zcc m_X0_rowsDown) 3 = .ok (.bipush 8, 2) ∧ decode (zcc m_X0_rowsDown) 5 = .ok (.if_icmp .ge (55), 3) ∧ decode (zcc m_X0_rowsDown) 8 = .ok (.aload_n 0, 1) ∧ decode (zcc m_X0_rowsDown) 9 = .ok (.getfield 21, 3) ∧ decode (zcc m_X0_rowsDown) 12 = .ok (.iload_n 2, 1) := by decide +kernel
set_option maxRecDepth 20000 in
theorem eg_X0_rowsDown_8 : decode (zcc m_X0_rowsDown) 13 = .ok (.iaload, 1) ∧ decode (zcc m_X0_rowsDown) 14 = .ok (.aload_n 0, 1) ∧ decode (zcc m_X0_rowsDown) 15 = .ok (.getfield 15, 3) ∧ decode (zcc m_X0_rowsDown) 18 = .ok (.bipush 40, 2) ∧ decode (zcc m_X0_rowsDown) 20 = .ok (.iload_n 2, 1) ∧ decode (zcc m_X0_rowsDown) 21 = .ok (.iadd, 1) ∧ decode (zcc m_X0_rowsDown) 22 = .ok (.iaload, 1) ∧ decode (zcc m_X0_rowsDown) 23 = .ok (.iadd, 1) := by decide +kernel
set_option maxRecDepth 20000 in
theorem eg_X0_rowsDown_16 : decode (zcc m_X0_rowsDown) 24 = .ok (.istore_n 3, 1) ∧ decode (zcc m_X0_rowsDown) 25 = .ok (.aload_n 0, 1) ∧ decode (zcc m_X0_rowsDown) 26 = .ok (.getfield 21, 3) ∧ decode (zcc m_X0_rowsDown) 29 = .ok (.iload_n 2, 1) ∧ decode (zcc m_X0_rowsDown) 30 = .ok (.iload_n 3, 1) ∧ decode (zcc m_X0_rowsDown) 31 = .ok (.iload_n 1, 1) ∧ decode (zcc m_X0_rowsDown) 32 = .ok (.invokestatic 73, 3) ∧ decode (zcc m_X0_rowsDown) 35 = .ok (.iastore, 1) := by decide +kernel
set_option maxRecDepth 20000 in
theorem eg_X0_rowsDown_24 : decode (zcc m_X0_rowsDown) 36 = .ok (.aload_n 0, 1) ∧ decode (zcc m_X0_rowsDown) 37 = .ok (.dup, 1) ∧ decode (zcc m_X0_rowsDown) 38 = .ok (.getfield 30, 3) ∧ decode (zcc m_X0_rowsDown) 41 = .ok (.iload_n 3, 1) ∧ decode (zcc m_X0_rowsDown) 42 = .ok (.aload_n 0, 1) ∧ decode (zcc m_X0_rowsDown) 43 = .ok (.getfield 21, 3) ∧ decode (zcc m_X0_rowsDown) 46 = .ok (.iload_n 2, 1) ∧ decode (zcc m_X0_rowsDown) 47 = .ok (.iaload, 1) := by decide +kernel
set_option maxRecDepth 20000 in
theorem eg_X0_rowsDown_32 : decode (zcc m_X0_rowsDown) 48 = .ok (.isub, 1) ∧ decode (zcc m_X0_rowsDown) 49 = .ok (.i2l, 1) ∧ decode (zcc m_X0_rowsDown) 50 = .ok (.ladd, 1) ∧ decode (zcc m_X0_rowsDown) 51 = .ok (.putfield 30, 3) ∧ decode (zcc m_X0_rowsDown) 54 = .ok (.iinc 2 1, 3) ∧ decode (zcc m_X0_rowsDown) 57 = .ok (.goto (-55), 3) ∧ decode (zcc m_X0_rowsDown) 60 = .ok (.bipush 47, 2) ∧ decode (zcc m_X0_rowsDown) 62 = .ok (.istore_n 2, 1) := by decide +kernel
set_option maxRecDepth 20000 in
theorem eg_X0_rowsDown_40 : decode (zcc m_X0_rowsDown) 63 = .ok (.iload_n 2, 1) ∧ decode (zcc m_X0_rowsDown) 64 = .ok (.bipush 8, 2) ∧ decode (zcc m_X0_rowsDown) 66 = .ok (.if_icmp .lt (24), 3) ∧ decode (zcc m_X0_rowsDown) 69 = .ok (.aload_n 0, 1) ∧ decode (zcc m_X0_rowsDown) 70 = .ok (.getfield 15, 3) ∧ decode (zcc m_X0_rowsDown) 73 = .ok (.iload_n 2, 1) ∧ decode (zcc m_X0_rowsDown) 74 = .ok (.aload_n 0, 1) ∧ decode (zcc m_X0_rowsDown) 75 = .ok (.getfield 15, 3) := by decide +kernel
set_option maxRecDepth 20000 in
theorem eg_X0_rowsDown_48 : decode (zcc m_X0_rowsDown) 78 = .ok (.iload_n 2, 1) ∧ decode (zcc m_X0_rowsDown) 79 = .ok (.bipush 8, 2) ∧ decode (zcc m_X0_rowsDown) 81 = .ok (.isub, 1) ∧ decode (zcc m_X0_rowsDown) 82 = .ok (.iaload, 1) ∧ decode (zcc m_X0_rowsDown) 83 = .ok (.iastore, 1) ∧ decode (zcc m_X0_rowsDown) 84 = .ok (.iinc 2 (-1), 3) ∧ decode (zcc m_X0_rowsDown) 87 = .ok (.goto (-24), 3) ∧ decode (zcc m_X0_rowsDown) 90 = .ok (.iconst 0, 1) := by decide +kernel
set_option maxRecDepth 20000 in
theorem eg_X0_rowsDown_56 : decode (zcc m_X0_rowsDown) 91 = .ok (.istore_n 2, 1) ∧ decode (zcc m_X0_rowsDown) 92 = .ok (.iload_n 2, 1) ∧ decode (zcc m_X0_rowsDown) 93 = .ok (.bipush 8, 2) ∧ decode (zcc m_X0_rowsDown) 95 = .ok (.if_icmp .ge (16), 3) ∧ decode (zcc m_X0_rowsDown) 98 = .ok (.aload_n 0, 1) ∧ decode (zcc m_X0_rowsDown) 99 = .ok (.getfield 15, 3) ∧ decode (zcc m_X0_rowsDown) 102 = .ok (.iload_n 2, 1) ∧ decode (zcc m_X0_rowsDown) 103 = .ok (.iconst 0, 1) := by decide +kernel
set_option maxRecDepth 20000 in
theorem eg_X0_rowsDown_64 : decode (zcc m_X0_rowsDown) 104 = .ok (.iastore, 1) ∧ decode (zcc m_X0_rowsDown) 105 = .ok (.iinc 2 1, 3) ∧ decode (zcc m_X0_rowsDown) 108 = .ok (.goto (-16), 3) ∧ decode (zcc m_X0_rowsDown) 111 = .ok (.return_, 1) := by decide +kernel
theorem d_X0_rowsDown_0 : zD m_X0_rowsDown 0 (.iconst 0) 1 1 := ⟨eg_X0_rowsDown_0.1, rfl⟩
theorem d_X0_rowsDown_1 : zD m_X0_rowsDown 1 (.istore_n 2) 1 2 := ⟨eg_X0_rowsDown_0.2.1, rfl⟩
theorem d_X0_rowsDown_2 : zD m_X0_rowsDown 2 (.iload_n 2) 1 3 := ⟨eg_X0_rowsDown_0.2.2.1, rfl⟩
theorem d_X0_rowsDown_3 : zD m_X0_rowsDown 3 (.bipush 8) 2 5 := ⟨eg_X0_rowsDown_0.2.2.2.1, rfl⟩
theorem d_X0_rowsDown_5 : zDj m_X0_rowsDown 5 (.if_icmp .ge) 8 60 := ⟨55, eg_X0_rowsDown_0.2.2.2.2.1, rfl, by decide⟩
theorem d_X0_rowsDown_8 : zD m_X0_rowsDown 8 (.aload_n 0) 1 9 := ⟨eg_X0_rowsDown_0.2.2.2.2.2.1, rfl⟩
theorem d_X0_rowsDown_9 : zD m_X0_rowsDown 9 (.getfield 21) 3 12 := ⟨eg_X0_rowsDown_0.2.2.2.2.2.2.1, rfl⟩
theorem d_X0_rowsDown_12 : zD m_X0_rowsDown 12 (.iload_n 2) 1 13 := ⟨eg_X0_rowsDown_0.2.2.2.2.2.2.2, rfl⟩
theorem d_X0_rowsDown_13 : zD m_X0_rowsDown 13 (.iaload) 1 14 := ⟨eg_X0_rowsDown_8.1, rfl⟩
theorem d_X0_rowsDown_14 : zD m_X0_rowsDown 14 (.aload_n 0) 1 15 := ⟨eg_X0_rowsDown_8.2.1, rfl⟩
theorem d_X0_rowsDown_15 : zD m_X0_rowsDown 15 (.getfield 15) 3 18 := ⟨eg_X0_rowsDown_8.2.2.1, rfl⟩
theorem d_X0_rowsDown_18 : zD m_X0_rowsDown 18 (.bipush 40) 2 20 := ⟨eg_X0_rowsDown_8.2.2.2.1, rfl⟩
theorem d_X0_rowsDown_20 : zD m_X0_rowsDown 20 (.iload_n 2) 1 21 := ⟨eg_X0_rowsDown_8.2.2.2.2.1, rfl⟩
theorem d_X0_rowsDown_21 : zD m_X0_rowsDown 21 (.iadd) 1 22 := ⟨eg_X0_rowsDown_8.2.2.2.2.2.1, rfl⟩
theorem d_X0_rowsDown_22 : zD m_X0_rowsDown 22 (.iaload) 1 23 := ⟨eg_X0_rowsDown_8.2.2.2.2.2.2.1, rfl⟩
theorem d_X0_rowsDown_23 : zD m_X0_rowsDown 23 (.iadd) 1 24 := ⟨eg_X0_rowsDown_8.2.2.2.2.2.2.2, rfl⟩
theorem d_X0_rowsDown_24 : zD m_X0_rowsDown 24 (.istore_n 3) 1 25 := ⟨eg_X0_rowsDown_16.1, rfl⟩
theorem d_X0_rowsDown_25 : zD m_X0_rowsDown 25 (.aload_n 0) 1 26 := ⟨eg_X0_rowsDown_16.2.1, rfl⟩
theorem d_X0_rowsDown_26 : zD m_X0_rowsDown 26 (.getfield 21) 3 29 := ⟨eg_X0_rowsDown_16.2.2.1, rfl⟩
theorem d_X0_rowsDown_29 : zD m_X0_rowsDown 29 (.iload_n 2) 1 30 := ⟨eg_X0_rowsDown_16.2.2.2.1, rfl⟩
theorem d_X0_rowsDown_30 : zD m_X0_rowsDown 30 (.iload_n 3) 1 31 := ⟨eg_X0_rowsDown_16.2.2.2.2.1, rfl⟩
theorem d_X0_rowsDown_31 : zD m_X0_rowsDown 31 (.iload_n 1) 1 32 := ⟨eg_X0_rowsDown_16.2.2.2.2.2.1, rfl⟩
theorem d_X0_rowsDown_32 : zD m_X0_rowsDown 32 (.invokestatic 73) 3 35 := ⟨eg_X0_rowsDown_16.2.2.2.2.2.2.1, rfl⟩
theorem d_X0_rowsDown_35 : zD m_X0_rowsDown 35 (.iastore) 1 36 := ⟨eg_X0_rowsDown_16.2.2.2.2.2.2.2, rfl⟩
theorem d_X0_rowsDown_36 : zD m_X0_rowsDown 36 (.aload_n 0) 1 37 := ⟨eg_X0_rowsDown_24.1, rfl⟩
theorem d_X0_rowsDown_37 : zD m_X0_rowsDown 37 (.dup) 1 38 := ⟨eg_X0_rowsDown_24.2.1, rfl⟩
theorem d_X0_rowsDown_38 : zD m_X0_rowsDown 38 (.getfield 30) 3 41 := ⟨eg_X0_rowsDown_24.2.2.1, rfl⟩
theorem d_X0_rowsDown_41 : zD m_X0_rowsDown 41 (.iload_n 3) 1 42 := ⟨eg_X0_rowsDown_24.2.2.2.1, rfl⟩
theorem d_X0_rowsDown_42 : zD m_X0_rowsDown 42 (.aload_n 0) 1 43 := ⟨eg_X0_rowsDown_24.2.2.2.2.1, rfl⟩
theorem d_X0_rowsDown_43 : zD m_X0_rowsDown 43 (.getfield 21) 3 46 := ⟨eg_X0_rowsDown_24.2.2.2.2.2.1, rfl⟩
theorem d_X0_rowsDown_46 : zD m_X0_rowsDown 46 (.iload_n 2) 1 47 := ⟨eg_X0_rowsDown_24.2.2.2.2.2.2.1, rfl⟩
theorem d_X0_rowsDown_47 : zD m_X0_rowsDown 47 (.iaload) 1 48 := ⟨eg_X0_rowsDown_24.2.2.2.2.2.2.2, rfl⟩
theorem d_X0_rowsDown_48 : zD m_X0_rowsDown 48 (.isub) 1 49 := ⟨eg_X0_rowsDown_32.1, rfl⟩
theorem d_X0_rowsDown_49 : zD m_X0_rowsDown 49 (.i2l) 1 50 := ⟨eg_X0_rowsDown_32.2.1, rfl⟩
theorem d_X0_rowsDown_50 : zD m_X0_rowsDown 50 (.ladd) 1 51 := ⟨eg_X0_rowsDown_32.2.2.1, rfl⟩
theorem d_X0_rowsDown_51 : zD m_X0_rowsDown 51 (.putfield 30) 3 54 := ⟨eg_X0_rowsDown_32.2.2.2.1, rfl⟩
theorem d_X0_rowsDown_54 : zD m_X0_rowsDown 54 (.iinc 2 1) 3 57 := ⟨eg_X0_rowsDown_32.2.2.2.2.1, rfl⟩
theorem d_X0_rowsDown_57 : zDj m_X0_rowsDown 57 (.goto) 60 2 := ⟨-55, eg_X0_rowsDown_32.2.2.2.2.2.1, rfl, by decide⟩
theorem d_X0_rowsDown_60 : zD m_X0_rowsDown 60 (.bipush 47) 2 62 := ⟨eg_X0_rowsDown_32.2.2.2.2.2.2.1, rfl⟩
theorem d_X0_rowsDown_62 : zD m_X0_rowsDown 62 (.istore_n 2) 1 63 := ⟨eg_X0_rowsDown_32.2.2.2.2.2.2.2, rfl⟩
theorem d_X0_rowsDown_63 : zD m_X0_rowsDown 63 (.iload_n 2) 1 64 := ⟨eg_X0_rowsDown_40.1, rfl⟩
theorem d_X0_rowsDown_64 : zD m_X0_rowsDown 64 (.bipush 8) 2 66 := ⟨eg_X0_rowsDown_40.2.1, rfl⟩
theorem d_X0_rowsDown_66 : zDj m_X0_rowsDown 66 (.if_icmp .lt) 69 90 := ⟨24, eg_X0_rowsDown_40.2.2.1, rfl, by decide⟩
theorem d_X0_rowsDown_69 : zD m_X0_rowsDown 69 (.aload_n 0) 1 70 := ⟨eg_X0_rowsDown_40.2.2.2.1, rfl⟩
theorem d_X0_rowsDown_70 : zD m_X0_rowsDown 70 (.getfield 15) 3 73 := ⟨eg_X0_rowsDown_40.2.2.2.2.1, rfl⟩
theorem d_X0_rowsDown_73 : zD m_X0_rowsDown 73 (.iload_n 2) 1 74 := ⟨eg_X0_rowsDown_40.2.2.2.2.2.1, rfl⟩
theorem d_X0_rowsDown_74 : zD m_X0_rowsDown 74 (.aload_n 0) 1 75 := ⟨eg_X0_rowsDown_40.2.2.2.2.2.2.1, rfl⟩
theorem d_X0_rowsDown_75 : zD m_X0_rowsDown 75 (.getfield 15) 3 78 := ⟨eg_X0_rowsDown_40.2.2.2.2.2.2.2, rfl⟩
theorem d_X0_rowsDown_78 : zD m_X0_rowsDown 78 (.iload_n 2) 1 79 := ⟨eg_X0_rowsDown_48.1, rfl⟩
theorem d_X0_rowsDown_79 : zD m_X0_rowsDown 79 (.bipush 8) 2 81 := ⟨eg_X0_rowsDown_48.2.1, rfl⟩
theorem d_X0_rowsDown_81 : zD m_X0_rowsDown 81 (.isub) 1 82 := ⟨eg_X0_rowsDown_48.2.2.1, rfl⟩
theorem d_X0_rowsDown_82 : zD m_X0_rowsDown 82 (.iaload) 1 83 := ⟨eg_X0_rowsDown_48.2.2.2.1, rfl⟩
theorem d_X0_rowsDown_83 : zD m_X0_rowsDown 83 (.iastore) 1 84 := ⟨eg_X0_rowsDown_48.2.2.2.2.1, rfl⟩
theorem d_X0_rowsDown_84 : zD m_X0_rowsDown 84 (.iinc 2 (-1)) 3 87 := ⟨eg_X0_rowsDown_48.2.2.2.2.2.1, rfl⟩
theorem d_X0_rowsDown_87 : zDj m_X0_rowsDown 87 (.goto) 90 63 := ⟨-24, eg_X0_rowsDown_48.2.2.2.2.2.2.1, rfl, by decide⟩
theorem d_X0_rowsDown_90 : zD m_X0_rowsDown 90 (.iconst 0) 1 91 := ⟨eg_X0_rowsDown_48.2.2.2.2.2.2.2, rfl⟩
theorem d_X0_rowsDown_91 : zD m_X0_rowsDown 91 (.istore_n 2) 1 92 := ⟨eg_X0_rowsDown_56.1, rfl⟩
theorem d_X0_rowsDown_92 : zD m_X0_rowsDown 92 (.iload_n 2) 1 93 := ⟨eg_X0_rowsDown_56.2.1, rfl⟩
theorem d_X0_rowsDown_93 : zD m_X0_rowsDown 93 (.bipush 8) 2 95 := ⟨eg_X0_rowsDown_56.2.2.1, rfl⟩
theorem d_X0_rowsDown_95 : zDj m_X0_rowsDown 95 (.if_icmp .ge) 98 111 := ⟨16, eg_X0_rowsDown_56.2.2.2.1, rfl, by decide⟩
theorem d_X0_rowsDown_98 : zD m_X0_rowsDown 98 (.aload_n 0) 1 99 := ⟨eg_X0_rowsDown_56.2.2.2.2.1, rfl⟩
theorem d_X0_rowsDown_99 : zD m_X0_rowsDown 99 (.getfield 15) 3 102 := ⟨eg_X0_rowsDown_56.2.2.2.2.2.1, rfl⟩
theorem d_X0_rowsDown_102 : zD m_X0_rowsDown 102 (.iload_n 2) 1 103 := ⟨eg_X0_rowsDown_56.2.2.2.2.2.2.1, rfl⟩
theorem d_X0_rowsDown_103 : zD m_X0_rowsDown 103 (.iconst 0) 1 104 := ⟨eg_X0_rowsDown_56.2.2.2.2.2.2.2, rfl⟩
theorem d_X0_rowsDown_104 : zD m_X0_rowsDown 104 (.iastore) 1 105 := ⟨eg_X0_rowsDown_64.1, rfl⟩
theorem d_X0_rowsDown_105 : zD m_X0_rowsDown 105 (.iinc 2 1) 3 108 := ⟨eg_X0_rowsDown_64.2.1, rfl⟩
theorem d_X0_rowsDown_108 : zDj m_X0_rowsDown 108 (.goto) 111 92 := ⟨-16, eg_X0_rowsDown_64.2.2.1, rfl, by decide⟩
theorem d_X0_rowsDown_111 : decode (zcc m_X0_rowsDown) 111 = .ok (.return_, 1) := eg_X0_rowsDown_64.2.2.2
set_option maxRecDepth 20000 in
theorem eg_X0_trapAll_0 : decode (zcc m_X0_trapAll) 0 = .ok (.iconst 0, 1) ∧ decode (zcc m_X0_trapAll) 1 = .ok (.istore_n 2, 1) ∧ decode (zcc m_X0_trapAll) 2 = .ok (.iload_n 2, 1) ∧ decode (zcc m_X0_trapAll) 3 = .ok (.bipush 48, 2) ∧ decode (zcc m_X0_trapAll) 5 = .ok (.if_icmp .ge (71), 3) ∧ decode (zcc m_X0_trapAll) 8 = .ok (.aload_n 0, 1) ∧ decode (zcc m_X0_trapAll) 9 = .ok (.getfield 15, 3) ∧ decode (zcc m_X0_trapAll) 12 = .ok (.iload_n 2, 1) := by decide +kernel
set_option maxRecDepth 20000 in
theorem eg_X0_trapAll_8 : decode (zcc m_X0_trapAll) 13 = .ok (.iaload, 1) ∧ decode (zcc m_X0_trapAll) 14 = .ok (.ifCond .le (28), 3) ∧ decode (zcc m_X0_trapAll) 17 = .ok (.aload_n 0, 1) ∧ decode (zcc m_X0_trapAll) 18 = .ok (.getfield 15, 3) ∧ decode (zcc m_X0_trapAll) 21 = .ok (.iload_n 2, 1) ∧ decode (zcc m_X0_trapAll) 22 = .ok (.iaload, 1) ∧ decode (zcc m_X0_trapAll) 23 = .ok (.aload_n 1, 1) ∧ decode (zcc m_X0_trapAll) 24 = .ok (.getfield 86, 3) := by decide +kernel
set_option maxRecDepth 20000 in
theorem eg_X0_trapAll_16 : decode (zcc m_X0_trapAll) 27 = .ok (.iload_n 2, 1) ∧ decode (zcc m_X0_trapAll) 28 = .ok (.iaload, 1) ∧ decode (zcc m_X0_trapAll) 29 = .ok (.aload_n 0, 1) ∧ decode (zcc m_X0_trapAll) 30 = .ok (.getfield 18, 3) ∧ decode (zcc m_X0_trapAll) 33 = .ok (.iload_n 2, 1) ∧ decode (zcc m_X0_trapAll) 34 = .ok (.iaload, 1) ∧ decode (zcc m_X0_trapAll) 35 = .ok (.isub, 1) ∧ decode (zcc m_X0_trapAll) 36 = .ok (.invokestatic 73, 3) := by decide +kernel
set_option maxRecDepth 20000 in
theorem eg_X0_trapAll_24 : decode (zcc m_X0_trapAll) 39 = .ok (.goto (10), 3) ∧ decode (zcc m_X0_trapAll) 42 = .ok (.aload_n 0, 1) ∧ decode (zcc m_X0_trapAll) 43 = .ok (.getfield 18, 3) ∧ decode (zcc m_X0_trapAll) 46 = .ok (.iload_n 2, 1) ∧ decode (zcc m_X0_trapAll) 47 = .ok (.iaload, 1) ∧ decode (zcc m_X0_trapAll) 48 = .ok (.ineg, 1) ∧ decode (zcc m_X0_trapAll) 49 = .ok (.istore_n 3, 1) ∧ decode (zcc m_X0_trapAll) 50 = .ok (.aload_n 0, 1) := by decide +kernel
set_option maxRecDepth 20000 in
theorem eg_X0_trapAll_32 : decode (zcc m_X0_trapAll) 51 = .ok (.getfield 18, 3) ∧ decode (zcc m_X0_trapAll) 54 = .ok (.iload_n 2, 1) ∧ decode (zcc m_X0_trapAll) 55 = .ok (.dup2, 1) ∧ decode (zcc m_X0_trapAll) 56 = .ok (.iaload, 1) ∧ decode (zcc m_X0_trapAll) 57 = .ok (.iload_n 3, 1) ∧ decode (zcc m_X0_trapAll) 58 = .ok (.iadd, 1) ∧ decode (zcc m_X0_trapAll) 59 = .ok (.iastore, 1) ∧ decode (zcc m_X0_trapAll) 60 = .ok (.aload_n 0, 1) := by decide +kernel
set_option maxRecDepth 20000 in
theorem eg_X0_trapAll_40 : decode (zcc m_X0_trapAll) 61 = .ok (.getfield 15, 3) ∧ decode (zcc m_X0_trapAll) 64 = .ok (.iload_n 2, 1) ∧ decode (zcc m_X0_trapAll) 65 = .ok (.dup2, 1) ∧ decode (zcc m_X0_trapAll) 66 = .ok (.iaload, 1) ∧ decode (zcc m_X0_trapAll) 67 = .ok (.iload_n 3, 1) ∧ decode (zcc m_X0_trapAll) 68 = .ok (.isub, 1) ∧ decode (zcc m_X0_trapAll) 69 = .ok (.iastore, 1) ∧ decode (zcc m_X0_trapAll) 70 = .ok (.iinc 2 1, 3) := by decide +kernel
set_option maxRecDepth 20000 in
theorem eg_X0_trapAll_48 : decode (zcc m_X0_trapAll) 73 = .ok (.goto (-71), 3) ∧ decode (zcc m_X0_trapAll) 76 = .ok (.return_, 1) := by decide +kernel
theorem d_X0_trapAll_0 : zD m_X0_trapAll 0 (.iconst 0) 1 1 := ⟨eg_X0_trapAll_0.1, rfl⟩
theorem d_X0_trapAll_1 : zD m_X0_trapAll 1 (.istore_n 2) 1 2 := ⟨eg_X0_trapAll_0.2.1, rfl⟩
theorem d_X0_trapAll_2 : zD m_X0_trapAll 2 (.iload_n 2) 1 3 := ⟨eg_X0_trapAll_0.2.2.1, rfl⟩
theorem d_X0_trapAll_3 : zD m_X0_trapAll 3 (.bipush 48) 2 5 := ⟨eg_X0_trapAll_0.2.2.2.1, rfl⟩
theorem d_X0_trapAll_5 : zDj m_X0_trapAll 5 (.if_icmp .ge) 8 76 := ⟨71, eg_X0_trapAll_0.2.2.2.2.1, rfl, by decide⟩
theorem d_X0_trapAll_8 : zD m_X0_trapAll 8 (.aload_n 0) 1 9 := ⟨eg_X0_trapAll_0.2.2.2.2.2.1, rfl⟩
theorem d_X0_trapAll_9 : zD m_X0_trapAll 9 (.getfield 15) 3 12 := ⟨eg_X0_trapAll_0.2.2.2.2.2.2.1, rfl⟩
theorem d_X0_trapAll_12 : zD m_X0_trapAll 12 (.iload_n 2) 1 13 := ⟨eg_X0_trapAll_0.2.2.2.2.2.2.2, rfl⟩
theorem d_X0_trapAll_13 : zD m_X0_trapAll 13 (.iaload) 1 14 := ⟨eg_X0_trapAll_8.1, rfl⟩
theorem d_X0_trapAll_14 : zDj m_X0_trapAll 14 (.ifCond .le) 17 42 := ⟨28, eg_X0_trapAll_8.2.1, rfl, by decide⟩
theorem d_X0_trapAll_17 : zD m_X0_trapAll 17 (.aload_n 0) 1 18 := ⟨eg_X0_trapAll_8.2.2.1, rfl⟩
theorem d_X0_trapAll_18 : zD m_X0_trapAll 18 (.getfield 15) 3 21 := ⟨eg_X0_trapAll_8.2.2.2.1, rfl⟩
theorem d_X0_trapAll_21 : zD m_X0_trapAll 21 (.iload_n 2) 1 22 := ⟨eg_X0_trapAll_8.2.2.2.2.1, rfl⟩
theorem d_X0_trapAll_22 : zD m_X0_trapAll 22 (.iaload) 1 23 := ⟨eg_X0_trapAll_8.2.2.2.2.2.1, rfl⟩
theorem d_X0_trapAll_23 : zD m_X0_trapAll 23 (.aload_n 1) 1 24 := ⟨eg_X0_trapAll_8.2.2.2.2.2.2.1, rfl⟩
theorem d_X0_trapAll_24 : zD m_X0_trapAll 24 (.getfield 86) 3 27 := ⟨eg_X0_trapAll_8.2.2.2.2.2.2.2, rfl⟩
theorem d_X0_trapAll_27 : zD m_X0_trapAll 27 (.iload_n 2) 1 28 := ⟨eg_X0_trapAll_16.1, rfl⟩
theorem d_X0_trapAll_28 : zD m_X0_trapAll 28 (.iaload) 1 29 := ⟨eg_X0_trapAll_16.2.1, rfl⟩
theorem d_X0_trapAll_29 : zD m_X0_trapAll 29 (.aload_n 0) 1 30 := ⟨eg_X0_trapAll_16.2.2.1, rfl⟩
theorem d_X0_trapAll_30 : zD m_X0_trapAll 30 (.getfield 18) 3 33 := ⟨eg_X0_trapAll_16.2.2.2.1, rfl⟩
theorem d_X0_trapAll_33 : zD m_X0_trapAll 33 (.iload_n 2) 1 34 := ⟨eg_X0_trapAll_16.2.2.2.2.1, rfl⟩
theorem d_X0_trapAll_34 : zD m_X0_trapAll 34 (.iaload) 1 35 := ⟨eg_X0_trapAll_16.2.2.2.2.2.1, rfl⟩
theorem d_X0_trapAll_35 : zD m_X0_trapAll 35 (.isub) 1 36 := ⟨eg_X0_trapAll_16.2.2.2.2.2.2.1, rfl⟩
theorem d_X0_trapAll_36 : zD m_X0_trapAll 36 (.invokestatic 73) 3 39 := ⟨eg_X0_trapAll_16.2.2.2.2.2.2.2, rfl⟩
theorem d_X0_trapAll_39 : zDj m_X0_trapAll 39 (.goto) 42 49 := ⟨10, eg_X0_trapAll_24.1, rfl, by decide⟩
theorem d_X0_trapAll_42 : zD m_X0_trapAll 42 (.aload_n 0) 1 43 := ⟨eg_X0_trapAll_24.2.1, rfl⟩
theorem d_X0_trapAll_43 : zD m_X0_trapAll 43 (.getfield 18) 3 46 := ⟨eg_X0_trapAll_24.2.2.1, rfl⟩
theorem d_X0_trapAll_46 : zD m_X0_trapAll 46 (.iload_n 2) 1 47 := ⟨eg_X0_trapAll_24.2.2.2.1, rfl⟩
theorem d_X0_trapAll_47 : zD m_X0_trapAll 47 (.iaload) 1 48 := ⟨eg_X0_trapAll_24.2.2.2.2.1, rfl⟩
theorem d_X0_trapAll_48 : zD m_X0_trapAll 48 (.ineg) 1 49 := ⟨eg_X0_trapAll_24.2.2.2.2.2.1, rfl⟩
theorem d_X0_trapAll_49 : zD m_X0_trapAll 49 (.istore_n 3) 1 50 := ⟨eg_X0_trapAll_24.2.2.2.2.2.2.1, rfl⟩
theorem d_X0_trapAll_50 : zD m_X0_trapAll 50 (.aload_n 0) 1 51 := ⟨eg_X0_trapAll_24.2.2.2.2.2.2.2, rfl⟩
theorem d_X0_trapAll_51 : zD m_X0_trapAll 51 (.getfield 18) 3 54 := ⟨eg_X0_trapAll_32.1, rfl⟩
theorem d_X0_trapAll_54 : zD m_X0_trapAll 54 (.iload_n 2) 1 55 := ⟨eg_X0_trapAll_32.2.1, rfl⟩
theorem d_X0_trapAll_55 : zD m_X0_trapAll 55 (.dup2) 1 56 := ⟨eg_X0_trapAll_32.2.2.1, rfl⟩
theorem d_X0_trapAll_56 : zD m_X0_trapAll 56 (.iaload) 1 57 := ⟨eg_X0_trapAll_32.2.2.2.1, rfl⟩
theorem d_X0_trapAll_57 : zD m_X0_trapAll 57 (.iload_n 3) 1 58 := ⟨eg_X0_trapAll_32.2.2.2.2.1, rfl⟩
theorem d_X0_trapAll_58 : zD m_X0_trapAll 58 (.iadd) 1 59 := ⟨eg_X0_trapAll_32.2.2.2.2.2.1, rfl⟩
theorem d_X0_trapAll_59 : zD m_X0_trapAll 59 (.iastore) 1 60 := ⟨eg_X0_trapAll_32.2.2.2.2.2.2.1, rfl⟩
theorem d_X0_trapAll_60 : zD m_X0_trapAll 60 (.aload_n 0) 1 61 := ⟨eg_X0_trapAll_32.2.2.2.2.2.2.2, rfl⟩
theorem d_X0_trapAll_61 : zD m_X0_trapAll 61 (.getfield 15) 3 64 := ⟨eg_X0_trapAll_40.1, rfl⟩
theorem d_X0_trapAll_64 : zD m_X0_trapAll 64 (.iload_n 2) 1 65 := ⟨eg_X0_trapAll_40.2.1, rfl⟩
theorem d_X0_trapAll_65 : zD m_X0_trapAll 65 (.dup2) 1 66 := ⟨eg_X0_trapAll_40.2.2.1, rfl⟩
theorem d_X0_trapAll_66 : zD m_X0_trapAll 66 (.iaload) 1 67 := ⟨eg_X0_trapAll_40.2.2.2.1, rfl⟩
theorem d_X0_trapAll_67 : zD m_X0_trapAll 67 (.iload_n 3) 1 68 := ⟨eg_X0_trapAll_40.2.2.2.2.1, rfl⟩
theorem d_X0_trapAll_68 : zD m_X0_trapAll 68 (.isub) 1 69 := ⟨eg_X0_trapAll_40.2.2.2.2.2.1, rfl⟩
theorem d_X0_trapAll_69 : zD m_X0_trapAll 69 (.iastore) 1 70 := ⟨eg_X0_trapAll_40.2.2.2.2.2.2.1, rfl⟩
theorem d_X0_trapAll_70 : zD m_X0_trapAll 70 (.iinc 2 1) 3 73 := ⟨eg_X0_trapAll_40.2.2.2.2.2.2.2, rfl⟩
theorem d_X0_trapAll_73 : zDj m_X0_trapAll 73 (.goto) 76 2 := ⟨-71, eg_X0_trapAll_48.1, rfl, by decide⟩
theorem d_X0_trapAll_76 : decode (zcc m_X0_trapAll) 76 = .ok (.return_, 1) := eg_X0_trapAll_48.2
set_option maxRecDepth 20000 in
theorem eg_X0_readOne_0 : decode (zcc m_X0_readOne) 0 = .ok (.aload_n 0, 1) ∧ decode (zcc m_X0_readOne) 1 = .ok (.getfield 21, 3) ∧ decode (zcc m_X0_readOne) 4 = .ok (.bipush 7, 2) ∧ decode (zcc m_X0_readOne) 6 = .ok (.iaload, 1) ∧ decode (zcc m_X0_readOne) 7 = .ok (.istore_n 1, 1) ∧ decode (zcc m_X0_readOne) 8 = .ok (.bipush 7, 2) ∧ decode (zcc m_X0_readOne) 10 = .ok (.istore_n 2, 1) ∧ decode (zcc m_X0_readOne) 11 = .ok (.iload_n 2, 1) := by decide +kernel
set_option maxRecDepth 20000 in
theorem eg_X0_readOne_8 : decode (zcc m_X0_readOne) 12 = .ok (.ifCond .le (23), 3) ∧ decode (zcc m_X0_readOne) 15 = .ok (.aload_n 0, 1) ∧ decode (zcc m_X0_readOne) 16 = .ok (.getfield 21, 3) ∧ decode (zcc m_X0_readOne) 19 = .ok (.iload_n 2, 1) ∧ decode (zcc m_X0_readOne) 20 = .ok (.aload_n 0, 1) ∧ decode (zcc m_X0_readOne) 21 = .ok (.getfield 21, 3) ∧ decode (zcc m_X0_readOne) 24 = .ok (.iload_n 2, 1) ∧ decode (zcc m_X0_readOne) 25 = .ok (.iconst 1, 1) := by decide +kernel
set_option maxRecDepth 20000 in
theorem eg_X0_readOne_16 : decode (zcc m_X0_readOne) 26 = .ok (.isub, 1) ∧ decode (zcc m_X0_readOne) 27 = .ok (.iaload, 1) ∧ decode (zcc m_X0_readOne) 28 = .ok (.iastore, 1) ∧ decode (zcc m_X0_readOne) 29 = .ok (.iinc 2 (-1), 3) ∧ decode (zcc m_X0_readOne) 32 = .ok (.goto (-21), 3) ∧ decode (zcc m_X0_readOne) 35 = .ok (.aload_n 0, 1) ∧ decode (zcc m_X0_readOne) 36 = .ok (.getfield 21, 3) ∧ decode (zcc m_X0_readOne) 39 = .ok (.iconst 0, 1) := by decide +kernel
set_option maxRecDepth 20000 in
theorem eg_X0_readOne_24 : decode (zcc m_X0_readOne) 40 = .ok (.iconst 0, 1) ∧ decode (zcc m_X0_readOne) 41 = .ok (.iastore, 1) ∧ decode (zcc m_X0_readOne) 42 = .ok (.aload_n 0, 1) ∧ decode (zcc m_X0_readOne) 43 = .ok (.dup, 1) ∧ decode (zcc m_X0_readOne) 44 = .ok (.getfield 34, 3) ∧ decode (zcc m_X0_readOne) 47 = .ok (.iload_n 1, 1) ∧ decode (zcc m_X0_readOne) 48 = .ok (.i2l, 1) ∧ decode (zcc m_X0_readOne) 49 = .ok (.ladd, 1) := by decide +kernel
set_option maxRecDepth 20000 in
theorem eg_X0_readOne_32 : decode (zcc m_X0_readOne) 50 = .ok (.putfield 34, 3) ∧ decode (zcc m_X0_readOne) 53 = .ok (.iload_n 1, 1) ∧ decode (zcc m_X0_readOne) 54 = .ok (.ireturn, 1) := by decide +kernel
theorem d_X0_readOne_0 : zD m_X0_readOne 0 (.aload_n 0) 1 1 := ⟨eg_X0_readOne_0.1, rfl⟩
theorem d_X0_readOne_1 : zD m_X0_readOne 1 (.getfield 21) 3 4 := ⟨eg_X0_readOne_0.2.1, rfl⟩
theorem d_X0_readOne_4 : zD m_X0_readOne 4 (.bipush 7) 2 6 := ⟨eg_X0_readOne_0.2.2.1, rfl⟩
theorem d_X0_readOne_6 : zD m_X0_readOne 6 (.iaload) 1 7 := ⟨eg_X0_readOne_0.2.2.2.1, rfl⟩
theorem d_X0_readOne_7 : zD m_X0_readOne 7 (.istore_n 1) 1 8 := ⟨eg_X0_readOne_0.2.2.2.2.1, rfl⟩
theorem d_X0_readOne_8 : zD m_X0_readOne 8 (.bipush 7) 2 10 := ⟨eg_X0_readOne_0.2.2.2.2.2.1, rfl⟩
theorem d_X0_readOne_10 : zD m_X0_readOne 10 (.istore_n 2) 1 11 := ⟨eg_X0_readOne_0.2.2.2.2.2.2.1, rfl⟩
theorem d_X0_readOne_11 : zD m_X0_readOne 11 (.iload_n 2) 1 12 := ⟨eg_X0_readOne_0.2.2.2.2.2.2.2, rfl⟩
theorem d_X0_readOne_12 : zDj m_X0_readOne 12 (.ifCond .le) 15 35 := ⟨23, eg_X0_readOne_8.1, rfl, by decide⟩
theorem d_X0_readOne_15 : zD m_X0_readOne 15 (.aload_n 0) 1 16 := ⟨eg_X0_readOne_8.2.1, rfl⟩
theorem d_X0_readOne_16 : zD m_X0_readOne 16 (.getfield 21) 3 19 := ⟨eg_X0_readOne_8.2.2.1, rfl⟩
theorem d_X0_readOne_19 : zD m_X0_readOne 19 (.iload_n 2) 1 20 := ⟨eg_X0_readOne_8.2.2.2.1, rfl⟩
theorem d_X0_readOne_20 : zD m_X0_readOne 20 (.aload_n 0) 1 21 := ⟨eg_X0_readOne_8.2.2.2.2.1, rfl⟩
theorem d_X0_readOne_21 : zD m_X0_readOne 21 (.getfield 21) 3 24 := ⟨eg_X0_readOne_8.2.2.2.2.2.1, rfl⟩
theorem d_X0_readOne_24 : zD m_X0_readOne 24 (.iload_n 2) 1 25 := ⟨eg_X0_readOne_8.2.2.2.2.2.2.1, rfl⟩
theorem d_X0_readOne_25 : zD m_X0_readOne 25 (.iconst 1) 1 26 := ⟨eg_X0_readOne_8.2.2.2.2.2.2.2, rfl⟩
theorem d_X0_readOne_26 : zD m_X0_readOne 26 (.isub) 1 27 := ⟨eg_X0_readOne_16.1, rfl⟩
theorem d_X0_readOne_27 : zD m_X0_readOne 27 (.iaload) 1 28 := ⟨eg_X0_readOne_16.2.1, rfl⟩
theorem d_X0_readOne_28 : zD m_X0_readOne 28 (.iastore) 1 29 := ⟨eg_X0_readOne_16.2.2.1, rfl⟩
theorem d_X0_readOne_29 : zD m_X0_readOne 29 (.iinc 2 (-1)) 3 32 := ⟨eg_X0_readOne_16.2.2.2.1, rfl⟩
theorem d_X0_readOne_32 : zDj m_X0_readOne 32 (.goto) 35 11 := ⟨-21, eg_X0_readOne_16.2.2.2.2.1, rfl, by decide⟩
theorem d_X0_readOne_35 : zD m_X0_readOne 35 (.aload_n 0) 1 36 := ⟨eg_X0_readOne_16.2.2.2.2.2.1, rfl⟩
theorem d_X0_readOne_36 : zD m_X0_readOne 36 (.getfield 21) 3 39 := ⟨eg_X0_readOne_16.2.2.2.2.2.2.1, rfl⟩
theorem d_X0_readOne_39 : zD m_X0_readOne 39 (.iconst 0) 1 40 := ⟨eg_X0_readOne_16.2.2.2.2.2.2.2, rfl⟩
theorem d_X0_readOne_40 : zD m_X0_readOne 40 (.iconst 0) 1 41 := ⟨eg_X0_readOne_24.1, rfl⟩
theorem d_X0_readOne_41 : zD m_X0_readOne 41 (.iastore) 1 42 := ⟨eg_X0_readOne_24.2.1, rfl⟩
theorem d_X0_readOne_42 : zD m_X0_readOne 42 (.aload_n 0) 1 43 := ⟨eg_X0_readOne_24.2.2.1, rfl⟩
theorem d_X0_readOne_43 : zD m_X0_readOne 43 (.dup) 1 44 := ⟨eg_X0_readOne_24.2.2.2.1, rfl⟩
theorem d_X0_readOne_44 : zD m_X0_readOne 44 (.getfield 34) 3 47 := ⟨eg_X0_readOne_24.2.2.2.2.1, rfl⟩
theorem d_X0_readOne_47 : zD m_X0_readOne 47 (.iload_n 1) 1 48 := ⟨eg_X0_readOne_24.2.2.2.2.2.1, rfl⟩
theorem d_X0_readOne_48 : zD m_X0_readOne 48 (.i2l) 1 49 := ⟨eg_X0_readOne_24.2.2.2.2.2.2.1, rfl⟩
theorem d_X0_readOne_49 : zD m_X0_readOne 49 (.ladd) 1 50 := ⟨eg_X0_readOne_24.2.2.2.2.2.2.2, rfl⟩
theorem d_X0_readOne_50 : zD m_X0_readOne 50 (.putfield 34) 3 53 := ⟨eg_X0_readOne_32.1, rfl⟩
theorem d_X0_readOne_53 : zD m_X0_readOne 53 (.iload_n 1) 1 54 := ⟨eg_X0_readOne_32.2.1, rfl⟩
theorem d_X0_readOne_54 : decode (zcc m_X0_readOne) 54 = .ok (.ireturn, 1) := eg_X0_readOne_32.2.2
