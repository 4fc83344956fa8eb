set_option maxRecDepth 20000 in
theorem eg_X5_init_0 : decode (zcc m_X5_init) 0 = .ok (.aload_n 0, 1) ∧ decode (zcc m_X5_init) 1 = .ok (.invokespecial 3, 3) ∧ decode (zcc m_X5_init) 4 = .ok (.aload_n 0, 1) ∧ decode (zcc m_X5_init) 5 = .ok (.bipush 40, 2) ∧ decode (zcc m_X5_init) 7 = .ok (.newarray .int, 2) ∧ decode (zcc m_X5_init) 9 = .ok (.putfield 9, 3) ∧ decode (zcc m_X5_init) 12 = .ok (.aload_n 0, 1) ∧ decode (zcc m_X5_init) 13 = .ok (.iconst (-1), 1) := by decide +kernel
set_option maxRecDepth 20000 in
theorem eg_X5_init_8 : decode (zcc m_X5_init) 14 = .ok (.putfield 15, 3) ∧ decode (zcc m_X5_init) 17 = .ok (.return_, 1) := by decide +kernel
theorem d_X5_init_0 : zD m_X5_init 0 (.aload_n 0) 1 1 := ⟨eg_X5_init_0.1, rfl⟩
theorem d_X5_init_1 : zD m_X5_init 1 (.invokespecial 3) 3 4 := ⟨eg_X5_init_0.2.1, rfl⟩
theorem d_X5_init_4 : zD m_X5_init 4 (.aload_n 0) 1 5 := ⟨eg_X5_init_0.2.2.1, rfl⟩
theorem d_X5_init_5 : zD m_X5_init 5 (.bipush 40) 2 7 := ⟨eg_X5_init_0.2.2.2.1, rfl⟩
theorem d_X5_init_7 : zD m_X5_init 7 (.newarray .int) 2 9 := ⟨eg_X5_init_0.2.2.2.2.1, rfl⟩
theorem d_X5_init_9 : zD m_X5_init 9 (.putfield 9) 3 12 := ⟨eg_X5_init_0.2.2.2.2.2.1, rfl⟩
theorem d_X5_init_12 : zD m_X5_init 12 (.aload_n 0) 1 13 := ⟨eg_X5_init_0.2.2.2.2.2.2.1, rfl⟩
theorem d_X5_init_13 : zD m_X5_init 13 (.iconst (-1)) 1 14 := ⟨eg_X5_init_0.2.2.2.2.2.2.2, rfl⟩
theorem d_X5_init_14 : zD m_X5_init 14 (.putfield 15) 3 17 := ⟨eg_X5_init_8.1, rfl⟩
theorem d_X5_init_17 : decode (zcc m_X5_init) 17 = .ok (.return_, 1) := eg_X5_init_8.2
set_option maxRecDepth 20000 in
theorem eg_X5_renew_0 : decode (zcc m_X5_renew) 0 = .ok (.aload_n 0, 1) ∧ decode (zcc m_X5_renew) 1 = .ok (.getfield 9, 3) ∧ decode (zcc m_X5_renew) 4 = .ok (.iconst 0, 1) ∧ decode (zcc m_X5_renew) 5 = .ok (.invokestatic 19, 3) ∧ decode (zcc m_X5_renew) 8 = .ok (.aload_n 0, 1) ∧ decode (zcc m_X5_renew) 9 = .ok (.iload_n 1, 1) ∧ decode (zcc m_X5_renew) 10 = .ok (.putfield 25, 3) ∧ decode (zcc m_X5_renew) 13 = .ok (.aload_n 0, 1) := by decide +kernel
set_option maxRecDepth 20000 in
theorem eg_X5_renew_8 : decode (zcc m_X5_renew) 14 = .ok (.iload_n 2, 1) ∧ decode (zcc m_X5_renew) 15 = .ok (.putfield 15, 3) ∧ decode (zcc m_X5_renew) 18 = .ok (.return_, 1) := by decide +kernel
theorem d_X5_renew_0 : zD m_X5_renew 0 (.aload_n 0) 1 1 := ⟨eg_X5_renew_0.1, rfl⟩
theorem d_X5_renew_1 : zD m_X5_renew 1 (.getfield 9) 3 4 := ⟨eg_X5_renew_0.2.1, rfl⟩
theorem d_X5_renew_4 : zD m_X5_renew 4 (.iconst 0) 1 5 := ⟨eg_X5_renew_0.2.2.1, rfl⟩
theorem d_X5_renew_5 : zD m_X5_renew 5 (.invokestatic 19) 3 8 := ⟨eg_X5_renew_0.2.2.2.1, rfl⟩
theorem d_X5_renew_8 : zD m_X5_renew 8 (.aload_n 0) 1 9 := ⟨eg_X5_renew_0.2.2.2.2.1, rfl⟩
theorem d_X5_renew_9 : zD m_X5_renew 9 (.iload_n 1) 1 10 := ⟨eg_X5_renew_0.2.2.2.2.2.1, rfl⟩
theorem d_X5_renew_10 : zD m_X5_renew 10 (.putfield 25) 3 13 := ⟨eg_X5_renew_0.2.2.2.2.2.2.1, rfl⟩
theorem d_X5_renew_13 : zD m_X5_renew 13 (.aload_n 0) 1 14 := ⟨eg_X5_renew_0.2.2.2.2.2.2.2, rfl⟩
theorem d_X5_renew_14 : zD m_X5_renew 14 (.iload_n 2) 1 15 := ⟨eg_X5_renew_8.1, rfl⟩
theorem d_X5_renew_15 : zD m_X5_renew 15 (.putfield 15) 3 18 := ⟨eg_X5_renew_8.2.1, rfl⟩
theorem d_X5_renew_18 : decode (zcc m_X5_renew) 18 = .ok (.return_, 1) := eg_X5_renew_8.2.2
set_option maxRecDepth 20000 in
theorem eg_X5_faultAt_0 : decode (zcc m_X5_faultAt) 0 = .ok (.aload_n 0, 1) ∧ decode (zcc m_X5_faultAt) 1 = .ok (.getfield 15, 3) ∧ decode (zcc m_X5_faultAt) 4 = .ok (.ifCond .ge (5), 3) ∧ decode (zcc m_X5_faultAt) 7 = .ok (.iconst 1, 1) ∧ decode (zcc m_X5_faultAt) 8 = .ok (.ireturn, 1) ∧ decode (zcc m_X5_faultAt) 9 = .ok (.iload_n 1, 1) ∧ decode (zcc m_X5_faultAt) 10 = .ok (.aload_n 0, 1) ∧ decode (zcc m_X5_faultAt) 11 = .ok (.getfield 25, 3) := by decide +kernel
set_option maxRecDepth 20000 in
theorem eg_X5_faultAt_8 : decode (zcc m_X5_faultAt) 14 = .ok (.if_icmp .eq (5), 3) ∧ decode (zcc m_X5_faultAt) 17 = .ok (.iconst 3, 1) ∧ decode (zcc m_X5_faultAt) 18 = .ok (.ireturn, 1) ∧ decode (zcc m_X5_faultAt) 19 = .ok (.iload_n 2, 1) ∧ decode (zcc m_X5_faultAt) 20 = .ok (.ifCond .lt (11), 3) ∧ decode (zcc m_X5_faultAt) 23 = .ok (.iload_n 2, 1) ∧ decode (zcc m_X5_faultAt) 24 = .ok (.aload_n 0, 1) ∧ decode (zcc m_X5_faultAt) 25 = .ok (.getfield 15, 3) := by decide +kernel
set_option maxRecDepth 20000 in
theorem eg_X5_faultAt_16 : decode (zcc m_X5_faultAt) 28 = .ok (.if_icmp .lt (7), 3) ∧ decode (zcc m_X5_faultAt) 31 = .ok (.iconst 2, 1) ∧ decode (zcc m_X5_faultAt) 32 = .ok (.goto (4), 3) ∧ decode (zcc m_X5_faultAt) 35 = .ok (.iconst 0, 1) ∧ decode (zcc m_X5_faultAt) 36 = .ok (.ireturn, 1) := by decide +kernel
theorem d_X5_faultAt_0 : zD m_X5_faultAt 0 (.aload_n 0) 1 1 := ⟨eg_X5_faultAt_0.1, rfl⟩
theorem d_X5_faultAt_1 : zD m_X5_faultAt 1 (.getfield 15) 3 4 := ⟨eg_X5_faultAt_0.2.1, rfl⟩
theorem d_X5_faultAt_4 : zDj m_X5_faultAt 4 (.ifCond .ge) 7 9 := ⟨5, eg_X5_faultAt_0.2.2.1, rfl, by decide⟩
theorem d_X5_faultAt_7 : zD m_X5_faultAt 7 (.iconst 1) 1 8 := ⟨eg_X5_faultAt_0.2.2.2.1, rfl⟩
theorem d_X5_faultAt_8 : decode (zcc m_X5_faultAt) 8 = .ok (.ireturn, 1) := eg_X5_faultAt_0.2.2.2.2.1
theorem d_X5_faultAt_9 : zD m_X5_faultAt 9 (.iload_n 1) 1 10 := ⟨eg_X5_faultAt_0.2.2.2.2.2.1, rfl⟩
theorem d_X5_faultAt_10 : zD m_X5_faultAt 10 (.aload_n 0) 1 11 := ⟨eg_X5_faultAt_0.2.2.2.2.2.2.1, rfl⟩
theorem d_X5_faultAt_11 : zD m_X5_faultAt 11 (.getfield 25) 3 14 := ⟨eg_X5_faultAt_0.2.2.2.2.2.2.2, rfl⟩
theorem d_X5_faultAt_14 : zDj m_X5_faultAt 14 (.if_icmp .eq) 17 19 := ⟨5, eg_X5_faultAt_8.1, rfl, by decide⟩
theorem d_X5_faultAt_17 : zD m_X5_faultAt 17 (.iconst 3) 1 18 := ⟨eg_X5_faultAt_8.2.1, rfl⟩
theorem d_X5_faultAt_18 : decode (zcc m_X5_faultAt) 18 = .ok (.ireturn, 1) := eg_X5_faultAt_8.2.2.1
theorem d_X5_faultAt_19 : zD m_X5_faultAt 19 (.iload_n 2) 1 20 := ⟨eg_X5_faultAt_8.2.2.2.1, rfl⟩
theorem d_X5_faultAt_20 : zDj m_X5_faultAt 20 (.ifCond .lt) 23 31 := ⟨11, eg_X5_faultAt_8.2.2.2.2.1, rfl, by decide⟩
theorem d_X5_faultAt_23 : zD m_X5_faultAt 23 (.iload_n 2) 1 24 := ⟨eg_X5_faultAt_8.2.2.2.2.2.1, rfl⟩
theorem d_X5_faultAt_24 : zD m_X5_faultAt 24 (.aload_n 0) 1 25 := ⟨eg_X5_faultAt_8.2.2.2.2.2.2.1, rfl⟩
theorem d_X5_faultAt_25 : zD m_X5_faultAt 25 (.getfield 15) 3 28 := ⟨eg_X5_faultAt_8.2.2.2.2.2.2.2, rfl⟩
theorem d_X5_faultAt_28 : zDj m_X5_faultAt 28 (.if_icmp .lt) 31 35 := ⟨7, eg_X5_faultAt_16.1, rfl, by decide⟩
theorem d_X5_faultAt_31 : zD m_X5_faultAt 31 (.iconst 2) 1 32 := ⟨eg_X5_faultAt_16.2.1, rfl⟩
theorem d_X5_faultAt_32 : zDj m_X5_faultAt 32 (.goto) 35 36 := ⟨4, eg_X5_faultAt_16.2.2.1, rfl, by decide⟩
theorem d_X5_faultAt_35 : zD m_X5_faultAt 35 (.iconst 0) 1 36 := ⟨eg_X5_faultAt_16.2.2.2.1, rfl⟩
theorem d_X5_faultAt_36 : decode (zcc m_X5_faultAt) 36 = .ok (.ireturn, 1) := eg_X5_faultAt_16.2.2.2.2
set_option maxRecDepth 20000 in
theorem eg_X5_pairFaultAt_0 : decode (zcc m_X5_pairFaultAt) 0 = .ok (.aload_n 0, 1) ∧ decode (zcc m_X5_pairFaultAt) 1 = .ok (.iload_n 1, 1) ∧ decode (zcc m_X5_pairFaultAt) 2 = .ok (.iload_n 2, 1) ∧ decode (zcc m_X5_pairFaultAt) 3 = .ok (.invokevirtual 28, 3) ∧ decode (zcc m_X5_pairFaultAt) 6 = .ok (.istore_n 3, 1) ∧ decode (zcc m_X5_pairFaultAt) 7 = .ok (.iload_n 3, 1) ∧ decode (zcc m_X5_pairFaultAt) 8 = .ok (.ifCond .eq (7), 3) ∧ decode (zcc m_X5_pairFaultAt) 11 = .ok (.iload_n 3, 1) := by decide +kernel
set_option maxRecDepth 20000 in
theorem eg_X5_pairFaultAt_8 : decode (zcc m_X5_pairFaultAt) 12 = .ok (.goto (11), 3) ∧ decode (zcc m_X5_pairFaultAt) 15 = .ok (.aload_n 0, 1) ∧ decode (zcc m_X5_pairFaultAt) 16 = .ok (.iload_n 1, 1) ∧ decode (zcc m_X5_pairFaultAt) 17 = .ok (.iload_n 2, 1) ∧ decode (zcc m_X5_pairFaultAt) 18 = .ok (.iconst 1, 1) ∧ decode (zcc m_X5_pairFaultAt) 19 = .ok (.iadd, 1) ∧ decode (zcc m_X5_pairFaultAt) 20 = .ok (.invokevirtual 28, 3) ∧ decode (zcc m_X5_pairFaultAt) 23 = .ok (.ireturn, 1) := by decide +kernel
theorem d_X5_pairFaultAt_0 : zD m_X5_pairFaultAt 0 (.aload_n 0) 1 1 := ⟨eg_X5_pairFaultAt_0.1, rfl⟩
theorem d_X5_pairFaultAt_1 : zD m_X5_pairFaultAt 1 (.iload_n 1) 1 2 := ⟨eg_X5_pairFaultAt_0.2.1, rfl⟩
theorem d_X5_pairFaultAt_2 : zD m_X5_pairFaultAt 2 (.iload_n 2) 1 3 := ⟨eg_X5_pairFaultAt_0.2.2.1, rfl⟩
theorem d_X5_pairFaultAt_3 : zD m_X5_pairFaultAt 3 (.invokevirtual 28) 3 6 := ⟨eg_X5_pairFaultAt_0.2.2.2.1, rfl⟩
theorem d_X5_pairFaultAt_6 : zD m_X5_pairFaultAt 6 (.istore_n 3) 1 7 := ⟨eg_X5_pairFaultAt_0.2.2.2.2.1, rfl⟩
theorem d_X5_pairFaultAt_7 : zD m_X5_pairFaultAt 7 (.iload_n 3) 1 8 := ⟨eg_X5_pairFaultAt_0.2.2.2.2.2.1, rfl⟩
theorem d_X5_pairFaultAt_8 : zDj m_X5_pairFaultAt 8 (.ifCond .eq) 11 15 := ⟨7, eg_X5_pairFaultAt_0.2.2.2.2.2.2.1, rfl, by decide⟩
theorem d_X5_pairFaultAt_11 : zD m_X5_pairFaultAt 11 (.iload_n 3) 1 12 := ⟨eg_X5_pairFaultAt_0.2.2.2.2.2.2.2, rfl⟩
theorem d_X5_pairFaultAt_12 : zDj m_X5_pairFaultAt 12 (.goto) 15 23 := ⟨11, eg_X5_pairFaultAt_8.1, rfl, by decide⟩
theorem d_X5_pairFaultAt_15 : zD m_X5_pairFaultAt 15 (.aload_n 0) 1 16 := ⟨eg_X5_pairFaultAt_8.2.1, rfl⟩
theorem d_X5_pairFaultAt_16 : zD m_X5_pairFaultAt 16 (.iload_n 1) 1 17 := ⟨eg_X5_pairFaultAt_8.2.2.1, rfl⟩
theorem d_X5_pairFaultAt_17 : zD m_X5_pairFaultAt 17 (.iload_n 2) 1 18 := ⟨eg_X5_pairFaultAt_8.2.2.2.1, rfl⟩
theorem d_X5_pairFaultAt_18 : zD m_X5_pairFaultAt 18 (.iconst 1) 1 19 := ⟨eg_X5_pairFaultAt_8.2.2.2.2.1, rfl⟩
theorem d_X5_pairFaultAt_19 : zD m_X5_pairFaultAt 19 (.iadd) 1 20 := ⟨eg_X5_pairFaultAt_8.2.2.2.2.2.1, rfl⟩
theorem d_X5_pairFaultAt_20 : zD m_X5_pairFaultAt 20 (.invokevirtual 28) 3 23 := ⟨eg_X5_pairFaultAt_8.2.2.2.2.2.2.1, rfl⟩
theorem d_X5_pairFaultAt_23 : decode (zcc m_X5_pairFaultAt) 23 = .ok (.ireturn, 1) := eg_X5_pairFaultAt_8.2.2.2.2.2.2.2
set_option maxRecDepth 20000 in
theorem eg_X5_put_0 : decode (zcc m_X5_put) 0 = .ok (.aload_n 0, 1) ∧ decode (zcc m_X5_put) 1 = .ok (.getfield 9, 3) ∧ decode (zcc m_X5_put) 4 = .ok (.iload_n 1, 1) ∧ decode (zcc m_X5_put) 5 = .ok (.aload_n 0, 1) ∧ decode (zcc m_X5_put) 6 = .ok (.getfield 25, 3) ∧ decode (zcc m_X5_put) 9 = .ok (.ifCond .ne (8), 3) ∧ decode (zcc m_X5_put) 12 = .ok (.iload_n 2, 1) ∧ decode (zcc m_X5_put) 13 = .ok (.i2b, 1) := by decide +kernel
set_option maxRecDepth 20000 in
theorem eg_X5_put_8 : decode (zcc m_X5_put) 14 = .ok (.goto (17), 3) ∧ decode (zcc m_X5_put) 17 = .ok (.aload_n 0, 1) ∧ decode (zcc m_X5_put) 18 = .ok (.getfield 25, 3) ∧ decode (zcc m_X5_put) 21 = .ok (.iconst 1, 1) ∧ decode (zcc m_X5_put) 22 = .ok (.if_icmp .ne (8), 3) ∧ decode (zcc m_X5_put) 25 = .ok (.iload_n 2, 1) ∧ decode (zcc m_X5_put) 26 = .ok (.i2s, 1) ∧ decode (zcc m_X5_put) 27 = .ok (.goto (4), 3) := by decide +kernel
set_option maxRecDepth 20000 in
theorem eg_X5_put_16 : decode (zcc m_X5_put) 30 = .ok (.iload_n 2, 1) ∧ decode (zcc m_X5_put) 31 = .ok (.iastore, 1) ∧ decode (zcc m_X5_put) 32 = .ok (.return_, 1) := by decide +kernel
theorem d_X5_put_0 : zD m_X5_put 0 (.aload_n 0) 1 1 := ⟨eg_X5_put_0.1, rfl⟩
theorem d_X5_put_1 : zD m_X5_put 1 (.getfield 9) 3 4 := ⟨eg_X5_put_0.2.1, rfl⟩
theorem d_X5_put_4 : zD m_X5_put 4 (.iload_n 1) 1 5 := ⟨eg_X5_put_0.2.2.1, rfl⟩
theorem d_X5_put_5 : zD m_X5_put 5 (.aload_n 0) 1 6 := ⟨eg_X5_put_0.2.2.2.1, rfl⟩
theorem d_X5_put_6 : zD m_X5_put 6 (.getfield 25) 3 9 := ⟨eg_X5_put_0.2.2.2.2.1, rfl⟩
theorem d_X5_put_9 : zDj m_X5_put 9 (.ifCond .ne) 12 17 := ⟨8, eg_X5_put_0.2.2.2.2.2.1, rfl, by decide⟩
theorem d_X5_put_12 : zD m_X5_put 12 (.iload_n 2) 1 13 := ⟨eg_X5_put_0.2.2.2.2.2.2.1, rfl⟩
theorem d_X5_put_13 : zD m_X5_put 13 (.i2b) 1 14 := ⟨eg_X5_put_0.2.2.2.2.2.2.2, rfl⟩
theorem d_X5_put_14 : zDj m_X5_put 14 (.goto) 17 31 := ⟨17, eg_X5_put_8.1, rfl, by decide⟩
theorem d_X5_put_17 : zD m_X5_put 17 (.aload_n 0) 1 18 := ⟨eg_X5_put_8.2.1, rfl⟩
theorem d_X5_put_18 : zD m_X5_put 18 (.getfield 25) 3 21 := ⟨eg_X5_put_8.2.2.1, rfl⟩
theorem d_X5_put_21 : zD m_X5_put 21 (.iconst 1) 1 22 := ⟨eg_X5_put_8.2.2.2.1, rfl⟩
theorem d_X5_put_22 : zDj m_X5_put 22 (.if_icmp .ne) 25 30 := ⟨8, eg_X5_put_8.2.2.2.2.1, rfl, by decide⟩
theorem d_X5_put_25 : zD m_X5_put 25 (.iload_n 2) 1 26 := ⟨eg_X5_put_8.2.2.2.2.2.1, rfl⟩
theorem d_X5_put_26 : zD m_X5_put 26 (.i2s) 1 27 := ⟨eg_X5_put_8.2.2.2.2.2.2.1, rfl⟩
theorem d_X5_put_27 : zDj m_X5_put 27 (.goto) 30 31 := ⟨4, eg_X5_put_8.2.2.2.2.2.2.2, rfl, by decide⟩
theorem d_X5_put_30 : zD m_X5_put 30 (.iload_n 2) 1 31 := ⟨eg_X5_put_16.1, rfl⟩
theorem d_X5_put_31 : zD m_X5_put 31 (.iastore) 1 32 := ⟨eg_X5_put_16.2.1, rfl⟩
theorem d_X5_put_32 : decode (zcc m_X5_put) 32 = .ok (.return_, 1) := eg_X5_put_16.2.2
