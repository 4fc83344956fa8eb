def pl0 (I : zI) (p : Nat) : zI := zi (va_up (va_up (va_up I (p + 1) (rules0 (I (p + 1)))) (p + 2) (zfill (I (p + 2)) 48 0)) (p + 3) (zfill (I (p + 3)) 48 0)) p 4 0
theorem zZ0.p {I : zI} {L : zL} {R : zR} {n p : Nat} (h : zZ0 I L R n) (hk : p + 3 < n) : zZ0 (pl0 I p) L R n := zZ0.i (zZ0.v (zZ0.v (zZ0.v h (by omega)) (by omega)) (by omega)) (by omega)
set_option maxRecDepth 100000 in
set_option maxHeartbeats 4000000 in
theorem ct_X0_init_16 {E : zE} {I : zI} {L : zL} {R : zR} (hz : zZ0 I L R 17) : zCt E m_X0_init (zShF.take 17) [.ref 16] I L R (fun r Sh1 I1 L1 R1 => r = none ∧ Sh1 = zShF.take 21 ∧ I1 = I ∧ L1 = L ∧ R1 = zr (zr (zr (zr (R) 16 0 (some 17)) 16 1 (some 18)) 16 2 (some 19)) 16 3 (some 20)) := by
  refine z_met (by decide) [some (.ref 16)] rfl rfl (Nat.le_of_ble_eq_true rfl) (fun X => ?_)
  refine z_aload_n d_X0_init_0 rfl ?_
  refine z_objInit d_X0_init_1 q_X0_init_3 (in_g (up_1 (List.mem_of_getElem? (i := 23) rfl)) rfl) (in_g (up_1 (List.mem_of_getElem? (i := 24) rfl)) rfl) (by decide) (Nat.le_of_ble_eq_true rfl) ?_
  refine z_aload_n d_X0_init_4 rfl ?_
  refine z_bipush d_X0_init_5 kb_48 ?_
  refine z_newI0 (N := 48) (n := 17) d_X0_init_7 (by decide) (by decide) (by decide) rfl (by repeat (first | exact hz.up (by decide) | refine zZ0.p ?_ (by decide) | refine zZ0.r ?_ (by decide) | refine zZ0.i ?_ (by decide) | refine zZ0.v ?_ (by decide))) ⟨Nat.le_of_ble_eq_true rfl, Nat.le_of_ble_eq_true rfl⟩ ?_
  refine z_putFR d_X0_init_9 f_X0_9 p_X0_0 rfl (fun C T N h => by cases h; rfl) (fun _ => rfl) (fun _ => rfl) (by first | rfl | assumption) (by omega) ?_
  refine z_aload_n d_X0_init_12 rfl ?_
  refine z_bipush d_X0_init_13 kb_48 ?_
  refine z_newI0 (N := 48) (n := 18) d_X0_init_15 (by decide) (by decide) (by decide) rfl (by repeat (first | exact hz.up (by decide) | refine zZ0.p ?_ (by decide) | refine zZ0.r ?_ (by decide) | refine zZ0.i ?_ (by decide) | refine zZ0.v ?_ (by decide))) ⟨Nat.le_of_ble_eq_true rfl, Nat.le_of_ble_eq_true rfl⟩ ?_
  refine z_putFR d_X0_init_17 f_X0_15 p_X0_1 rfl (fun C T N h => by cases h; rfl) (fun _ => rfl) (fun _ => rfl) (by first | rfl | assumption) (by omega) ?_
  refine z_aload_n d_X0_init_20 rfl ?_
  refine z_bipush d_X0_init_21 kb_48 ?_
  refine z_newI0 (N := 48) (n := 19) d_X0_init_23 (by decide) (by decide) (by decide) rfl (by repeat (first | exact hz.up (by decide) | refine zZ0.p ?_ (by decide) | refine zZ0.r ?_ (by decide) | refine zZ0.i ?_ (by decide) | refine zZ0.v ?_ (by decide))) ⟨Nat.le_of_ble_eq_true rfl, Nat.le_of_ble_eq_true rfl⟩ ?_
  refine z_putFR d_X0_init_25 f_X0_18 p_X0_2 rfl (fun C T N h => by cases h; rfl) (fun _ => rfl) (fun _ => rfl) (by first | rfl | assumption) (by omega) ?_
  refine z_aload_n d_X0_init_28 rfl ?_
  refine z_bipush d_X0_init_29 kb_8 ?_
  refine z_newI0 (N := 8) (n := 20) d_X0_init_31 (by decide) (by decide) (by decide) rfl (by repeat (first | exact hz.up (by decide) | refine zZ0.p ?_ (by decide) | refine zZ0.r ?_ (by decide) | refine zZ0.i ?_ (by decide) | refine zZ0.v ?_ (by decide))) ⟨Nat.le_of_ble_eq_true rfl, Nat.le_of_ble_eq_true rfl⟩ ?_
  refine z_putFR d_X0_init_33 f_X0_21 p_X0_3 rfl (fun C T N h => by cases h; rfl) (fun _ => rfl) (fun _ => rfl) (by first | rfl | assumption) (by omega) ?_
  exact z_return d_X0_init_36 rfl ⟨rfl, rfl, rfl, rfl, rfl⟩
set_option maxRecDepth 100000 in
set_option maxHeartbeats 4000000 in
theorem ct_X0_init_24 {E : zE} {I : zI} {L : zL} {R : zR} (hz : zZ0 I L R 25) : zCt E m_X0_init (zShF.take 25) [.ref 24] I L R (fun r Sh1 I1 L1 R1 => r = none ∧ Sh1 = zShF.take 29 ∧ I1 = I ∧ L1 = L ∧ R1 = zr (zr (zr (zr (R) 24 0 (some 25)) 24 1 (some 26)) 24 2 (some 27)) 24 3 (some 28)) := by
  refine z_met (by decide) [some (.ref 24)] rfl rfl (Nat.le_of_ble_eq_true rfl) (fun X => ?_)
  refine z_aload_n d_X0_init_0 rfl ?_
  refine z_objInit d_X0_init_1 q_X0_init_3 (in_g (up_1 (List.mem_of_getElem? (i := 23) rfl)) rfl) (in_g (up_1 (List.mem_of_getElem? (i := 24) rfl)) rfl) (by decide) (Nat.le_of_ble_eq_true rfl) ?_
  refine z_aload_n d_X0_init_4 rfl ?_
  refine z_bipush d_X0_init_5 kb_48 ?_
  refine z_newI0 (N := 48) (n := 25) d_X0_init_7 (by decide) (by decide) (by decide) rfl (by repeat (first | exact hz.up (by decide) | refine zZ0.p ?_ (by decide) | refine zZ0.r ?_ (by decide) | refine zZ0.i ?_ (by decide) | refine zZ0.v ?_ (by decide))) ⟨Nat.le_of_ble_eq_true rfl, Nat.le_of_ble_eq_true rfl⟩ ?_
  refine z_putFR d_X0_init_9 f_X0_9 p_X0_0 rfl (fun C T N h => by cases h; rfl) (fun _ => rfl) (fun _ => rfl) (by first | rfl | assumption) (by omega) ?_
  refine z_aload_n d_X0_init_12 rfl ?_
  refine z_bipush d_X0_init_13 kb_48 ?_
  refine z_newI0 (N := 48) (n := 26) d_X0_init_15 (by decide) (by decide) (by decide) rfl (by repeat (first | exact hz.up (by decide) | refine zZ0.p ?_ (by decide) | refine zZ0.r ?_ (by decide) | refine zZ0.i ?_ (by decide) | refine zZ0.v ?_ (by decide))) ⟨Nat.le_of_ble_eq_true rfl, Nat.le_of_ble_eq_true rfl⟩ ?_
  refine z_putFR d_X0_init_17 f_X0_15 p_X0_1 rfl (fun C T N h => by cases h; rfl) (fun _ => rfl) (fun _ => rfl) (by first | rfl | assumption) (by omega) ?_
  refine z_aload_n d_X0_init_20 rfl ?_
  refine z_bipush d_X0_init_21 kb_48 ?_
  refine z_newI0 (N := 48) (n := 27) d_X0_init_23 (by decide) (by decide) (by decide) rfl (by repeat (first | exact hz.up (by decide) | refine zZ0.p ?_ (by decide) | refine zZ0.r ?_ (by decide) | refine zZ0.i ?_ (by decide) | refine zZ0.v ?_ (by decide))) ⟨Nat.le_of_ble_eq_true rfl, Nat.le_of_ble_eq_true rfl⟩ ?_
  refine z_putFR d_X0_init_25 f_X0_18 p_X0_2 rfl (fun C T N h => by cases h; rfl) (fun _ => rfl) (fun _ => rfl) (by first | rfl | assumption) (by omega) ?_
  refine z_aload_n d_X0_init_28 rfl ?_
  refine z_bipush d_X0_init_29 kb_8 ?_
  refine z_newI0 (N := 8) (n := 28) d_X0_init_31 (by decide) (by decide) (by decide) rfl (by repeat (first | exact hz.up (by decide) | refine zZ0.p ?_ (by decide) | refine zZ0.r ?_ (by decide) | refine zZ0.i ?_ (by decide) | refine zZ0.v ?_ (by decide))) ⟨Nat.le_of_ble_eq_true rfl, Nat.le_of_ble_eq_true rfl⟩ ?_
  refine z_putFR d_X0_init_33 f_X0_21 p_X0_3 rfl (fun C T N h => by cases h; rfl) (fun _ => rfl) (fun _ => rfl) (by first | rfl | assumption) (by omega) ?_
  exact z_return d_X0_init_36 rfl ⟨rfl, rfl, rfl, rfl, rfl⟩
set_option maxRecDepth 100000 in
set_option maxHeartbeats 4000000 in
theorem ct_X0_init_31 {E : zE} {I : zI} {L : zL} {R : zR} (hz : zZ0 I L R 32) : zCt E m_X0_init (zShF.take 32) [.ref 31] I L R (fun r Sh1 I1 L1 R1 => r = none ∧ Sh1 = zShF.take 36 ∧ I1 = I ∧ L1 = L ∧ R1 = zr (zr (zr (zr (R) 31 0 (some 32)) 31 1 (some 33)) 31 2 (some 34)) 31 3 (some 35)) := by
  refine z_met (by decide) [some (.ref 31)] rfl rfl (Nat.le_of_ble_eq_true rfl) (fun X => ?_)
  refine z_aload_n d_X0_init_0 rfl ?_
  refine z_objInit d_X0_init_1 q_X0_init_3 (in_g (up_1 (List.mem_of_getElem? (i := 23) rfl)) rfl) (in_g (up_1 (List.mem_of_getElem? (i := 24) rfl)) rfl) (by decide) (Nat.le_of_ble_eq_true rfl) ?_
  refine z_aload_n d_X0_init_4 rfl ?_
  refine z_bipush d_X0_init_5 kb_48 ?_
  refine z_newI0 (N := 48) (n := 32) d_X0_init_7 (by decide) (by decide) (by decide) rfl (by repeat (first | exact hz.up (by decide) | refine zZ0.p ?_ (by decide) | refine zZ0.r ?_ (by decide) | refine zZ0.i ?_ (by decide) | refine zZ0.v ?_ (by decide))) ⟨Nat.le_of_ble_eq_true rfl, Nat.le_of_ble_eq_true rfl⟩ ?_
  refine z_putFR d_X0_init_9 f_X0_9 p_X0_0 rfl (fun C T N h => by cases h; rfl) (fun _ => rfl) (fun _ => rfl) (by first | rfl | assumption) (by omega) ?_
  refine z_aload_n d_X0_init_12 rfl ?_
  refine z_bipush d_X0_init_13 kb_48 ?_
  refine z_newI0 (N := 48) (n := 33) d_X0_init_15 (by decide) (by decide) (by decide) rfl (by repeat (first | exact hz.up (by decide) | refine zZ0.p ?_ (by decide) | refine zZ0.r ?_ (by decide) | refine zZ0.i ?_ (by decide) | refine zZ0.v ?_ (by decide))) ⟨Nat.le_of_ble_eq_true rfl, Nat.le_of_ble_eq_true rfl⟩ ?_
  refine z_putFR d_X0_init_17 f_X0_15 p_X0_1 rfl (fun C T N h => by cases h; rfl) (fun _ => rfl) (fun _ => rfl) (by first | rfl | assumption) (by omega) ?_
  refine z_aload_n d_X0_init_20 rfl ?_
  refine z_bipush d_X0_init_21 kb_48 ?_
  refine z_newI0 (N := 48) (n := 34) d_X0_init_23 (by decide) (by decide) (by decide) rfl (by repeat (first | exact hz.up (by decide) | refine zZ0.p ?_ (by decide) | refine zZ0.r ?_ (by decide) | refine zZ0.i ?_ (by decide) | refine zZ0.v ?_ (by decide))) ⟨Nat.le_of_ble_eq_true rfl, Nat.le_of_ble_eq_true rfl⟩ ?_
  refine z_putFR d_X0_init_25 f_X0_18 p_X0_2 rfl (fun C T N h => by cases h; rfl) (fun _ => rfl) (fun _ => rfl) (by first | rfl | assumption) (by omega) ?_
  refine z_aload_n d_X0_init_28 rfl ?_
  refine z_bipush d_X0_init_29 kb_8 ?_
  refine z_newI0 (N := 8) (n := 35) d_X0_init_31 (by decide) (by decide) (by decide) rfl (by repeat (first | exact hz.up (by decide) | refine zZ0.p ?_ (by decide) | refine zZ0.r ?_ (by decide) | refine zZ0.i ?_ (by decide) | refine zZ0.v ?_ (by decide))) ⟨Nat.le_of_ble_eq_true rfl, Nat.le_of_ble_eq_true rfl⟩ ?_
  refine z_putFR d_X0_init_33 f_X0_21 p_X0_3 rfl (fun C T N h => by cases h; rfl) (fun _ => rfl) (fun _ => rfl) (by first | rfl | assumption) (by omega) ?_
  exact z_return d_X0_init_36 rfl ⟨rfl, rfl, rfl, rfl, rfl⟩
set_option maxRecDepth 100000 in
set_option maxHeartbeats 4000000 in
theorem ct_X0_init_46 {E : zE} {I : zI} {L : zL} {R : zR} (hz : zZ0 I L R 47) : zCt E m_X0_init (zShF.take 47) [.ref 46] I L R (fun r Sh1 I1 L1 R1 => r = none ∧ Sh1 = zShF.take 51 ∧ I1 = I ∧ L1 = L ∧ R1 = zr (zr (zr (zr (R) 46 0 (some 47)) 46 1 (some 48)) 46 2 (some 49)) 46 3 (some 50)) := by
  refine z_met (by decide) [some (.ref 46)] rfl rfl (Nat.le_of_ble_eq_true rfl) (fun X => ?_)
  refine z_aload_n d_X0_init_0 rfl ?_
  refine z_objInit d_X0_init_1 q_X0_init_3 (in_g (up_1 (List.mem_of_getElem? (i := 23) rfl)) rfl) (in_g (up_1 (List.mem_of_getElem? (i := 24) rfl)) rfl) (by decide) (Nat.le_of_ble_eq_true rfl) ?_
  refine z_aload_n d_X0_init_4 rfl ?_
  refine z_bipush d_X0_init_5 kb_48 ?_
  refine z_newI0 (N := 48) (n := 47) d_X0_init_7 (by decide) (by decide) (by decide) rfl (by repeat (first | exact hz.up (by decide) | refine zZ0.p ?_ (by decide) | refine zZ0.r ?_ (by decide) | refine zZ0.i ?_ (by decide) | refine zZ0.v ?_ (by decide))) ⟨Nat.le_of_ble_eq_true rfl, Nat.le_of_ble_eq_true rfl⟩ ?_
  refine z_putFR d_X0_init_9 f_X0_9 p_X0_0 rfl (fun C T N h => by cases h; rfl) (fun _ => rfl) (fun _ => rfl) (by first | rfl | assumption) (by omega) ?_
  refine z_aload_n d_X0_init_12 rfl ?_
  refine z_bipush d_X0_init_13 kb_48 ?_
  refine z_newI0 (N := 48) (n := 48) d_X0_init_15 (by decide) (by decide) (by decide) rfl (by repeat (first | exact hz.up (by decide) | refine zZ0.p ?_ (by decide) | refine zZ0.r ?_ (by decide) | refine zZ0.i ?_ (by decide) | refine zZ0.v ?_ (by decide))) ⟨Nat.le_of_ble_eq_true rfl, Nat.le_of_ble_eq_true rfl⟩ ?_
  refine z_putFR d_X0_init_17 f_X0_15 p_X0_1 rfl (fun C T N h => by cases h; rfl) (fun _ => rfl) (fun _ => rfl) (by first | rfl | assumption) (by omega) ?_
  refine z_aload_n d_X0_init_20 rfl ?_
  refine z_bipush d_X0_init_21 kb_48 ?_
  refine z_newI0 (N := 48) (n := 49) d_X0_init_23 (by decide) (by decide) (by decide) rfl (by repeat (first | exact hz.up (by decide) | refine zZ0.p ?_ (by decide) | refine zZ0.r ?_ (by decide) | refine zZ0.i ?_ (by decide) | refine zZ0.v ?_ (by decide))) ⟨Nat.le_of_ble_eq_true rfl, Nat.le_of_ble_eq_true rfl⟩ ?_
  refine z_putFR d_X0_init_25 f_X0_18 p_X0_2 rfl (fun C T N h => by cases h; rfl) (fun _ => rfl) (fun _ => rfl) (by first | rfl | assumption) (by omega) ?_
  refine z_aload_n d_X0_init_28 rfl ?_
  refine z_bipush d_X0_init_29 kb_8 ?_
  refine z_newI0 (N := 8) (n := 50) d_X0_init_31 (by decide) (by decide) (by decide) rfl (by repeat (first | exact hz.up (by decide) | refine zZ0.p ?_ (by decide) | refine zZ0.r ?_ (by decide) | refine zZ0.i ?_ (by decide) | refine zZ0.v ?_ (by decide))) ⟨Nat.le_of_ble_eq_true rfl, Nat.le_of_ble_eq_true rfl⟩ ?_
  refine z_putFR d_X0_init_33 f_X0_21 p_X0_3 rfl (fun C T N h => by cases h; rfl) (fun _ => rfl) (fun _ => rfl) (by first | rfl | assumption) (by omega) ?_
  exact z_return d_X0_init_36 rfl ⟨rfl, rfl, rfl, rfl, rfl⟩
set_option maxRecDepth 100000 in
set_option maxHeartbeats 4000000 in
theorem ct_X0_init_51 {E : zE} {I : zI} {L : zL} {R : zR} (hz : zZ0 I L R 52) : zCt E m_X0_init (zShF.take 52) [.ref 51] I L R (fun r Sh1 I1 L1 R1 => r = none ∧ Sh1 = zShF.take 56 ∧ I1 = I ∧ L1 = L ∧ R1 = zr (zr (zr (zr (R) 51 0 (some 52)) 51 1 (some 53)) 51 2 (some 54)) 51 3 (some 55)) := by
  refine z_met (by decide) [some (.ref 51)] rfl rfl (Nat.le_of_ble_eq_true rfl) (fun X => ?_)
  refine z_aload_n d_X0_init_0 rfl ?_
  refine z_objInit d_X0_init_1 q_X0_init_3 (in_g (up_1 (List.mem_of_getElem? (i := 23) rfl)) rfl) (in_g (up_1 (List.mem_of_getElem? (i := 24) rfl)) rfl) (by decide) (Nat.le_of_ble_eq_true rfl) ?_
  refine z_aload_n d_X0_init_4 rfl ?_
  refine z_bipush d_X0_init_5 kb_48 ?_
  refine z_newI0 (N := 48) (n := 52) d_X0_init_7 (by decide) (by decide) (by decide) rfl (by repeat (first | exact hz.up (by decide) | refine zZ0.p ?_ (by decide) | refine zZ0.r ?_ (by decide) | refine zZ0.i ?_ (by decide) | refine zZ0.v ?_ (by decide))) ⟨Nat.le_of_ble_eq_true rfl, Nat.le_of_ble_eq_true rfl⟩ ?_
  refine z_putFR d_X0_init_9 f_X0_9 p_X0_0 rfl (fun C T N h => by cases h; rfl) (fun _ => rfl) (fun _ => rfl) (by first | rfl | assumption) (by omega) ?_
  refine z_aload_n d_X0_init_12 rfl ?_
  refine z_bipush d_X0_init_13 kb_48 ?_
  refine z_newI0 (N := 48) (n := 53) d_X0_init_15 (by decide) (by decide) (by decide) rfl (by repeat (first | exact hz.up (by decide) | refine zZ0.p ?_ (by decide) | refine zZ0.r ?_ (by decide) | refine zZ0.i ?_ (by decide) | refine zZ0.v ?_ (by decide))) ⟨Nat.le_of_ble_eq_true rfl, Nat.le_of_ble_eq_true rfl⟩ ?_
  refine z_putFR d_X0_init_17 f_X0_15 p_X0_1 rfl (fun C T N h => by cases h; rfl) (fun _ => rfl) (fun _ => rfl) (by first | rfl | assumption) (by omega) ?_
  refine z_aload_n d_X0_init_20 rfl ?_
  refine z_bipush d_X0_init_21 kb_48 ?_
  refine z_newI0 (N := 48) (n := 54) d_X0_init_23 (by decide) (by decide) (by decide) rfl (by repeat (first | exact hz.up (by decide) | refine zZ0.p ?_ (by decide) | refine zZ0.r ?_ (by decide) | refine zZ0.i ?_ (by decide) | refine zZ0.v ?_ (by decide))) ⟨Nat.le_of_ble_eq_true rfl, Nat.le_of_ble_eq_true rfl⟩ ?_
  refine z_putFR d_X0_init_25 f_X0_18 p_X0_2 rfl (fun C T N h => by cases h; rfl) (fun _ => rfl) (fun _ => rfl) (by first | rfl | assumption) (by omega) ?_
  refine z_aload_n d_X0_init_28 rfl ?_
  refine z_bipush d_X0_init_29 kb_8 ?_
  refine z_newI0 (N := 8) (n := 55) d_X0_init_31 (by decide) (by decide) (by decide) rfl (by repeat (first | exact hz.up (by decide) | refine zZ0.p ?_ (by decide) | refine zZ0.r ?_ (by decide) | refine zZ0.i ?_ (by decide) | refine zZ0.v ?_ (by decide))) ⟨Nat.le_of_ble_eq_true rfl, Nat.le_of_ble_eq_true rfl⟩ ?_
  refine z_putFR d_X0_init_33 f_X0_21 p_X0_3 rfl (fun C T N h => by cases h; rfl) (fun _ => rfl) (fun _ => rfl) (by first | rfl | assumption) (by omega) ?_
  exact z_return d_X0_init_36 rfl ⟨rfl, rfl, rfl, rfl, rfl⟩
set_option maxRecDepth 100000 in
set_option maxHeartbeats 4000000 in
theorem ct_X6_init_1 {E : zE} {I : zI} {L : zL} {R : zR} (hz : zZ0 I L R 2) : zCt E m_X6_init (zShF.take 2) [.ref 1] I L R (fun r Sh1 I1 L1 R1 => r = none ∧ Sh1 = zShF.take 3 ∧ I1 = I ∧ L1 = L ∧ R1 = zr (R) 1 0 (some 2)) := by
  refine z_met (by decide) [some (.ref 1)] rfl rfl (Nat.le_of_ble_eq_true rfl) (fun X => ?_)
  refine z_aload_n d_X6_init_0 rfl ?_
  refine z_objInit d_X6_init_1 q_X6_init_3 (in_g (up_1 (List.mem_of_getElem? (i := 23) rfl)) rfl) (in_g (up_1 (List.mem_of_getElem? (i := 24) rfl)) rfl) (by decide) (Nat.le_of_ble_eq_true rfl) ?_
  refine z_aload_n d_X6_init_4 rfl ?_
  refine z_sipush d_X6_init_5 ks_400 ?_
  refine z_newB0 (N := 400) (n := 2) d_X6_init_8 (by decide) (by decide) (by decide) rfl (by repeat (first | exact hz.up (by decide) | refine zZ0.p ?_ (by decide) | refine zZ0.r ?_ (by decide) | refine zZ0.i ?_ (by decide) | refine zZ0.v ?_ (by decide))) ⟨Nat.le_of_ble_eq_true rfl, Nat.le_of_ble_eq_true rfl⟩ ?_
  refine z_putFR d_X6_init_10 f_X6_9 p_X6_0 rfl (fun C T N h => by cases h; rfl) (fun _ => rfl) (fun _ => rfl) (by first | rfl | assumption) (by omega) ?_
  exact z_return d_X6_init_13 rfl ⟨rfl, rfl, rfl, rfl, rfl⟩
set_option maxRecDepth 100000 in
set_option maxHeartbeats 4000000 in
theorem ct_X5_init_56 {E : zE} {I : zI} {L : zL} {R : zR} (hz : zZ0 I L R 57) : zCt E m_X5_init (zShF.take 57) [.ref 56] I L R (fun r Sh1 I1 L1 R1 => r = none ∧ Sh1 = zShF.take 58 ∧ I1 = zi I 56 2 (-1) ∧ L1 = L ∧ R1 = zr (R) 56 0 (some 57)) := by
  refine z_met (by decide) [some (.ref 56)] rfl rfl (Nat.le_of_ble_eq_true rfl) (fun X => ?_)
  refine z_aload_n d_X5_init_0 rfl ?_
  refine z_objInit d_X5_init_1 q_X5_init_3 (in_g (up_1 (List.mem_of_getElem? (i := 23) rfl)) rfl) (in_g (up_1 (List.mem_of_getElem? (i := 24) rfl)) rfl) (by decide) (Nat.le_of_ble_eq_true rfl) ?_
  refine z_aload_n d_X5_init_4 rfl ?_
  refine z_bipush d_X5_init_5 kb_40 ?_
  refine z_newI0 (N := 40) (n := 57) d_X5_init_7 (by decide) (by decide) (by decide) rfl (by repeat (first | exact hz.up (by decide) | refine zZ0.p ?_ (by decide) | refine zZ0.r ?_ (by decide) | refine zZ0.i ?_ (by decide) | refine zZ0.v ?_ (by decide))) ⟨Nat.le_of_ble_eq_true rfl, Nat.le_of_ble_eq_true rfl⟩ ?_
  refine z_putFR d_X5_init_9 f_X5_9 p_X5_0 rfl (fun C T N h => by cases h; rfl) (fun _ => rfl) (fun _ => rfl) (by first | rfl | assumption) (by omega) ?_
  refine z_aload_n d_X5_init_12 rfl ?_
  refine z_iconst d_X5_init_13 ki_m1 ?_
  refine z_putI d_X5_init_14 f_X5_15 p_X5_2 (by first | rfl | assumption) (by omega) ?_
  exact z_return d_X5_init_17 rfl ⟨rfl, rfl, rfl, rfl, rfl⟩
set_option maxRecDepth 100000 in
set_option maxHeartbeats 4000000 in
theorem ct_X5_init_58 {E : zE} {I : zI} {L : zL} {R : zR} (hz : zZ0 I L R 59) : zCt E m_X5_init (zShF.take 59) [.ref 58] I L R (fun r Sh1 I1 L1 R1 => r = none ∧ Sh1 = zShF.take 60 ∧ I1 = zi I 58 2 (-1) ∧ L1 = L ∧ R1 = zr (R) 58 0 (some 59)) := by
  refine z_met (by decide) [some (.ref 58)] rfl rfl (Nat.le_of_ble_eq_true rfl) (fun X => ?_)
  refine z_aload_n d_X5_init_0 rfl ?_
  refine z_objInit d_X5_init_1 q_X5_init_3 (in_g (up_1 (List.mem_of_getElem? (i := 23) rfl)) rfl) (in_g (up_1 (List.mem_of_getElem? (i := 24) rfl)) rfl) (by decide) (Nat.le_of_ble_eq_true rfl) ?_
  refine z_aload_n d_X5_init_4 rfl ?_
  refine z_bipush d_X5_init_5 kb_40 ?_
  refine z_newI0 (N := 40) (n := 59) d_X5_init_7 (by decide) (by decide) (by decide) rfl (by repeat (first | exact hz.up (by decide) | refine zZ0.p ?_ (by decide) | refine zZ0.r ?_ (by decide) | refine zZ0.i ?_ (by decide) | refine zZ0.v ?_ (by decide))) ⟨Nat.le_of_ble_eq_true rfl, Nat.le_of_ble_eq_true rfl⟩ ?_
  refine z_putFR d_X5_init_9 f_X5_9 p_X5_0 rfl (fun C T N h => by cases h; rfl) (fun _ => rfl) (fun _ => rfl) (by first | rfl | assumption) (by omega) ?_
  refine z_aload_n d_X5_init_12 rfl ?_
  refine z_iconst d_X5_init_13 ki_m1 ?_
  refine z_putI d_X5_init_14 f_X5_15 p_X5_2 (by first | rfl | assumption) (by omega) ?_
  exact z_return d_X5_init_17 rfl ⟨rfl, rfl, rfl, rfl, rfl⟩
set_option maxRecDepth 100000 in
set_option maxHeartbeats 4000000 in
theorem ct_X5_init_60 {E : zE} {I : zI} {L : zL} {R : zR} (hz : zZ0 I L R 61) : zCt E m_X5_init (zShF.take 61) [.ref 60] I L R (fun r Sh1 I1 L1 R1 => r = none ∧ Sh1 = zShF.take 62 ∧ I1 = zi I 60 2 (-1) ∧ L1 = L ∧ R1 = zr (R) 60 0 (some 61)) := by
  refine z_met (by decide) [some (.ref 60)] rfl rfl (Nat.le_of_ble_eq_true rfl) (fun X => ?_)
  refine z_aload_n d_X5_init_0 rfl ?_
  refine z_objInit d_X5_init_1 q_X5_init_3 (in_g (up_1 (List.mem_of_getElem? (i := 23) rfl)) rfl) (in_g (up_1 (List.mem_of_getElem? (i := 24) rfl)) rfl) (by decide) (Nat.le_of_ble_eq_true rfl) ?_
  refine z_aload_n d_X5_init_4 rfl ?_
  refine z_bipush d_X5_init_5 kb_40 ?_
  refine z_newI0 (N := 40) (n := 61) d_X5_init_7 (by decide) (by decide) (by decide) rfl (by repeat (first | exact hz.up (by decide) | refine zZ0.p ?_ (by decide) | refine zZ0.r ?_ (by decide) | refine zZ0.i ?_ (by decide) | refine zZ0.v ?_ (by decide))) ⟨Nat.le_of_ble_eq_true rfl, Nat.le_of_ble_eq_true rfl⟩ ?_
  refine z_putFR d_X5_init_9 f_X5_9 p_X5_0 rfl (fun C T N h => by cases h; rfl) (fun _ => rfl) (fun _ => rfl) (by first | rfl | assumption) (by omega) ?_
  refine z_aload_n d_X5_init_12 rfl ?_
  refine z_iconst d_X5_init_13 ki_m1 ?_
  refine z_putI d_X5_init_14 f_X5_15 p_X5_2 (by first | rfl | assumption) (by omega) ?_
  exact z_return d_X5_init_17 rfl ⟨rfl, rfl, rfl, rfl, rfl⟩
set_option maxRecDepth 100000 in
set_option maxHeartbeats 4000000 in
theorem ct_X5_init_62 {E : zE} {I : zI} {L : zL} {R : zR} (hz : zZ0 I L R 63) : zCt E m_X5_init (zShF.take 63) [.ref 62] I L R (fun r Sh1 I1 L1 R1 => r = none ∧ Sh1 = zShF.take 64 ∧ I1 = zi I 62 2 (-1) ∧ L1 = L ∧ R1 = zr (R) 62 0 (some 63)) := by
  refine z_met (by decide) [some (.ref 62)] rfl rfl (Nat.le_of_ble_eq_true rfl) (fun X => ?_)
  refine z_aload_n d_X5_init_0 rfl ?_
  refine z_objInit d_X5_init_1 q_X5_init_3 (in_g (up_1 (List.mem_of_getElem? (i := 23) rfl)) rfl) (in_g (up_1 (List.mem_of_getElem? (i := 24) rfl)) rfl) (by decide) (Nat.le_of_ble_eq_true rfl) ?_
  refine z_aload_n d_X5_init_4 rfl ?_
  refine z_bipush d_X5_init_5 kb_40 ?_
  refine z_newI0 (N := 40) (n := 63) d_X5_init_7 (by decide) (by decide) (by decide) rfl (by repeat (first | exact hz.up (by decide) | refine zZ0.p ?_ (by decide) | refine zZ0.r ?_ (by decide) | refine zZ0.i ?_ (by decide) | refine zZ0.v ?_ (by decide))) ⟨Nat.le_of_ble_eq_true rfl, Nat.le_of_ble_eq_true rfl⟩ ?_
  refine z_putFR d_X5_init_9 f_X5_9 p_X5_0 rfl (fun C T N h => by cases h; rfl) (fun _ => rfl) (fun _ => rfl) (by first | rfl | assumption) (by omega) ?_
  refine z_aload_n d_X5_init_12 rfl ?_
  refine z_iconst d_X5_init_13 ki_m1 ?_
  refine z_putI d_X5_init_14 f_X5_15 p_X5_2 (by first | rfl | assumption) (by omega) ?_
  exact z_return d_X5_init_17 rfl ⟨rfl, rfl, rfl, rfl, rfl⟩
set_option maxRecDepth 100000 in
set_option maxHeartbeats 4000000 in
theorem ct_X3_init_3 {E : zE} {I : zI} {L : zL} {R : zR} (hz : zZ0 I L R 4) : zCt E m_X3_init (zShF.take 4) [.ref 3] I L R (fun r Sh1 I1 L1 R1 => r = none ∧ Sh1 = zShF.take 8 ∧ I1 = pl0 I 3 ∧ L1 = L ∧ R1 = zr (zr (zr (zr (R) 3 0 (some 4)) 3 1 (some 5)) 3 2 (some 6)) 3 3 (some 7)) := by
  refine z_met (by decide) [some (.ref 3)] rfl rfl (Nat.le_of_ble_eq_true rfl) (fun X => ?_)
  refine z_aload_n d_X3_init_0 rfl ?_
  refine z_objInit d_X3_init_1 q_X3_init_3 (in_g (up_1 (List.mem_of_getElem? (i := 23) rfl)) rfl) (in_g (up_1 (List.mem_of_getElem? (i := 24) rfl)) rfl) (by decide) (Nat.le_of_ble_eq_true rfl) ?_
  refine z_aload_n d_X3_init_4 rfl ?_
  refine z_bipush d_X3_init_5 kb_7 ?_
  refine z_newI0 (N := 7) (n := 4) d_X3_init_7 (by decide) (by decide) (by decide) rfl (by repeat (first | exact hz.up (by decide) | refine zZ0.p ?_ (by decide) | refine zZ0.r ?_ (by decide) | refine zZ0.i ?_ (by decide) | refine zZ0.v ?_ (by decide))) ⟨Nat.le_of_ble_eq_true rfl, Nat.le_of_ble_eq_true rfl⟩ ?_
  refine z_putFR d_X3_init_9 f_X3_9 p_X3_0 rfl (fun C T N h => by cases h; rfl) (fun _ => rfl) (fun _ => rfl) (by first | rfl | assumption) (by omega) ?_
  refine z_aload_n d_X3_init_12 rfl ?_
  refine z_bipush d_X3_init_13 kb_48 ?_
  refine z_newI0 (N := 48) (n := 5) d_X3_init_15 (by decide) (by decide) (by decide) rfl (by repeat (first | exact hz.up (by decide) | refine zZ0.p ?_ (by decide) | refine zZ0.r ?_ (by decide) | refine zZ0.i ?_ (by decide) | refine zZ0.v ?_ (by decide))) ⟨Nat.le_of_ble_eq_true rfl, Nat.le_of_ble_eq_true rfl⟩ ?_
  refine z_putFR d_X3_init_17 f_X3_15 p_X3_1 rfl (fun C T N h => by cases h; rfl) (fun _ => rfl) (fun _ => rfl) (by first | rfl | assumption) (by omega) ?_
  refine z_aload_n d_X3_init_20 rfl ?_
  refine z_bipush d_X3_init_21 kb_48 ?_
  refine z_newI0 (N := 48) (n := 6) d_X3_init_23 (by decide) (by decide) (by decide) rfl (by repeat (first | exact hz.up (by decide) | refine zZ0.p ?_ (by decide) | refine zZ0.r ?_ (by decide) | refine zZ0.i ?_ (by decide) | refine zZ0.v ?_ (by decide))) ⟨Nat.le_of_ble_eq_true rfl, Nat.le_of_ble_eq_true rfl⟩ ?_
  refine z_putFR d_X3_init_25 f_X3_18 p_X3_2 rfl (fun C T N h => by cases h; rfl) (fun _ => rfl) (fun _ => rfl) (by first | rfl | assumption) (by omega) ?_
  refine z_aload_n d_X3_init_28 rfl ?_
  refine z_bipush d_X3_init_29 kb_12 ?_
  refine z_newI0 (N := 12) (n := 7) d_X3_init_31 (by decide) (by decide) (by decide) rfl (by repeat (first | exact hz.up (by decide) | refine zZ0.p ?_ (by decide) | refine zZ0.r ?_ (by decide) | refine zZ0.i ?_ (by decide) | refine zZ0.v ?_ (by decide))) ⟨Nat.le_of_ble_eq_true rfl, Nat.le_of_ble_eq_true rfl⟩ ?_
  refine z_putFR d_X3_init_33 f_X3_21 p_X3_3 rfl (fun C T N h => by cases h; rfl) (fun _ => rfl) (fun _ => rfl) (by first | rfl | assumption) (by omega) ?_
  refine z_aload_n d_X3_init_36 rfl ?_
  refine z_cVv d_X3_init_37 q_X3_init_24 (by first | rfl | assumption) (by omega) ⟨rfl, rfl⟩ (ct_X3_beAsAtFirst ⟨rfl, rfl, rfl, rfl, rfl, rfl, rfl, rfl, rfl, by decide⟩) rfl rfl rfl ⟨Nat.le_of_ble_eq_true rfl, Nat.le_of_ble_eq_true rfl⟩ ?_
  exact z_return d_X3_init_40 rfl ⟨rfl, rfl, rfl, rfl, rfl⟩
set_option maxRecDepth 100000 in
set_option maxHeartbeats 4000000 in
theorem ct_X3_init_9 {E : zE} {I : zI} {L : zL} {R : zR} (hz : zZ0 I L R 10) : zCt E m_X3_init (zShF.take 10) [.ref 9] I L R (fun r Sh1 I1 L1 R1 => r = none ∧ Sh1 = zShF.take 14 ∧ I1 = pl0 I 9 ∧ L1 = L ∧ R1 = zr (zr (zr (zr (R) 9 0 (some 10)) 9 1 (some 11)) 9 2 (some 12)) 9 3 (some 13)) := by
  refine z_met (by decide) [some (.ref 9)] rfl rfl (Nat.le_of_ble_eq_true rfl) (fun X => ?_)
  refine z_aload_n d_X3_init_0 rfl ?_
  refine z_objInit d_X3_init_1 q_X3_init_3 (in_g (up_1 (List.mem_of_getElem? (i := 23) rfl)) rfl) (in_g (up_1 (List.mem_of_getElem? (i := 24) rfl)) rfl) (by decide) (Nat.le_of_ble_eq_true rfl) ?_
  refine z_aload_n d_X3_init_4 rfl ?_
  refine z_bipush d_X3_init_5 kb_7 ?_
  refine z_newI0 (N := 7) (n := 10) d_X3_init_7 (by decide) (by decide) (by decide) rfl (by repeat (first | exact hz.up (by decide) | refine zZ0.p ?_ (by decide) | refine zZ0.r ?_ (by decide) | refine zZ0.i ?_ (by decide) | refine zZ0.v ?_ (by decide))) ⟨Nat.le_of_ble_eq_true rfl, Nat.le_of_ble_eq_true rfl⟩ ?_
  refine z_putFR d_X3_init_9 f_X3_9 p_X3_0 rfl (fun C T N h => by cases h; rfl) (fun _ => rfl) (fun _ => rfl) (by first | rfl | assumption) (by omega) ?_
  refine z_aload_n d_X3_init_12 rfl ?_
  refine z_bipush d_X3_init_13 kb_48 ?_
  refine z_newI0 (N := 48) (n := 11) d_X3_init_15 (by decide) (by decide) (by decide) rfl (by repeat (first | exact hz.up (by decide) | refine zZ0.p ?_ (by decide) | refine zZ0.r ?_ (by decide) | refine zZ0.i ?_ (by decide) | refine zZ0.v ?_ (by decide))) ⟨Nat.le_of_ble_eq_true rfl, Nat.le_of_ble_eq_true rfl⟩ ?_
  refine z_putFR d_X3_init_17 f_X3_15 p_X3_1 rfl (fun C T N h => by cases h; rfl) (fun _ => rfl) (fun _ => rfl) (by first | rfl | assumption) (by omega) ?_
  refine z_aload_n d_X3_init_20 rfl ?_
  refine z_bipush d_X3_init_21 kb_48 ?_
  refine z_newI0 (N := 48) (n := 12) d_X3_init_23 (by decide) (by decide) (by decide) rfl (by repeat (first | exact hz.up (by decide) | refine zZ0.p ?_ (by decide) | refine zZ0.r ?_ (by decide) | refine zZ0.i ?_ (by decide) | refine zZ0.v ?_ (by decide))) ⟨Nat.le_of_ble_eq_true rfl, Nat.le_of_ble_eq_true rfl⟩ ?_
  refine z_putFR d_X3_init_25 f_X3_18 p_X3_2 rfl (fun C T N h => by cases h; rfl) (fun _ => rfl) (fun _ => rfl) (by first | rfl | assumption) (by omega) ?_
  refine z_aload_n d_X3_init_28 rfl ?_
  refine z_bipush d_X3_init_29 kb_12 ?_
  refine z_newI0 (N := 12) (n := 13) d_X3_init_31 (by decide) (by decide) (by decide) rfl (by repeat (first | exact hz.up (by decide) | refine zZ0.p ?_ (by decide) | refine zZ0.r ?_ (by decide) | refine zZ0.i ?_ (by decide) | refine zZ0.v ?_ (by decide))) ⟨Nat.le_of_ble_eq_true rfl, Nat.le_of_ble_eq_true rfl⟩ ?_
  refine z_putFR d_X3_init_33 f_X3_21 p_X3_3 rfl (fun C T N h => by cases h; rfl) (fun _ => rfl) (fun _ => rfl) (by first | rfl | assumption) (by omega) ?_
  refine z_aload_n d_X3_init_36 rfl ?_
  refine z_cVv d_X3_init_37 q_X3_init_24 (by first | rfl | assumption) (by omega) ⟨rfl, rfl⟩ (ct_X3_beAsAtFirst ⟨rfl, rfl, rfl, rfl, rfl, rfl, rfl, rfl, rfl, by decide⟩) rfl rfl rfl ⟨Nat.le_of_ble_eq_true rfl, Nat.le_of_ble_eq_true rfl⟩ ?_
  exact z_return d_X3_init_40 rfl ⟨rfl, rfl, rfl, rfl, rfl⟩
set_option maxRecDepth 100000 in
set_option maxHeartbeats 4000000 in
theorem ct_X2_init_23 {E : zE} {I : zI} {L : zL} {R : zR} (hz : zZ0 I L R 24) : zCt E m_X2_init (zShF.take 24) [.ref 23] I L R (fun r Sh1 I1 L1 R1 => r = none ∧ Sh1 = zShF.take 30 ∧ I1 = I ∧ L1 = L ∧ R1 = zr (zr (zr (zr (zr (zr (R) 24 0 (some 25)) 24 1 (some 26)) 24 2 (some 27)) 24 3 (some 28)) 23 0 (some 24)) 23 1 (some 29)) := by
  refine z_met (by decide) [some (.ref 23)] rfl rfl (Nat.le_of_ble_eq_true rfl) (fun X => ?_)
  refine z_aload_n d_X2_init_0 rfl ?_
  refine z_objInit d_X2_init_1 q_X2_init_3 (in_g (up_1 (List.mem_of_getElem? (i := 23) rfl)) rfl) (in_g (up_1 (List.mem_of_getElem? (i := 24) rfl)) rfl) (by decide) (Nat.le_of_ble_eq_true rfl) ?_
  refine z_aload_n d_X2_init_4 rfl ?_
  refine z_new0 (n := 24) d_X2_init_5 nw_X2_init_9 rfl (by repeat (first | exact hz.up (by decide) | refine zZ0.p ?_ (by decide) | refine zZ0.r ?_ (by decide) | refine zZ0.i ?_ (by decide) | refine zZ0.v ?_ (by decide))) ⟨Nat.le_of_ble_eq_true rfl, Nat.le_of_ble_eq_true rfl⟩ ?_
  refine z_dup d_X2_init_8 rfl ?_
  refine z_callIN d_X2_init_9 q_X2_init_11 (ct_X0_init_24 (hz.up (by decide))) rfl rfl rfl ⟨Nat.le_of_ble_eq_true rfl, Nat.le_of_ble_eq_true rfl⟩ (fun r Sh1 I1 L1 R1 hq => ?_)
  obtain ⟨rfl, rfl, rfl, rfl, rfl⟩ := hq
  refine z_putFR d_X2_init_12 f_X2_12 p_X2_0 rfl (fun C T N h => by cases h; rfl) (fun _ => rfl) (fun _ => rfl) (by first | rfl | assumption) (by omega) ?_
  refine z_aload_n d_X2_init_15 rfl ?_
  refine z_bipush d_X2_init_16 kb_48 ?_
  refine z_newI0 (N := 48) (n := 29) d_X2_init_18 (by decide) (by decide) (by decide) rfl (by repeat (first | exact hz.up (by decide) | refine zZ0.p ?_ (by decide) | refine zZ0.r ?_ (by decide) | refine zZ0.i ?_ (by decide) | refine zZ0.v ?_ (by decide))) ⟨Nat.le_of_ble_eq_true rfl, Nat.le_of_ble_eq_true rfl⟩ ?_
  refine z_putFR d_X2_init_20 f_X2_18 p_X2_1 rfl (fun C T N h => by cases h; rfl) (fun _ => rfl) (fun _ => rfl) (by first | rfl | assumption) (by omega) ?_
  exact z_return d_X2_init_23 rfl ⟨rfl, rfl, rfl, rfl, rfl⟩
set_option maxRecDepth 100000 in
set_option maxHeartbeats 4000000 in
theorem ct_X2_init_30 {E : zE} {I : zI} {L : zL} {R : zR} (hz : zZ0 I L R 31) : zCt E m_X2_init (zShF.take 31) [.ref 30] I L R (fun r Sh1 I1 L1 R1 => r = none ∧ Sh1 = zShF.take 37 ∧ I1 = I ∧ L1 = L ∧ R1 = zr (zr (zr (zr (zr (zr (R) 31 0 (some 32)) 31 1 (some 33)) 31 2 (some 34)) 31 3 (some 35)) 30 0 (some 31)) 30 1 (some 36)) := by
  refine z_met (by decide) [some (.ref 30)] rfl rfl (Nat.le_of_ble_eq_true rfl) (fun X => ?_)
  refine z_aload_n d_X2_init_0 rfl ?_
  refine z_objInit d_X2_init_1 q_X2_init_3 (in_g (up_1 (List.mem_of_getElem? (i := 23) rfl)) rfl) (in_g (up_1 (List.mem_of_getElem? (i := 24) rfl)) rfl) (by decide) (Nat.le_of_ble_eq_true rfl) ?_
  refine z_aload_n d_X2_init_4 rfl ?_
  refine z_new0 (n := 31) d_X2_init_5 nw_X2_init_9 rfl (by repeat (first | exact hz.up (by decide) | refine zZ0.p ?_ (by decide) | refine zZ0.r ?_ (by decide) | refine zZ0.i ?_ (by decide) | refine zZ0.v ?_ (by decide))) ⟨Nat.le_of_ble_eq_true rfl, Nat.le_of_ble_eq_true rfl⟩ ?_
  refine z_dup d_X2_init_8 rfl ?_
  refine z_callIN d_X2_init_9 q_X2_init_11 (ct_X0_init_31 (hz.up (by decide))) rfl rfl rfl ⟨Nat.le_of_ble_eq_true rfl, Nat.le_of_ble_eq_true rfl⟩ (fun r Sh1 I1 L1 R1 hq => ?_)
  obtain ⟨rfl, rfl, rfl, rfl, rfl⟩ := hq
  refine z_putFR d_X2_init_12 f_X2_12 p_X2_0 rfl (fun C T N h => by cases h; rfl) (fun _ => rfl) (fun _ => rfl) (by first | rfl | assumption) (by omega) ?_
  refine z_aload_n d_X2_init_15 rfl ?_
  refine z_bipush d_X2_init_16 kb_48 ?_
  refine z_newI0 (N := 48) (n := 36) d_X2_init_18 (by decide) (by decide) (by decide) rfl (by repeat (first | exact hz.up (by decide) | refine zZ0.p ?_ (by decide) | refine zZ0.r ?_ (by decide) | refine zZ0.i ?_ (by decide) | refine zZ0.v ?_ (by decide))) ⟨Nat.le_of_ble_eq_true rfl, Nat.le_of_ble_eq_true rfl⟩ ?_
  refine z_putFR d_X2_init_20 f_X2_18 p_X2_1 rfl (fun C T N h => by cases h; rfl) (fun _ => rfl) (fun _ => rfl) (by first | rfl | assumption) (by omega) ?_
  exact z_return d_X2_init_23 rfl ⟨rfl, rfl, rfl, rfl, rfl⟩
set_option maxRecDepth 100000 in
set_option maxHeartbeats 4000000 in
theorem ct_X1_init_37 {E : zE} {I : zI} {L : zL} {R : zR} (hz : zZ0 I L R 38) : zCt E m_X1_init (zShF.take 38) [.ref 37] I L R (fun r Sh1 I1 L1 R1 => r = none ∧ Sh1 = zShF.take 45 ∧ I1 = I ∧ L1 = L ∧ R1 = zr (zr (zr (zr (zr (zr (zr (R) 37 5 (some 38)) 37 6 (some 39)) 37 8 (some 40)) 37 9 (some 41)) 37 10 (some 42)) 37 11 (some 43)) 37 12 (some 44)) := by
  refine z_met (by decide) [some (.ref 37)] rfl rfl (Nat.le_of_ble_eq_true rfl) (fun X => ?_)
  refine z_aload_n d_X1_init_0 rfl ?_
  refine z_objInit d_X1_init_1 q_X1_init_5 (in_g (up_1 (List.mem_of_getElem? (i := 23) rfl)) rfl) (in_g (up_1 (List.mem_of_getElem? (i := 24) rfl)) rfl) (by decide) (Nat.le_of_ble_eq_true rfl) ?_
  refine z_aload_n d_X1_init_4 rfl ?_
  refine z_bipush d_X1_init_5 kb_16 ?_
  refine z_newI0 (N := 16) (n := 38) d_X1_init_7 (by decide) (by decide) (by decide) rfl (by repeat (first | exact hz.up (by decide) | refine zZ0.p ?_ (by decide) | refine zZ0.r ?_ (by decide) | refine zZ0.i ?_ (by decide) | refine zZ0.v ?_ (by decide))) ⟨Nat.le_of_ble_eq_true rfl, Nat.le_of_ble_eq_true rfl⟩ ?_
  refine z_putFR d_X1_init_9 f_X1_11 p_X1_5 rfl (fun C T N h => by cases h; rfl) (fun _ => rfl) (fun _ => rfl) (by first | rfl | assumption) (by omega) ?_
  refine z_aload_n d_X1_init_12 rfl ?_
  refine z_bipush d_X1_init_13 kb_16 ?_
  refine z_newI0 (N := 16) (n := 39) d_X1_init_15 (by decide) (by decide) (by decide) rfl (by repeat (first | exact hz.up (by decide) | refine zZ0.p ?_ (by decide) | refine zZ0.r ?_ (by decide) | refine zZ0.i ?_ (by decide) | refine zZ0.v ?_ (by decide))) ⟨Nat.le_of_ble_eq_true rfl, Nat.le_of_ble_eq_true rfl⟩ ?_
  refine z_putFR d_X1_init_17 f_X1_15 p_X1_6 rfl (fun C T N h => by cases h; rfl) (fun _ => rfl) (fun _ => rfl) (by first | rfl | assumption) (by omega) ?_
  refine z_aload_n d_X1_init_20 rfl ?_
  refine z_bipush d_X1_init_21 kb_64 ?_
  refine z_newI0 (N := 64) (n := 40) d_X1_init_23 (by decide) (by decide) (by decide) rfl (by repeat (first | exact hz.up (by decide) | refine zZ0.p ?_ (by decide) | refine zZ0.r ?_ (by decide) | refine zZ0.i ?_ (by decide) | refine zZ0.v ?_ (by decide))) ⟨Nat.le_of_ble_eq_true rfl, Nat.le_of_ble_eq_true rfl⟩ ?_
  refine z_putFR d_X1_init_25 f_X1_18 p_X1_8 rfl (fun C T N h => by cases h; rfl) (fun _ => rfl) (fun _ => rfl) (by first | rfl | assumption) (by omega) ?_
  refine z_aload_n d_X1_init_28 rfl ?_
  refine z_sipush d_X1_init_29 ks_256 ?_
  refine z_newI0 (N := 256) (n := 41) d_X1_init_32 (by decide) (by decide) (by decide) rfl (by repeat (first | exact hz.up (by decide) | refine zZ0.p ?_ (by decide) | refine zZ0.r ?_ (by decide) | refine zZ0.i ?_ (by decide) | refine zZ0.v ?_ (by decide))) ⟨Nat.le_of_ble_eq_true rfl, Nat.le_of_ble_eq_true rfl⟩ ?_
  refine z_putFR d_X1_init_34 f_X1_21 p_X1_9 rfl (fun C T N h => by cases h; rfl) (fun _ => rfl) (fun _ => rfl) (by first | rfl | assumption) (by omega) ?_
  refine z_aload_n d_X1_init_37 rfl ?_
  refine z_sipush d_X1_init_38 ks_256 ?_
  refine z_newI0 (N := 256) (n := 42) d_X1_init_41 (by decide) (by decide) (by decide) rfl (by repeat (first | exact hz.up (by decide) | refine zZ0.p ?_ (by decide) | refine zZ0.r ?_ (by decide) | refine zZ0.i ?_ (by decide) | refine zZ0.v ?_ (by decide))) ⟨Nat.le_of_ble_eq_true rfl, Nat.le_of_ble_eq_true rfl⟩ ?_
  refine z_putFR d_X1_init_43 f_X1_24 p_X1_10 rfl (fun C T N h => by cases h; rfl) (fun _ => rfl) (fun _ => rfl) (by first | rfl | assumption) (by omega) ?_
  refine z_aload_n d_X1_init_46 rfl ?_
  refine z_sipush d_X1_init_47 ks_256 ?_
  refine z_newL0 (N := 256) (n := 43) d_X1_init_50 (by decide) (by decide) (by decide) rfl (by repeat (first | exact hz.up (by decide) | refine zZ0.p ?_ (by decide) | refine zZ0.r ?_ (by decide) | refine zZ0.i ?_ (by decide) | refine zZ0.v ?_ (by decide))) ⟨Nat.le_of_ble_eq_true rfl, Nat.le_of_ble_eq_true rfl⟩ ?_
  refine z_putR d_X1_init_52 f_X1_27 p_X1_11 (fun _ => rfl) (fun _ => rfl) (by first | rfl | assumption) (by omega) ?_
  refine z_aload_n d_X1_init_55 rfl ?_
  refine z_sipush d_X1_init_56 ks_256 ?_
  refine z_newL0 (N := 256) (n := 44) d_X1_init_59 (by decide) (by decide) (by decide) rfl (by repeat (first | exact hz.up (by decide) | refine zZ0.p ?_ (by decide) | refine zZ0.r ?_ (by decide) | refine zZ0.i ?_ (by decide) | refine zZ0.v ?_ (by decide))) ⟨Nat.le_of_ble_eq_true rfl, Nat.le_of_ble_eq_true rfl⟩ ?_
  refine z_putR d_X1_init_61 f_X1_31 p_X1_12 (fun _ => rfl) (fun _ => rfl) (by first | rfl | assumption) (by omega) ?_
  exact z_return d_X1_init_64 rfl ⟨rfl, rfl, rfl, rfl, rfl⟩
set_option maxRecDepth 100000 in
set_option maxHeartbeats 4000000 in
theorem ct_X4_init_8 {E : zE} {I : zI} {L : zL} {R : zR} (hz : zZ0 I L R 9) : zCt E m_X4_init (zShF.take 9) [.ref 8, .ref 1] I L R (fun r Sh1 I1 L1 R1 => r = none ∧ Sh1 = zShF.take 16 ∧ I1 = pl0 I 9 ∧ L1 = L ∧ R1 = zr (zr (zr (zr (zr (zr (zr (zr (R) 9 0 (some 10)) 9 1 (some 11)) 9 2 (some 12)) 9 3 (some 13)) 8 1 (some 9)) 8 2 (some 14)) 8 3 (some 15)) 8 0 (some 1)) := by
  refine z_met (by decide) [some (.ref 8), some (.ref 1)] rfl rfl (Nat.le_of_ble_eq_true rfl) (fun X => ?_)
  refine z_aload_n d_X4_init_0 rfl ?_
  refine z_objInit d_X4_init_1 q_X4_init_3 (in_g (up_1 (List.mem_of_getElem? (i := 23) rfl)) rfl) (in_g (up_1 (List.mem_of_getElem? (i := 24) rfl)) rfl) (by decide) (Nat.le_of_ble_eq_true rfl) ?_
  refine z_aload_n d_X4_init_4 rfl ?_
  refine z_new0 (n := 9) d_X4_init_5 nw_X4_init_9 rfl (by repeat (first | exact hz.up (by decide) | refine zZ0.p ?_ (by decide) | refine zZ0.r ?_ (by decide) | refine zZ0.i ?_ (by decide) | refine zZ0.v ?_ (by decide))) ⟨Nat.le_of_ble_eq_true rfl, Nat.le_of_ble_eq_true rfl⟩ ?_
  refine z_dup d_X4_init_8 rfl ?_
  refine z_callI d_X4_init_9 q_X4_init_11 (ct_X3_init_9 (hz.up (by decide))) rfl rfl rfl ⟨Nat.le_of_ble_eq_true rfl, Nat.le_of_ble_eq_true rfl⟩ (fun r Sh1 I1 L1 R1 hq => ?_)
  obtain ⟨rfl, rfl, rfl, rfl, rfl⟩ := hq
  refine z_putFR d_X4_init_12 f_X4_12 p_X4_1 rfl (fun C T N h => by cases h; rfl) (fun _ => rfl) (fun _ => rfl) (by first | rfl | assumption) (by omega) ?_
  refine z_aload_n d_X4_init_15 rfl ?_
  refine z_bipush d_X4_init_16 kb_48 ?_
  refine z_newI0 (N := 48) (n := 14) d_X4_init_18 (by decide) (by decide) (by decide) rfl (by repeat (first | exact hz.up (by decide) | refine zZ0.p ?_ (by decide) | refine zZ0.r ?_ (by decide) | refine zZ0.i ?_ (by decide) | refine zZ0.v ?_ (by decide))) ⟨Nat.le_of_ble_eq_true rfl, Nat.le_of_ble_eq_true rfl⟩ ?_
  refine z_putFR d_X4_init_20 f_X4_18 p_X4_2 rfl (fun C T N h => by cases h; rfl) (fun _ => rfl) (fun _ => rfl) (by first | rfl | assumption) (by omega) ?_
  refine z_aload_n d_X4_init_23 rfl ?_
  refine z_bipush d_X4_init_24 kb_10 ?_
  refine z_newZ0 (N := 10) (n := 15) d_X4_init_26 (by decide) (by decide) (by decide) rfl (by repeat (first | exact hz.up (by decide) | refine zZ0.p ?_ (by decide) | refine zZ0.r ?_ (by decide) | refine zZ0.i ?_ (by decide) | refine zZ0.v ?_ (by decide))) ⟨Nat.le_of_ble_eq_true rfl, Nat.le_of_ble_eq_true rfl⟩ ?_
  refine z_putFR d_X4_init_28 f_X4_22 p_X4_3 rfl (fun C T N h => by cases h; rfl) (fun _ => rfl) (fun _ => rfl) (by first | rfl | assumption) (by omega) ?_
  refine z_aload_n d_X4_init_31 rfl ?_
  refine z_aload_n d_X4_init_32 rfl ?_
  refine z_putFR d_X4_init_33 f_X4_26 p_X4_0 rfl (fun C T N h => by cases h; rfl) (fun _ => rfl) (fun _ => rfl) (by first | rfl | assumption) (by omega) ?_
  exact z_return d_X4_init_36 rfl ⟨rfl, rfl, rfl, rfl, rfl⟩
def rX (R : zR) : zR := zr (zr (zr (zr (zr (zr (zr (zr (zr (zr (zr (zr (zr (zr (zr (zr (zr (zr (zr (zr (zr (zr (zr (zr (zr (zr (zr (zr (zr (zr (zr (zr (zr (zr (zr (zr (zr (zr (zr (zr (zr (zr (zr (zr (zr (zr (zr (zr (zr (zr (zr (zr (zr (zr (zr (zr (zr (zr (zr (zr (zr (zr (zr (zr (R) 1 0 (some 2)) 0 0 (some 1)) 3 0 (some 4)) 3 1 (some 5)) 3 2 (some 6)) 3 3 (some 7)) 0 1 (some 3)) 9 0 (some 10)) 9 1 (some 11)) 9 2 (some 12)) 9 3 (some 13)) 8 1 (some 9)) 8 2 (some 14)) 8 3 (some 15)) 8 0 (some 1)) 0 2 (some 8)) 16 0 (some 17)) 16 1 (some 18)) 16 2 (some 19)) 16 3 (some 20)) 0 3 (some 16)) 0 4 (some 21)) 0 5 (some 22)) 24 0 (some 25)) 24 1 (some 26)) 24 2 (some 27)) 24 3 (some 28)) 23 0 (some 24)) 23 1 (some 29)) 0 6 (some 23)) 31 0 (some 32)) 31 1 (some 33)) 31 2 (some 34)) 31 3 (some 35)) 30 0 (some 31)) 30 1 (some 36)) 0 7 (some 30)) 37 5 (some 38)) 37 6 (some 39)) 37 8 (some 40)) 37 9 (some 41)) 37 10 (some 42)) 37 11 (some 43)) 37 12 (some 44)) 0 8 (some 37)) 0 9 (some 45)) 46 0 (some 47)) 46 1 (some 48)) 46 2 (some 49)) 46 3 (some 50)) 21 0 (some 46)) 51 0 (some 52)) 51 1 (some 53)) 51 2 (some 54)) 51 3 (some 55)) 21 1 (some 51)) 56 0 (some 57)) 45 0 (some 56)) 58 0 (some 59)) 45 1 (some 58)) 60 0 (some 61)) 45 2 (some 60)) 62 0 (some 63)) 45 3 (some 62)
def iX (I : zI) : zI := zi (zi (zi (zi (pl0 (pl0 I 3) 9) 56 2 (-1)) 58 2 (-1)) 60 2 (-1)) 62 2 (-1)
set_option maxRecDepth 100000 in
set_option maxHeartbeats 4000000 in
theorem ct_X7_init_0 {E : zE} {I : zI} {L : zL} {R : zR} (hz : zZ0 I L R 1) : zCt E m_X7_init (zShF.take 1) [.ref 0] I L R (fun r Sh1 I1 L1 R1 => r = none ∧ Sh1 = zShF.take 64 ∧ I1 = iX I ∧ L1 = L ∧ R1 = rX R) := by
  refine z_met (by decide) [some (.ref 0), none] rfl rfl (Nat.le_of_ble_eq_true rfl) (fun X => ?_)
  refine z_aload_n d_X7_init_0 rfl ?_
  refine z_objInit d_X7_init_1 q_X7_init_3 (in_g (up_1 (List.mem_of_getElem? (i := 23) rfl)) rfl) (in_g (up_1 (List.mem_of_getElem? (i := 24) rfl)) rfl) (by decide) (Nat.le_of_ble_eq_true rfl) ?_
  refine z_aload_n d_X7_init_4 rfl ?_
  refine z_new0 (n := 1) d_X7_init_5 nw_X7_init_9 rfl (by repeat (first | exact hz.up (by decide) | refine zZ0.p ?_ (by decide) | refine zZ0.r ?_ (by decide) | refine zZ0.i ?_ (by decide) | refine zZ0.v ?_ (by decide))) ⟨Nat.le_of_ble_eq_true rfl, Nat.le_of_ble_eq_true rfl⟩ ?_
  refine z_dup d_X7_init_8 rfl ?_
  refine z_callIN d_X7_init_9 q_X7_init_11 (ct_X6_init_1 (by repeat (first | exact hz.up (by decide) | refine zZ0.p ?_ (by decide) | refine zZ0.r ?_ (by decide) | refine zZ0.i ?_ (by decide) | refine zZ0.v ?_ (by decide)))) rfl rfl rfl ⟨Nat.le_of_ble_eq_true rfl, Nat.le_of_ble_eq_true rfl⟩ (fun r Sh1 I1 L1 R1 hq => ?_)
  obtain ⟨rfl, rfl, rfl, rfl, rfl⟩ := hq
  refine z_putFR d_X7_init_12 f_X7_12 p_X7_0 rfl (fun C T N h => by cases h; rfl) (fun _ => rfl) (fun _ => rfl) (by first | rfl | assumption) (by omega) ?_
  refine z_aload_n d_X7_init_15 rfl ?_
  refine z_new0 (n := 3) d_X7_init_16 nw_X7_init_16 rfl (by repeat (first | exact hz.up (by decide) | refine zZ0.p ?_ (by decide) | refine zZ0.r ?_ (by decide) | refine zZ0.i ?_ (by decide) | refine zZ0.v ?_ (by decide))) ⟨Nat.le_of_ble_eq_true rfl, Nat.le_of_ble_eq_true rfl⟩ ?_
  refine z_dup d_X7_init_19 rfl ?_
  refine z_callI d_X7_init_20 q_X7_init_18 (ct_X3_init_3 (by repeat (first | exact hz.up (by decide) | refine zZ0.p ?_ (by decide) | refine zZ0.r ?_ (by decide) | refine zZ0.i ?_ (by decide) | refine zZ0.v ?_ (by decide)))) rfl rfl rfl ⟨Nat.le_of_ble_eq_true rfl, Nat.le_of_ble_eq_true rfl⟩ (fun r Sh1 I1 L1 R1 hq => ?_)
  obtain ⟨rfl, rfl, rfl, rfl, rfl⟩ := hq
  refine z_putFR d_X7_init_23 f_X7_19 p_X7_1 rfl (fun C T N h => by cases h; rfl) (fun _ => rfl) (fun _ => rfl) (by first | rfl | assumption) (by omega) ?_
  refine z_aload_n d_X7_init_26 rfl ?_
  refine z_new0 (n := 8) d_X7_init_27 nw_X7_init_23 rfl (by repeat (first | exact hz.up (by decide) | refine zZ0.p ?_ (by decide) | refine zZ0.r ?_ (by decide) | refine zZ0.i ?_ (by decide) | refine zZ0.v ?_ (by decide))) ⟨Nat.le_of_ble_eq_true rfl, Nat.le_of_ble_eq_true rfl⟩ ?_
  refine z_dup d_X7_init_30 rfl ?_
  refine z_aload_n d_X7_init_31 rfl ?_
  refine z_getR d_X7_init_32 f_X7_12 (by first | rfl | assumption) (by omega) (by first | exact hR _ _ _ rfl | rfl | assumption) ?_
  refine z_callI d_X7_init_35 q_X7_init_25 (ct_X4_init_8 (by repeat (first | exact hz.up (by decide) | refine zZ0.p ?_ (by decide) | refine zZ0.r ?_ (by decide) | refine zZ0.i ?_ (by decide) | refine zZ0.v ?_ (by decide)))) rfl rfl rfl ⟨Nat.le_of_ble_eq_true rfl, Nat.le_of_ble_eq_true rfl⟩ (fun r Sh1 I1 L1 R1 hq => ?_)
  obtain ⟨rfl, rfl, rfl, rfl, rfl⟩ := hq
  refine z_putFR d_X7_init_38 f_X7_28 p_X7_2 rfl (fun C T N h => by cases h; rfl) (fun _ => rfl) (fun _ => rfl) (by first | rfl | assumption) (by omega) ?_
  refine z_aload_n d_X7_init_41 rfl ?_
  refine z_new0 (n := 16) d_X7_init_42 nw_X7_init_32 rfl (by repeat (first | exact hz.up (by decide) | refine zZ0.p ?_ (by decide) | refine zZ0.r ?_ (by decide) | refine zZ0.i ?_ (by decide) | refine zZ0.v ?_ (by decide))) ⟨Nat.le_of_ble_eq_true rfl, Nat.le_of_ble_eq_true rfl⟩ ?_
  refine z_dup d_X7_init_45 rfl ?_
  refine z_callIN d_X7_init_46 q_X7_init_34 (ct_X0_init_16 (by repeat (first | exact hz.up (by decide) | refine zZ0.p ?_ (by decide) | refine zZ0.r ?_ (by decide) | refine zZ0.i ?_ (by decide) | refine zZ0.v ?_ (by decide)))) rfl rfl rfl ⟨Nat.le_of_ble_eq_true rfl, Nat.le_of_ble_eq_true rfl⟩ (fun r Sh1 I1 L1 R1 hq => ?_)
  obtain ⟨rfl, rfl, rfl, rfl, rfl⟩ := hq
  refine z_putFR d_X7_init_49 f_X7_35 p_X7_3 rfl (fun C T N h => by cases h; rfl) (fun _ => rfl) (fun _ => rfl) (by first | rfl | assumption) (by omega) ?_
  refine z_aload_n d_X7_init_52 rfl ?_
  refine z_iconst d_X7_init_53 ki_2 ?_
  refine z_anew0 (tag := 4) (N := 2) (n := 21) (Or.inl ⟨rfl, rfl⟩) d_X7_init_54 na_X7_init_32 (by decide) (by decide) (by decide) rfl (by repeat (first | exact hz.up (by decide) | refine zZ0.p ?_ (by decide) | refine zZ0.r ?_ (by decide) | refine zZ0.i ?_ (by decide) | refine zZ0.v ?_ (by decide))) ⟨Nat.le_of_ble_eq_true rfl, Nat.le_of_ble_eq_true rfl⟩ ?_
  refine z_putFR d_X7_init_57 f_X7_39 p_X7_4 rfl (fun C T N h => by cases h; rfl) (fun _ => rfl) (fun _ => rfl) (by first | rfl | assumption) (by omega) ?_
  refine z_aload_n d_X7_init_60 rfl ?_
  refine z_iconst d_X7_init_61 ki_2 ?_
  refine z_newZ0 (N := 2) (n := 22) d_X7_init_62 (by decide) (by decide) (by decide) rfl (by repeat (first | exact hz.up (by decide) | refine zZ0.p ?_ (by decide) | refine zZ0.r ?_ (by decide) | refine zZ0.i ?_ (by decide) | refine zZ0.v ?_ (by decide))) ⟨Nat.le_of_ble_eq_true rfl, Nat.le_of_ble_eq_true rfl⟩ ?_
  refine z_putFR d_X7_init_64 f_X7_43 p_X7_5 rfl (fun C T N h => by cases h; rfl) (fun _ => rfl) (fun _ => rfl) (by first | rfl | assumption) (by omega) ?_
  refine z_aload_n d_X7_init_67 rfl ?_
  refine z_new0 (n := 23) d_X7_init_68 nw_X7_init_47 rfl (by repeat (first | exact hz.up (by decide) | refine zZ0.p ?_ (by decide) | refine zZ0.r ?_ (by decide) | refine zZ0.i ?_ (by decide) | refine zZ0.v ?_ (by decide))) ⟨Nat.le_of_ble_eq_true rfl, Nat.le_of_ble_eq_true rfl⟩ ?_
  refine z_dup d_X7_init_71 rfl ?_
  refine z_callIN d_X7_init_72 q_X7_init_49 (ct_X2_init_23 (by repeat (first | exact hz.up (by decide) | refine zZ0.p ?_ (by decide) | refine zZ0.r ?_ (by decide) | refine zZ0.i ?_ (by decide) | refine zZ0.v ?_ (by decide)))) rfl rfl rfl ⟨Nat.le_of_ble_eq_true rfl, Nat.le_of_ble_eq_true rfl⟩ (fun r Sh1 I1 L1 R1 hq => ?_)
  obtain ⟨rfl, rfl, rfl, rfl, rfl⟩ := hq
  refine z_putFR d_X7_init_75 f_X7_50 p_X7_6 rfl (fun C T N h => by cases h; rfl) (fun _ => rfl) (fun _ => rfl) (by first | rfl | assumption) (by omega) ?_
  refine z_aload_n d_X7_init_78 rfl ?_
  refine z_new0 (n := 30) d_X7_init_79 nw_X7_init_47 rfl (by repeat (first | exact hz.up (by decide) | refine zZ0.p ?_ (by decide) | refine zZ0.r ?_ (by decide) | refine zZ0.i ?_ (by decide) | refine zZ0.v ?_ (by decide))) ⟨Nat.le_of_ble_eq_true rfl, Nat.le_of_ble_eq_true rfl⟩ ?_
  refine z_dup d_X7_init_82 rfl ?_
  refine z_callIN d_X7_init_83 q_X7_init_49 (ct_X2_init_30 (by repeat (first | exact hz.up (by decide) | refine zZ0.p ?_ (by decide) | refine zZ0.r ?_ (by decide) | refine zZ0.i ?_ (by decide) | refine zZ0.v ?_ (by decide)))) rfl rfl rfl ⟨Nat.le_of_ble_eq_true rfl, Nat.le_of_ble_eq_true rfl⟩ (fun r Sh1 I1 L1 R1 hq => ?_)
  obtain ⟨rfl, rfl, rfl, rfl, rfl⟩ := hq
  refine z_putFR d_X7_init_86 f_X7_54 p_X7_7 rfl (fun C T N h => by cases h; rfl) (fun _ => rfl) (fun _ => rfl) (by first | rfl | assumption) (by omega) ?_
  refine z_aload_n d_X7_init_89 rfl ?_
  refine z_new0 (n := 37) d_X7_init_90 nw_X7_init_57 rfl (by repeat (first | exact hz.up (by decide) | refine zZ0.p ?_ (by decide) | refine zZ0.r ?_ (by decide) | refine zZ0.i ?_ (by decide) | refine zZ0.v ?_ (by decide))) ⟨Nat.le_of_ble_eq_true rfl, Nat.le_of_ble_eq_true rfl⟩ ?_
  refine z_dup d_X7_init_93 rfl ?_
  refine z_callIN d_X7_init_94 q_X7_init_59 (ct_X1_init_37 (by repeat (first | exact hz.up (by decide) | refine zZ0.p ?_ (by decide) | refine zZ0.r ?_ (by decide) | refine zZ0.i ?_ (by decide) | refine zZ0.v ?_ (by decide)))) rfl rfl rfl ⟨Nat.le_of_ble_eq_true rfl, Nat.le_of_ble_eq_true rfl⟩ (fun r Sh1 I1 L1 R1 hq => ?_)
  obtain ⟨rfl, rfl, rfl, rfl, rfl⟩ := hq
  refine z_putFR d_X7_init_97 f_X7_60 p_X7_8 rfl (fun C T N h => by cases h; rfl) (fun _ => rfl) (fun _ => rfl) (by first | rfl | assumption) (by omega) ?_
  refine z_aload_n d_X7_init_100 rfl ?_
  refine z_iconst d_X7_init_101 ki_4 ?_
  refine z_anew0 (tag := 5) (N := 4) (n := 45) (Or.inr ⟨rfl, rfl⟩) d_X7_init_102 na_X7_init_64 (by decide) (by decide) (by decide) rfl (by repeat (first | exact hz.up (by decide) | refine zZ0.p ?_ (by decide) | refine zZ0.r ?_ (by decide) | refine zZ0.i ?_ (by decide) | refine zZ0.v ?_ (by decide))) ⟨Nat.le_of_ble_eq_true rfl, Nat.le_of_ble_eq_true rfl⟩ ?_
  refine z_putFR d_X7_init_105 f_X7_66 p_X7_9 rfl (fun C T N h => by cases h; rfl) (fun _ => rfl) (fun _ => rfl) (by first | rfl | assumption) (by omega) ?_
  refine z_iconst d_X7_init_108 ki_0 ?_
  refine z_istore1 d_X7_init_109 rfl ?_
  refine z_iload_n d_X7_init_110 rfl ?_
  refine z_iconst d_X7_init_111 ki_2 ?_
  refine z_icmp_ge d_X7_init_112 (fun h_112 => absurd h_112 (by decide)) (fun h_112 => ?_)
  refine z_aload_n d_X7_init_115 rfl ?_
  refine z_getR d_X7_init_116 f_X7_39 (by first | rfl | assumption) (by omega) (by first | exact hR _ _ _ rfl | rfl | assumption) ?_
  refine z_iload_n d_X7_init_119 rfl ?_
  refine z_new0 (n := 46) d_X7_init_120 nw_X7_init_32 rfl (by repeat (first | exact hz.up (by decide) | refine zZ0.p ?_ (by decide) | refine zZ0.r ?_ (by decide) | refine zZ0.i ?_ (by decide) | refine zZ0.v ?_ (by decide))) ⟨Nat.le_of_ble_eq_true rfl, Nat.le_of_ble_eq_true rfl⟩ ?_
  refine z_dup d_X7_init_123 rfl ?_
  refine z_callIN d_X7_init_124 q_X7_init_34 (ct_X0_init_46 (by repeat (first | exact hz.up (by decide) | refine zZ0.p ?_ (by decide) | refine zZ0.r ?_ (by decide) | refine zZ0.i ?_ (by decide) | refine zZ0.v ?_ (by decide)))) rfl rfl rfl ⟨Nat.le_of_ble_eq_true rfl, Nat.le_of_ble_eq_true rfl⟩ (fun r Sh1 I1 L1 R1 hq => ?_)
  obtain ⟨rfl, rfl, rfl, rfl, rfl⟩ := hq
  refine z_aastore (tag := 4) (ci := 0) (Or.inl ⟨rfl, rfl⟩) d_X7_init_127 rfl (by decide) (by decide) (zix_lit 0 (by decide)) rfl rfl ?_
  refine z_iinc1 d_X7_init_128 ki_1 rfl ?_
  refine z_goto d_X7_init_131 ?_
  refine z_iload_n d_X7_init_110 rfl ?_
  refine z_iconst d_X7_init_111 ki_2 ?_
  refine z_icmp_ge d_X7_init_112 (fun h_112 => absurd h_112 (by decide)) (fun h_112 => ?_)
  refine z_aload_n d_X7_init_115 rfl ?_
  refine z_getR d_X7_init_116 f_X7_39 (by first | rfl | assumption) (by omega) (by first | exact hR _ _ _ rfl | rfl | assumption) ?_
  refine z_iload_n d_X7_init_119 rfl ?_
  refine z_new0 (n := 51) d_X7_init_120 nw_X7_init_32 rfl (by repeat (first | exact hz.up (by decide) | refine zZ0.p ?_ (by decide) | refine zZ0.r ?_ (by decide) | refine zZ0.i ?_ (by decide) | refine zZ0.v ?_ (by decide))) ⟨Nat.le_of_ble_eq_true rfl, Nat.le_of_ble_eq_true rfl⟩ ?_
  refine z_dup d_X7_init_123 rfl ?_
  refine z_callIN d_X7_init_124 q_X7_init_34 (ct_X0_init_51 (by repeat (first | exact hz.up (by decide) | refine zZ0.p ?_ (by decide) | refine zZ0.r ?_ (by decide) | refine zZ0.i ?_ (by decide) | refine zZ0.v ?_ (by decide)))) rfl rfl rfl ⟨Nat.le_of_ble_eq_true rfl, Nat.le_of_ble_eq_true rfl⟩ (fun r Sh1 I1 L1 R1 hq => ?_)
  obtain ⟨rfl, rfl, rfl, rfl, rfl⟩ := hq
  refine z_aastore (tag := 4) (ci := 0) (Or.inl ⟨rfl, rfl⟩) d_X7_init_127 rfl (by decide) (by decide) (zix_lit 1 (by decide)) rfl rfl ?_
  refine z_iinc1 d_X7_init_128 ki_1 rfl ?_
  refine z_goto d_X7_init_131 ?_
  refine z_iload_n d_X7_init_110 rfl ?_
  refine z_iconst d_X7_init_111 ki_2 ?_
  refine z_icmp_ge d_X7_init_112 (fun h_112 => ?_) (fun h_112 => absurd (by decide) h_112)
  refine z_iconst d_X7_init_134 ki_0 ?_
  refine z_istore1 d_X7_init_135 rfl ?_
  refine z_iload_n d_X7_init_136 rfl ?_
  refine z_iconst d_X7_init_137 ki_4 ?_
  refine z_icmp_ge d_X7_init_138 (fun h_138 => absurd h_138 (by decide)) (fun h_138 => ?_)
  refine z_aload_n d_X7_init_141 rfl ?_
  refine z_getR d_X7_init_142 f_X7_66 (by first | rfl | assumption) (by omega) (by first | exact hR _ _ _ rfl | rfl | assumption) ?_
  refine z_iload_n d_X7_init_145 rfl ?_
  refine z_new0 (n := 56) d_X7_init_146 nw_X7_init_64 rfl (by repeat (first | exact hz.up (by decide) | refine zZ0.p ?_ (by decide) | refine zZ0.r ?_ (by decide) | refine zZ0.i ?_ (by decide) | refine zZ0.v ?_ (by decide))) ⟨Nat.le_of_ble_eq_true rfl, Nat.le_of_ble_eq_true rfl⟩ ?_
  refine z_dup d_X7_init_149 rfl ?_
  refine z_callIN d_X7_init_150 q_X7_init_70 (ct_X5_init_56 (by repeat (first | exact hz.up (by decide) | refine zZ0.p ?_ (by decide) | refine zZ0.r ?_ (by decide) | refine zZ0.i ?_ (by decide) | refine zZ0.v ?_ (by decide)))) rfl rfl rfl ⟨Nat.le_of_ble_eq_true rfl, Nat.le_of_ble_eq_true rfl⟩ (fun r Sh1 I1 L1 R1 hq => ?_)
  obtain ⟨rfl, rfl, rfl, rfl, rfl⟩ := hq
  refine z_aastore (tag := 5) (ci := 5) (Or.inr ⟨rfl, rfl⟩) d_X7_init_153 rfl (by decide) (by decide) (zix_lit 0 (by decide)) rfl rfl ?_
  refine z_iinc1 d_X7_init_154 ki_1 rfl ?_
  refine z_goto d_X7_init_157 ?_
  refine z_iload_n d_X7_init_136 rfl ?_
  refine z_iconst d_X7_init_137 ki_4 ?_
  refine z_icmp_ge d_X7_init_138 (fun h_138 => absurd h_138 (by decide)) (fun h_138 => ?_)
  refine z_aload_n d_X7_init_141 rfl ?_
  refine z_getR d_X7_init_142 f_X7_66 (by first | rfl | assumption) (by omega) (by first | exact hR _ _ _ rfl | rfl | assumption) ?_
  refine z_iload_n d_X7_init_145 rfl ?_
  refine z_new0 (n := 58) d_X7_init_146 nw_X7_init_64 rfl (by repeat (first | exact hz.up (by decide) | refine zZ0.p ?_ (by decide) | refine zZ0.r ?_ (by decide) | refine zZ0.i ?_ (by decide) | refine zZ0.v ?_ (by decide))) ⟨Nat.le_of_ble_eq_true rfl, Nat.le_of_ble_eq_true rfl⟩ ?_
  refine z_dup d_X7_init_149 rfl ?_
  refine z_callIN d_X7_init_150 q_X7_init_70 (ct_X5_init_58 (by repeat (first | exact hz.up (by decide) | refine zZ0.p ?_ (by decide) | refine zZ0.r ?_ (by decide) | refine zZ0.i ?_ (by decide) | refine zZ0.v ?_ (by decide)))) rfl rfl rfl ⟨Nat.le_of_ble_eq_true rfl, Nat.le_of_ble_eq_true rfl⟩ (fun r Sh1 I1 L1 R1 hq => ?_)
  obtain ⟨rfl, rfl, rfl, rfl, rfl⟩ := hq
  refine z_aastore (tag := 5) (ci := 5) (Or.inr ⟨rfl, rfl⟩) d_X7_init_153 rfl (by decide) (by decide) (zix_lit 1 (by decide)) rfl rfl ?_
  refine z_iinc1 d_X7_init_154 ki_1 rfl ?_
  refine z_goto d_X7_init_157 ?_
  refine z_iload_n d_X7_init_136 rfl ?_
  refine z_iconst d_X7_init_137 ki_4 ?_
  refine z_icmp_ge d_X7_init_138 (fun h_138 => absurd h_138 (by decide)) (fun h_138 => ?_)
  refine z_aload_n d_X7_init_141 rfl ?_
  refine z_getR d_X7_init_142 f_X7_66 (by first | rfl | assumption) (by omega) (by first | exact hR _ _ _ rfl | rfl | assumption) ?_
  refine z_iload_n d_X7_init_145 rfl ?_
  refine z_new0 (n := 60) d_X7_init_146 nw_X7_init_64 rfl (by repeat (first | exact hz.up (by decide) | refine zZ0.p ?_ (by decide) | refine zZ0.r ?_ (by decide) | refine zZ0.i ?_ (by decide) | refine zZ0.v ?_ (by decide))) ⟨Nat.le_of_ble_eq_true rfl, Nat.le_of_ble_eq_true rfl⟩ ?_
  refine z_dup d_X7_init_149 rfl ?_
  refine z_callIN d_X7_init_150 q_X7_init_70 (ct_X5_init_60 (by repeat (first | exact hz.up (by decide) | refine zZ0.p ?_ (by decide) | refine zZ0.r ?_ (by decide) | refine zZ0.i ?_ (by decide) | refine zZ0.v ?_ (by decide)))) rfl rfl rfl ⟨Nat.le_of_ble_eq_true rfl, Nat.le_of_ble_eq_true rfl⟩ (fun r Sh1 I1 L1 R1 hq => ?_)
  obtain ⟨rfl, rfl, rfl, rfl, rfl⟩ := hq
  refine z_aastore (tag := 5) (ci := 5) (Or.inr ⟨rfl, rfl⟩) d_X7_init_153 rfl (by decide) (by decide) (zix_lit 2 (by decide)) rfl rfl ?_
  refine z_iinc1 d_X7_init_154 ki_1 rfl ?_
  refine z_goto d_X7_init_157 ?_
  refine z_iload_n d_X7_init_136 rfl ?_
  refine z_iconst d_X7_init_137 ki_4 ?_
  refine z_icmp_ge d_X7_init_138 (fun h_138 => absurd h_138 (by decide)) (fun h_138 => ?_)
  refine z_aload_n d_X7_init_141 rfl ?_
  refine z_getR d_X7_init_142 f_X7_66 (by first | rfl | assumption) (by omega) (by first | exact hR _ _ _ rfl | rfl | assumption) ?_
  refine z_iload_n d_X7_init_145 rfl ?_
  refine z_new0 (n := 62) d_X7_init_146 nw_X7_init_64 rfl (by repeat (first | exact hz.up (by decide) | refine zZ0.p ?_ (by decide) | refine zZ0.r ?_ (by decide) | refine zZ0.i ?_ (by decide) | refine zZ0.v ?_ (by decide))) ⟨Nat.le_of_ble_eq_true rfl, Nat.le_of_ble_eq_true rfl⟩ ?_
  refine z_dup d_X7_init_149 rfl ?_
  refine z_callIN d_X7_init_150 q_X7_init_70 (ct_X5_init_62 (by repeat (first | exact hz.up (by decide) | refine zZ0.p ?_ (by decide) | refine zZ0.r ?_ (by decide) | refine zZ0.i ?_ (by decide) | refine zZ0.v ?_ (by decide)))) rfl rfl rfl ⟨Nat.le_of_ble_eq_true rfl, Nat.le_of_ble_eq_true rfl⟩ (fun r Sh1 I1 L1 R1 hq => ?_)
  obtain ⟨rfl, rfl, rfl, rfl, rfl⟩ := hq
  refine z_aastore (tag := 5) (ci := 5) (Or.inr ⟨rfl, rfl⟩) d_X7_init_153 rfl (by decide) (by decide) (zix_lit 3 (by decide)) rfl rfl ?_
  refine z_iinc1 d_X7_init_154 ki_1 rfl ?_
  refine z_goto d_X7_init_157 ?_
  refine z_iload_n d_X7_init_136 rfl ?_
  refine z_iconst d_X7_init_137 ki_4 ?_
  refine z_icmp_ge d_X7_init_138 (fun h_138 => ?_) (fun h_138 => absurd (by decide) h_138)
  exact z_return d_X7_init_160 rfl ⟨rfl, rfl, rfl, rfl, rfl⟩
