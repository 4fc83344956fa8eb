set_option maxRecDepth 100000 in
set_option maxHeartbeats 4000000 in
theorem ct_X0_init_16 {E : zE} {I : zI} {L : zL} {R : zR} (hz : zZ0 I L R 17) : zCt E m_X0_init (zShF.take 17) [.ref 16] I L R (fun r Sh1 I1 L1 R1 => r = none ∧ Sh1 = zShF.take 21 ∧ I1 = I ∧ L1 = L ∧ R1 = zr (zr (zr (zr (R) 16 0 (some 17)) 16 1 (some 18)) 16 2 (some 19)) 16 3 (some 20)) := by
  refine z_met (by decide) [some (.ref 16)] rfl rfl (Nat.le_of_ble_eq_true rfl) (fun X => ?_)
  refine z_aload_n d_X0_init_0 rfl ?_
  refine z_objInit d_X0_init_1 q_X0_init_3 (in_g (up_1 (List.mem_of_getElem? (i := 23) rfl)) rfl) (in_g (up_1 (List.mem_of_getElem? (i := 24) rfl)) rfl) (by decide) (Nat.le_of_ble_eq_true rfl) ?_
  refine z_aload_n d_X0_init_4 rfl ?_
  refine z_bipush d_X0_init_5 kb_48 ?_
  refine z_newI0 (N := 48) (n := 17) d_X0_init_7 (by decide) (by decide) (by decide) rfl (by first | exact hz.up (by decide) | exact (hz.r (by decide)).up (by decide) | exact ((hz.r (by decide)).r (by decide)).up (by decide) | exact (((hz.r (by decide)).r (by decide)).r (by decide)).up (by decide)) ⟨Nat.le_of_ble_eq_true rfl, Nat.le_of_ble_eq_true rfl⟩ ?_
  refine z_putFR d_X0_init_9 f_X0_9 p_X0_0 rfl (fun C T N h => by cases h; rfl) (fun _ => rfl) (fun _ => rfl) (by first | rfl | assumption) (by omega) ?_
  refine z_aload_n d_X0_init_12 rfl ?_
  refine z_bipush d_X0_init_13 kb_48 ?_
  refine z_newI0 (N := 48) (n := 18) d_X0_init_15 (by decide) (by decide) (by decide) rfl (by first | exact hz.up (by decide) | exact (hz.r (by decide)).up (by decide) | exact ((hz.r (by decide)).r (by decide)).up (by decide) | exact (((hz.r (by decide)).r (by decide)).r (by decide)).up (by decide)) ⟨Nat.le_of_ble_eq_true rfl, Nat.le_of_ble_eq_true rfl⟩ ?_
  refine z_putFR d_X0_init_17 f_X0_15 p_X0_1 rfl (fun C T N h => by cases h; rfl) (fun _ => rfl) (fun _ => rfl) (by first | rfl | assumption) (by omega) ?_
  refine z_aload_n d_X0_init_20 rfl ?_
  refine z_bipush d_X0_init_21 kb_48 ?_
  refine z_newI0 (N := 48) (n := 19) d_X0_init_23 (by decide) (by decide) (by decide) rfl (by first | exact hz.up (by decide) | exact (hz.r (by decide)).up (by decide) | exact ((hz.r (by decide)).r (by decide)).up (by decide) | exact (((hz.r (by decide)).r (by decide)).r (by decide)).up (by decide)) ⟨Nat.le_of_ble_eq_true rfl, Nat.le_of_ble_eq_true rfl⟩ ?_
  refine z_putFR d_X0_init_25 f_X0_18 p_X0_2 rfl (fun C T N h => by cases h; rfl) (fun _ => rfl) (fun _ => rfl) (by first | rfl | assumption) (by omega) ?_
  refine z_aload_n d_X0_init_28 rfl ?_
  refine z_bipush d_X0_init_29 kb_8 ?_
  refine z_newI0 (N := 8) (n := 20) d_X0_init_31 (by decide) (by decide) (by decide) rfl (by first | exact hz.up (by decide) | exact (hz.r (by decide)).up (by decide) | exact ((hz.r (by decide)).r (by decide)).up (by decide) | exact (((hz.r (by decide)).r (by decide)).r (by decide)).up (by decide)) ⟨Nat.le_of_ble_eq_true rfl, Nat.le_of_ble_eq_true rfl⟩ ?_
  refine z_putFR d_X0_init_33 f_X0_21 p_X0_3 rfl (fun C T N h => by cases h; rfl) (fun _ => rfl) (fun _ => rfl) (by first | rfl | assumption) (by omega) ?_
  exact z_return d_X0_init_36 rfl ⟨rfl, rfl, rfl, rfl, rfl⟩
set_option maxRecDepth 100000 in
set_option maxHeartbeats 4000000 in
theorem ct_X0_init_24 {E : zE} {I : zI} {L : zL} {R : zR} (hz : zZ0 I L R 25) : zCt E m_X0_init (zShF.take 25) [.ref 24] I L R (fun r Sh1 I1 L1 R1 => r = none ∧ Sh1 = zShF.take 29 ∧ I1 = I ∧ L1 = L ∧ R1 = zr (zr (zr (zr (R) 24 0 (some 25)) 24 1 (some 26)) 24 2 (some 27)) 24 3 (some 28)) := by
  refine z_met (by decide) [some (.ref 24)] rfl rfl (Nat.le_of_ble_eq_true rfl) (fun X => ?_)
  refine z_aload_n d_X0_init_0 rfl ?_
  refine z_objInit d_X0_init_1 q_X0_init_3 (in_g (up_1 (List.mem_of_getElem? (i := 23) rfl)) rfl) (in_g (up_1 (List.mem_of_getElem? (i := 24) rfl)) rfl) (by decide) (Nat.le_of_ble_eq_true rfl) ?_
  refine z_aload_n d_X0_init_4 rfl ?_
  refine z_bipush d_X0_init_5 kb_48 ?_
  refine z_newI0 (N := 48) (n := 25) d_X0_init_7 (by decide) (by decide) (by decide) rfl (by first | exact hz.up (by decide) | exact (hz.r (by decide)).up (by decide) | exact ((hz.r (by decide)).r (by decide)).up (by decide) | exact (((hz.r (by decide)).r (by decide)).r (by decide)).up (by decide)) ⟨Nat.le_of_ble_eq_true rfl, Nat.le_of_ble_eq_true rfl⟩ ?_
  refine z_putFR d_X0_init_9 f_X0_9 p_X0_0 rfl (fun C T N h => by cases h; rfl) (fun _ => rfl) (fun _ => rfl) (by first | rfl | assumption) (by omega) ?_
  refine z_aload_n d_X0_init_12 rfl ?_
  refine z_bipush d_X0_init_13 kb_48 ?_
  refine z_newI0 (N := 48) (n := 26) d_X0_init_15 (by decide) (by decide) (by decide) rfl (by first | exact hz.up (by decide) | exact (hz.r (by decide)).up (by decide) | exact ((hz.r (by decide)).r (by decide)).up (by decide) | exact (((hz.r (by decide)).r (by decide)).r (by decide)).up (by decide)) ⟨Nat.le_of_ble_eq_true rfl, Nat.le_of_ble_eq_true rfl⟩ ?_
  refine z_putFR d_X0_init_17 f_X0_15 p_X0_1 rfl (fun C T N h => by cases h; rfl) (fun _ => rfl) (fun _ => rfl) (by first | rfl | assumption) (by omega) ?_
  refine z_aload_n d_X0_init_20 rfl ?_
  refine z_bipush d_X0_init_21 kb_48 ?_
  refine z_newI0 (N := 48) (n := 27) d_X0_init_23 (by decide) (by decide) (by decide) rfl (by first | exact hz.up (by decide) | exact (hz.r (by decide)).up (by decide) | exact ((hz.r (by decide)).r (by decide)).up (by decide) | exact (((hz.r (by decide)).r (by decide)).r (by decide)).up (by decide)) ⟨Nat.le_of_ble_eq_true rfl, Nat.le_of_ble_eq_true rfl⟩ ?_
  refine z_putFR d_X0_init_25 f_X0_18 p_X0_2 rfl (fun C T N h => by cases h; rfl) (fun _ => rfl) (fun _ => rfl) (by first | rfl | assumption) (by omega) ?_
  refine z_aload_n d_X0_init_28 rfl ?_
  refine z_bipush d_X0_init_29 kb_8 ?_
  refine z_newI0 (N := 8) (n := 28) d_X0_init_31 (by decide) (by decide) (by decide) rfl (by first | exact hz.up (by decide) | exact (hz.r (by decide)).up (by decide) | exact ((hz.r (by decide)).r (by decide)).up (by decide) | exact (((hz.r (by decide)).r (by decide)).r (by decide)).up (by decide)) ⟨Nat.le_of_ble_eq_true rfl, Nat.le_of_ble_eq_true rfl⟩ ?_
  refine z_putFR d_X0_init_33 f_X0_21 p_X0_3 rfl (fun C T N h => by cases h; rfl) (fun _ => rfl) (fun _ => rfl) (by first | rfl | assumption) (by omega) ?_
  exact z_return d_X0_init_36 rfl ⟨rfl, rfl, rfl, rfl, rfl⟩
set_option maxRecDepth 100000 in
set_option maxHeartbeats 4000000 in
theorem ct_X0_init_31 {E : zE} {I : zI} {L : zL} {R : zR} (hz : zZ0 I L R 32) : zCt E m_X0_init (zShF.take 32) [.ref 31] I L R (fun r Sh1 I1 L1 R1 => r = none ∧ Sh1 = zShF.take 36 ∧ I1 = I ∧ L1 = L ∧ R1 = zr (zr (zr (zr (R) 31 0 (some 32)) 31 1 (some 33)) 31 2 (some 34)) 31 3 (some 35)) := by
  refine z_met (by decide) [some (.ref 31)] rfl rfl (Nat.le_of_ble_eq_true rfl) (fun X => ?_)
  refine z_aload_n d_X0_init_0 rfl ?_
  refine z_objInit d_X0_init_1 q_X0_init_3 (in_g (up_1 (List.mem_of_getElem? (i := 23) rfl)) rfl) (in_g (up_1 (List.mem_of_getElem? (i := 24) rfl)) rfl) (by decide) (Nat.le_of_ble_eq_true rfl) ?_
  refine z_aload_n d_X0_init_4 rfl ?_
  refine z_bipush d_X0_init_5 kb_48 ?_
  refine z_newI0 (N := 48) (n := 32) d_X0_init_7 (by decide) (by decide) (by decide) rfl (by first | exact hz.up (by decide) | exact (hz.r (by decide)).up (by decide) | exact ((hz.r (by decide)).r (by decide)).up (by decide) | exact (((hz.r (by decide)).r (by decide)).r (by decide)).up (by decide)) ⟨Nat.le_of_ble_eq_true rfl, Nat.le_of_ble_eq_true rfl⟩ ?_
  refine z_putFR d_X0_init_9 f_X0_9 p_X0_0 rfl (fun C T N h => by cases h; rfl) (fun _ => rfl) (fun _ => rfl) (by first | rfl | assumption) (by omega) ?_
  refine z_aload_n d_X0_init_12 rfl ?_
  refine z_bipush d_X0_init_13 kb_48 ?_
  refine z_newI0 (N := 48) (n := 33) d_X0_init_15 (by decide) (by decide) (by decide) rfl (by first | exact hz.up (by decide) | exact (hz.r (by decide)).up (by decide) | exact ((hz.r (by decide)).r (by decide)).up (by decide) | exact (((hz.r (by decide)).r (by decide)).r (by decide)).up (by decide)) ⟨Nat.le_of_ble_eq_true rfl, Nat.le_of_ble_eq_true rfl⟩ ?_
  refine z_putFR d_X0_init_17 f_X0_15 p_X0_1 rfl (fun C T N h => by cases h; rfl) (fun _ => rfl) (fun _ => rfl) (by first | rfl | assumption) (by omega) ?_
  refine z_aload_n d_X0_init_20 rfl ?_
  refine z_bipush d_X0_init_21 kb_48 ?_
  refine z_newI0 (N := 48) (n := 34) d_X0_init_23 (by decide) (by decide) (by decide) rfl (by first | exact hz.up (by decide) | exact (hz.r (by decide)).up (by decide) | exact ((hz.r (by decide)).r (by decide)).up (by decide) | exact (((hz.r (by decide)).r (by decide)).r (by decide)).up (by decide)) ⟨Nat.le_of_ble_eq_true rfl, Nat.le_of_ble_eq_true rfl⟩ ?_
  refine z_putFR d_X0_init_25 f_X0_18 p_X0_2 rfl (fun C T N h => by cases h; rfl) (fun _ => rfl) (fun _ => rfl) (by first | rfl | assumption) (by omega) ?_
  refine z_aload_n d_X0_init_28 rfl ?_
  refine z_bipush d_X0_init_29 kb_8 ?_
  refine z_newI0 (N := 8) (n := 35) d_X0_init_31 (by decide) (by decide) (by decide) rfl (by first | exact hz.up (by decide) | exact (hz.r (by decide)).up (by decide) | exact ((hz.r (by decide)).r (by decide)).up (by decide) | exact (((hz.r (by decide)).r (by decide)).r (by decide)).up (by decide)) ⟨Nat.le_of_ble_eq_true rfl, Nat.le_of_ble_eq_true rfl⟩ ?_
  refine z_putFR d_X0_init_33 f_X0_21 p_X0_3 rfl (fun C T N h => by cases h; rfl) (fun _ => rfl) (fun _ => rfl) (by first | rfl | assumption) (by omega) ?_
  exact z_return d_X0_init_36 rfl ⟨rfl, rfl, rfl, rfl, rfl⟩
set_option maxRecDepth 100000 in
set_option maxHeartbeats 4000000 in
theorem ct_X0_init_46 {E : zE} {I : zI} {L : zL} {R : zR} (hz : zZ0 I L R 47) : zCt E m_X0_init (zShF.take 47) [.ref 46] I L R (fun r Sh1 I1 L1 R1 => r = none ∧ Sh1 = zShF.take 51 ∧ I1 = I ∧ L1 = L ∧ R1 = zr (zr (zr (zr (R) 46 0 (some 47)) 46 1 (some 48)) 46 2 (some 49)) 46 3 (some 50)) := by
  refine z_met (by decide) [some (.ref 46)] rfl rfl (Nat.le_of_ble_eq_true rfl) (fun X => ?_)
  refine z_aload_n d_X0_init_0 rfl ?_
  refine z_objInit d_X0_init_1 q_X0_init_3 (in_g (up_1 (List.mem_of_getElem? (i := 23) rfl)) rfl) (in_g (up_1 (List.mem_of_getElem? (i := 24) rfl)) rfl) (by decide) (Nat.le_of_ble_eq_true rfl) ?_
  refine z_aload_n d_X0_init_4 rfl ?_
  refine z_bipush d_X0_init_5 kb_48 ?_
  refine z_newI0 (N := 48) (n := 47) d_X0_init_7 (by decide) (by decide) (by decide) rfl (by first | exact hz.up (by decide) | exact (hz.r (by decide)).up (by decide) | exact ((hz.r (by decide)).r (by decide)).up (by decide) | exact (((hz.r (by decide)).r (by decide)).r (by decide)).up (by decide)) ⟨Nat.le_of_ble_eq_true rfl, Nat.le_of_ble_eq_true rfl⟩ ?_
  refine z_putFR d_X0_init_9 f_X0_9 p_X0_0 rfl (fun C T N h => by cases h; rfl) (fun _ => rfl) (fun _ => rfl) (by first | rfl | assumption) (by omega) ?_
  refine z_aload_n d_X0_init_12 rfl ?_
  refine z_bipush d_X0_init_13 kb_48 ?_
  refine z_newI0 (N := 48) (n := 48) d_X0_init_15 (by decide) (by decide) (by decide) rfl (by first | exact hz.up (by decide) | exact (hz.r (by decide)).up (by decide) | exact ((hz.r (by decide)).r (by decide)).up (by decide) | exact (((hz.r (by decide)).r (by decide)).r (by decide)).up (by decide)) ⟨Nat.le_of_ble_eq_true rfl, Nat.le_of_ble_eq_true rfl⟩ ?_
  refine z_putFR d_X0_init_17 f_X0_15 p_X0_1 rfl (fun C T N h => by cases h; rfl) (fun _ => rfl) (fun _ => rfl) (by first | rfl | assumption) (by omega) ?_
  refine z_aload_n d_X0_init_20 rfl ?_
  refine z_bipush d_X0_init_21 kb_48 ?_
  refine z_newI0 (N := 48) (n := 49) d_X0_init_23 (by decide) (by decide) (by decide) rfl (by first | exact hz.up (by decide) | exact (hz.r (by decide)).up (by decide) | exact ((hz.r (by decide)).r (by decide)).up (by decide) | exact (((hz.r (by decide)).r (by decide)).r (by decide)).up (by decide)) ⟨Nat.le_of_ble_eq_true rfl, Nat.le_of_ble_eq_true rfl⟩ ?_
  refine z_putFR d_X0_init_25 f_X0_18 p_X0_2 rfl (fun C T N h => by cases h; rfl) (fun _ => rfl) (fun _ => rfl) (by first | rfl | assumption) (by omega) ?_
  refine z_aload_n d_X0_init_28 rfl ?_
  refine z_bipush d_X0_init_29 kb_8 ?_
  refine z_newI0 (N := 8) (n := 50) d_X0_init_31 (by decide) (by decide) (by decide) rfl (by first | exact hz.up (by decide) | exact (hz.r (by decide)).up (by decide) | exact ((hz.r (by decide)).r (by decide)).up (by decide) | exact (((hz.r (by decide)).r (by decide)).r (by decide)).up (by decide)) ⟨Nat.le_of_ble_eq_true rfl, Nat.le_of_ble_eq_true rfl⟩ ?_
  refine z_putFR d_X0_init_33 f_X0_21 p_X0_3 rfl (fun C T N h => by cases h; rfl) (fun _ => rfl) (fun _ => rfl) (by first | rfl | assumption) (by omega) ?_
  exact z_return d_X0_init_36 rfl ⟨rfl, rfl, rfl, rfl, rfl⟩
set_option maxRecDepth 100000 in
set_option maxHeartbeats 4000000 in
theorem ct_X0_init_51 {E : zE} {I : zI} {L : zL} {R : zR} (hz : zZ0 I L R 52) : zCt E m_X0_init (zShF.take 52) [.ref 51] I L R (fun r Sh1 I1 L1 R1 => r = none ∧ Sh1 = zShF.take 56 ∧ I1 = I ∧ L1 = L ∧ R1 = zr (zr (zr (zr (R) 51 0 (some 52)) 51 1 (some 53)) 51 2 (some 54)) 51 3 (some 55)) := by
  refine z_met (by decide) [some (.ref 51)] rfl rfl (Nat.le_of_ble_eq_true rfl) (fun X => ?_)
  refine z_aload_n d_X0_init_0 rfl ?_
  refine z_objInit d_X0_init_1 q_X0_init_3 (in_g (up_1 (List.mem_of_getElem? (i := 23) rfl)) rfl) (in_g (up_1 (List.mem_of_getElem? (i := 24) rfl)) rfl) (by decide) (Nat.le_of_ble_eq_true rfl) ?_
  refine z_aload_n d_X0_init_4 rfl ?_
  refine z_bipush d_X0_init_5 kb_48 ?_
  refine z_newI0 (N := 48) (n := 52) d_X0_init_7 (by decide) (by decide) (by decide) rfl (by first | exact hz.up (by decide) | exact (hz.r (by decide)).up (by decide) | exact ((hz.r (by decide)).r (by decide)).up (by decide) | exact (((hz.r (by decide)).r (by decide)).r (by decide)).up (by decide)) ⟨Nat.le_of_ble_eq_true rfl, Nat.le_of_ble_eq_true rfl⟩ ?_
  refine z_putFR d_X0_init_9 f_X0_9 p_X0_0 rfl (fun C T N h => by cases h; rfl) (fun _ => rfl) (fun _ => rfl) (by first | rfl | assumption) (by omega) ?_
  refine z_aload_n d_X0_init_12 rfl ?_
  refine z_bipush d_X0_init_13 kb_48 ?_
  refine z_newI0 (N := 48) (n := 53) d_X0_init_15 (by decide) (by decide) (by decide) rfl (by first | exact hz.up (by decide) | exact (hz.r (by decide)).up (by decide) | exact ((hz.r (by decide)).r (by decide)).up (by decide) | exact (((hz.r (by decide)).r (by decide)).r (by decide)).up (by decide)) ⟨Nat.le_of_ble_eq_true rfl, Nat.le_of_ble_eq_true rfl⟩ ?_
  refine z_putFR d_X0_init_17 f_X0_15 p_X0_1 rfl (fun C T N h => by cases h; rfl) (fun _ => rfl) (fun _ => rfl) (by first | rfl | assumption) (by omega) ?_
  refine z_aload_n d_X0_init_20 rfl ?_
  refine z_bipush d_X0_init_21 kb_48 ?_
  refine z_newI0 (N := 48) (n := 54) d_X0_init_23 (by decide) (by decide) (by decide) rfl (by first | exact hz.up (by decide) | exact (hz.r (by decide)).up (by decide) | exact ((hz.r (by decide)).r (by decide)).up (by decide) | exact (((hz.r (by decide)).r (by decide)).r (by decide)).up (by decide)) ⟨Nat.le_of_ble_eq_true rfl, Nat.le_of_ble_eq_true rfl⟩ ?_
  refine z_putFR d_X0_init_25 f_X0_18 p_X0_2 rfl (fun C T N h => by cases h; rfl) (fun _ => rfl) (fun _ => rfl) (by first | rfl | assumption) (by omega) ?_
  refine z_aload_n d_X0_init_28 rfl ?_
  refine z_bipush d_X0_init_29 kb_8 ?_
  refine z_newI0 (N := 8) (n := 55) d_X0_init_31 (by decide) (by decide) (by decide) rfl (by first | exact hz.up (by decide) | exact (hz.r (by decide)).up (by decide) | exact ((hz.r (by decide)).r (by decide)).up (by decide) | exact (((hz.r (by decide)).r (by decide)).r (by decide)).up (by decide)) ⟨Nat.le_of_ble_eq_true rfl, Nat.le_of_ble_eq_true rfl⟩ ?_
  refine z_putFR d_X0_init_33 f_X0_21 p_X0_3 rfl (fun C T N h => by cases h; rfl) (fun _ => rfl) (fun _ => rfl) (by first | rfl | assumption) (by omega) ?_
  exact z_return d_X0_init_36 rfl ⟨rfl, rfl, rfl, rfl, rfl⟩
