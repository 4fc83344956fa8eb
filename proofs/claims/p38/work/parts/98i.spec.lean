theorem nd_f {E : zE} {I : zI} {L : zL} {R : zR} {c : Int32} {g : Bool} (hR : zLx R) (hg : g = false) (h22 : I 64 22 = 0) : zCf E m_X8_needs zShF [.ref 64, .int (b2i g), .int c] I L R none (zi (zi I 64 22 c) 64 23 (I 64 19)) L R := by
  have h := ct_X8_needs (E := E) (I := I) (L := L) (g := g) (c := c) hR
  rw [if_pos ⟨hg, h22⟩] at h
  exact h
theorem nd_t {E : zE} {I : zI} {L : zL} {R : zR} {c : Int32} {g : Bool} (hR : zLx R) (hg : g = true) : zCf E m_X8_needs zShF [.ref 64, .int (b2i g), .int c] I L R none I L R := by
  have h := ct_X8_needs (E := E) (I := I) (L := L) (g := g) (c := c) hR
  rw [if_neg (fun z => by rw [hg] at z; cases z.1)] at h
  exact h
set_option maxRecDepth 100000 in
set_option maxHeartbeats 4000000 in
theorem ct_isN0 {E : zE} {I : zI} {L : zL} {R : zR} {lo hi : Int32} (hR : zLx R) (h22 : ¬ I 64 22 = 0) : zCf E m_X8_isNumber zShF [.ref 64, .int lo, .int hi] I L R (none) (I) (L) (R) := by
  refine z_met (by decide) [some (.ref 64), some (.int lo), some (.int hi)] rfl rfl (Nat.le_of_ble_eq_true rfl) (fun X => ?_)
  refine z_aload_n d_X8_isNumber_0 rfl ?_
  refine z_getI d_X8_isNumber_1 f_X8_107 (by first | rfl | assumption) (by omega) ?_
  refine z_if_ne d_X8_isNumber_4 (fun h_4 => ?_) (fun h_4 => absurd h_4 h22)
  refine z_aload_n d_X8_isNumber_25 rfl ?_
  refine z_getI d_X8_isNumber_26 f_X8_107 (by first | rfl | assumption) (by omega) ?_
  refine z_if_ne d_X8_isNumber_29 (fun h_29 => ?_) (fun h_29 => absurd h_29 h22)
  exact z_return d_X8_isNumber_49 rfl ⟨rfl, rfl, rfl, rfl, rfl⟩
set_option maxRecDepth 100000 in
set_option maxHeartbeats 4000000 in
theorem ct_isN1 {E : zE} {I : zI} {L : zL} {R : zR} {lo hi : Int32} (hR : zLx R) (h22 : I 64 22 = 0) (hs : ¬ I 64 20 = 2) : zCf E m_X8_isNumber zShF [.ref 64, .int lo, .int hi] I L R (none) (zi (zi I 64 22 2) 64 23 (I 64 19)) (L) (R) := by
  refine z_met (by decide) [some (.ref 64), some (.int lo), some (.int hi)] rfl rfl (Nat.le_of_ble_eq_true rfl) (fun X => ?_)
  refine z_aload_n d_X8_isNumber_0 rfl ?_
  refine z_getI d_X8_isNumber_1 f_X8_107 (by first | rfl | assumption) (by omega) ?_
  refine z_if_ne d_X8_isNumber_4 (fun h_4 => absurd h22 h_4) (fun h_4 => ?_)
  refine z_aload_n d_X8_isNumber_7 rfl ?_
  refine z_aload_n d_X8_isNumber_8 rfl ?_
  refine z_getI d_X8_isNumber_9 f_X8_127 (by first | rfl | assumption) (by omega) ?_
  refine z_iconst d_X8_isNumber_12 ki_2 ?_
  refine z_icmp_ne d_X8_isNumber_13 (fun h_13 => ?_) (fun h_13 => absurd h_13 hs)
  refine z_iconst d_X8_isNumber_20 ki_0 ?_
  refine z_iconst d_X8_isNumber_21 ki_2 ?_
  refine z_cVv d_X8_isNumber_22 q_X8_isNumber_141 (by first | rfl | assumption) (by omega) ⟨rfl, rfl⟩ ((nd_f (g := false) hR rfl h22)) rfl rfl rfl ⟨Nat.zero_le _, Nat.zero_le _⟩ ?_
  refine z_aload_n d_X8_isNumber_25 rfl ?_
  refine z_getI d_X8_isNumber_26 f_X8_107 (by first | rfl | assumption) (by omega) ?_
  refine z_if_ne d_X8_isNumber_29 (fun h_29 => ?_) (fun h_29 => absurd (show (2 : Int32) = 0 from h_29) (by decide))
  exact z_return d_X8_isNumber_49 rfl ⟨rfl, rfl, rfl, rfl, rfl⟩
set_option maxRecDepth 100000 in
set_option maxHeartbeats 4000000 in
theorem ct_isN2 {E : zE} {I : zI} {L : zL} {R : zR} {lo hi : Int32} (hR : zLx R) (h22 : I 64 22 = 0) (hs : I 64 20 = 2) (hin : inL (I 64 21).toInt64 lo.toInt64 hi.toInt64 = false) : zCf E m_X8_isNumber zShF [.ref 64, .int lo, .int hi] I L R (none) (zi (zi I 64 22 3) 64 23 (I 64 19)) (L) (R) := by
  refine z_met (by decide) [some (.ref 64), some (.int lo), some (.int hi)] rfl rfl (Nat.le_of_ble_eq_true rfl) (fun X => ?_)
  refine z_aload_n d_X8_isNumber_0 rfl ?_
  refine z_getI d_X8_isNumber_1 f_X8_107 (by first | rfl | assumption) (by omega) ?_
  refine z_if_ne d_X8_isNumber_4 (fun h_4 => absurd h22 h_4) (fun h_4 => ?_)
  refine z_aload_n d_X8_isNumber_7 rfl ?_
  refine z_aload_n d_X8_isNumber_8 rfl ?_
  refine z_getI d_X8_isNumber_9 f_X8_127 (by first | rfl | assumption) (by omega) ?_
  refine z_iconst d_X8_isNumber_12 ki_2 ?_
  refine z_icmp_ne d_X8_isNumber_13 (fun h_13 => absurd hs h_13) (fun h_13 => ?_)
  refine z_iconst d_X8_isNumber_16 ki_1 ?_
  refine z_goto d_X8_isNumber_17 ?_
  refine z_iconst d_X8_isNumber_21 ki_2 ?_
  refine z_cVv d_X8_isNumber_22 q_X8_isNumber_141 (by first | rfl | assumption) (by omega) ⟨rfl, rfl⟩ ((nd_t (g := true) hR rfl)) rfl rfl rfl ⟨Nat.zero_le _, Nat.zero_le _⟩ ?_
  refine z_aload_n d_X8_isNumber_25 rfl ?_
  refine z_getI d_X8_isNumber_26 f_X8_107 (by first | rfl | assumption) (by omega) ?_
  refine z_if_ne d_X8_isNumber_29 (fun h_29 => absurd h22 h_29) (fun h_29 => ?_)
  refine z_aload_n d_X8_isNumber_32 rfl ?_
  refine z_aload_n d_X8_isNumber_33 rfl ?_
  refine z_getI d_X8_isNumber_34 f_X8_138 (by first | rfl | assumption) (by omega) ?_
  refine z_i2l d_X8_isNumber_37 ?_
  refine z_iload_n d_X8_isNumber_38 rfl ?_
  refine z_i2l d_X8_isNumber_39 ?_
  refine z_iload_n d_X8_isNumber_40 rfl ?_
  refine z_i2l d_X8_isNumber_41 ?_
  refine z_cSi d_X8_isNumber_42 q_X8_isNumber_92 ⟨rfl, rfl⟩ (ct_X8_in) rfl rfl rfl ⟨Nat.zero_le _, Nat.zero_le _⟩ ?_
  refine z_iconst d_X8_isNumber_45 ki_3 ?_
  refine z_cVv d_X8_isNumber_46 q_X8_isNumber_141 (by first | rfl | assumption) (by omega) ⟨rfl, rfl⟩ ((nd_f hR hin h22)) rfl rfl rfl ⟨Nat.zero_le _, Nat.zero_le _⟩ ?_
  exact z_return d_X8_isNumber_49 rfl ⟨rfl, rfl, rfl, rfl, rfl⟩
set_option maxRecDepth 100000 in
set_option maxHeartbeats 4000000 in
theorem ct_isN3 {E : zE} {I : zI} {L : zL} {R : zR} {lo hi : Int32} (hR : zLx R) (h22 : I 64 22 = 0) (hs : I 64 20 = 2) (hin : inL (I 64 21).toInt64 lo.toInt64 hi.toInt64 = true) : zCf E m_X8_isNumber zShF [.ref 64, .int lo, .int hi] I L R (none) (I) (L) (R) := by
  refine z_met (by decide) [some (.ref 64), some (.int lo), some (.int hi)] rfl rfl (Nat.le_of_ble_eq_true rfl) (fun X => ?_)
  refine z_aload_n d_X8_isNumber_0 rfl ?_
  refine z_getI d_X8_isNumber_1 f_X8_107 (by first | rfl | assumption) (by omega) ?_
  refine z_if_ne d_X8_isNumber_4 (fun h_4 => absurd h22 h_4) (fun h_4 => ?_)
  refine z_aload_n d_X8_isNumber_7 rfl ?_
  refine z_aload_n d_X8_isNumber_8 rfl ?_
  refine z_getI d_X8_isNumber_9 f_X8_127 (by first | rfl | assumption) (by omega) ?_
  refine z_iconst d_X8_isNumber_12 ki_2 ?_
  refine z_icmp_ne d_X8_isNumber_13 (fun h_13 => absurd hs h_13) (fun h_13 => ?_)
  refine z_iconst d_X8_isNumber_16 ki_1 ?_
  refine z_goto d_X8_isNumber_17 ?_
  refine z_iconst d_X8_isNumber_21 ki_2 ?_
  refine z_cVv d_X8_isNumber_22 q_X8_isNumber_141 (by first | rfl | assumption) (by omega) ⟨rfl, rfl⟩ ((nd_t (g := true) hR rfl)) rfl rfl rfl ⟨Nat.zero_le _, Nat.zero_le _⟩ ?_
  refine z_aload_n d_X8_isNumber_25 rfl ?_
  refine z_getI d_X8_isNumber_26 f_X8_107 (by first | rfl | assumption) (by omega) ?_
  refine z_if_ne d_X8_isNumber_29 (fun h_29 => absurd h22 h_29) (fun h_29 => ?_)
  refine z_aload_n d_X8_isNumber_32 rfl ?_
  refine z_aload_n d_X8_isNumber_33 rfl ?_
  refine z_getI d_X8_isNumber_34 f_X8_138 (by first | rfl | assumption) (by omega) ?_
  refine z_i2l d_X8_isNumber_37 ?_
  refine z_iload_n d_X8_isNumber_38 rfl ?_
  refine z_i2l d_X8_isNumber_39 ?_
  refine z_iload_n d_X8_isNumber_40 rfl ?_
  refine z_i2l d_X8_isNumber_41 ?_
  refine z_cSi d_X8_isNumber_42 q_X8_isNumber_92 ⟨rfl, rfl⟩ (ct_X8_in) rfl rfl rfl ⟨Nat.zero_le _, Nat.zero_le _⟩ ?_
  refine z_iconst d_X8_isNumber_45 ki_3 ?_
  refine z_cVv d_X8_isNumber_46 q_X8_isNumber_141 (by first | rfl | assumption) (by omega) ⟨rfl, rfl⟩ ((nd_t hR hin)) rfl rfl rfl ⟨Nat.zero_le _, Nat.zero_le _⟩ ?_
  exact z_return d_X8_isNumber_49 rfl ⟨rfl, rfl, rfl, rfl, rfl⟩
