set_option maxRecDepth 100000 in
set_option maxHeartbeats 4000000 in
theorem ct_X8_torn {E : zE} {I : zI} {L : zL} {R : zR} (hR : zLx R) : zCf E m_X8_torn zShF [.ref 64] I L R (some (.int (I 64 35))) (I) (L) (R) := by
  refine z_met (by decide) [some (.ref 64)] rfl rfl (Nat.le_of_ble_eq_true rfl) (fun X => ?_)
  refine z_aload_n d_X8_torn_0 rfl ?_
  refine z_getI d_X8_torn_1 f_X8_321 (by first | rfl | assumption) (by omega) ?_
  exact z_ireturn d_X8_torn_4 rfl ⟨rfl, rfl, rfl, rfl, rfl⟩
set_option maxRecDepth 100000 in
set_option maxHeartbeats 4000000 in
theorem ct_X8_still {E : zE} {I : zI} {L : zL} {R : zR} (hR : zLx R) : zCf E m_X8_still zShF [.ref 64] I L R (some (.int (I 64 6))) (zi I 64 6 0) (L) (R) := by
  refine z_met (by decide) [some (.ref 64), none] rfl rfl (Nat.le_of_ble_eq_true rfl) (fun X => ?_)
  refine z_aload_n d_X8_still_0 rfl ?_
  refine z_getI d_X8_still_1 f_X8_99 (by first | rfl | assumption) (by omega) ?_
  refine z_istore1 d_X8_still_4 rfl ?_
  refine z_aload_n d_X8_still_5 rfl ?_
  refine z_iconst d_X8_still_6 ki_0 ?_
  refine z_putI d_X8_still_7 f_X8_99 p_X8_6 (by first | rfl | assumption) (by omega) ?_
  refine z_iload_n d_X8_still_10 rfl ?_
  exact z_ireturn d_X8_still_11 rfl ⟨rfl, rfl, rfl, rfl, rfl⟩
set_option maxRecDepth 100000 in
set_option maxHeartbeats 4000000 in
theorem ct_X8_isSheet {E : zE} {Sh : zSh} {I : zI} {L : zL} {R : zR} {k l : Int32} : zCf E m_X8_isSheet Sh [.int k, .int l] I L R (some (.int (b2i (inV 0 3 k && inV 0 2 l)))) (I) (L) (R) := by
  refine z_met (by decide) [some (.int k), some (.int l)] rfl rfl (Nat.le_of_ble_eq_true rfl) (fun X => ?_)
  refine z_iload_n d_X8_isSheet_0 rfl ?_
  refine z_i2l d_X8_isSheet_1 ?_
  refine z_lconst (v := 0) d_X8_isSheet_2 (by decide) ?_
  refine z_ldc2 d_X8_isSheet_3 l_X8_252 ?_
  refine z_cSi d_X8_isSheet_6 q_X8_isSheet_92 ⟨rfl, rfl⟩ (ct_X8_in) rfl rfl rfl ⟨Nat.zero_le _, Nat.zero_le _⟩ ?_
  rw [inLc (lo := 0) (hi := 3) (by decide) (by decide)]
  refine z_if_eq d_X8_isSheet_9 (fun h_9 => ?_) (fun h_9 => ?_)
  · refine z_iconst d_X8_isSheet_28 ki_0 ?_
    exact z_zreturn d_X8_isSheet_29 rfl (by first | rfl | exact nar_b _) ⟨by first | (rw [b0 h_9]; rfl) | (rw [b1 h_9, b0 h_21]; rfl) | (rw [b1 h_9, b1 h_21]; rfl), rfl, rfl, rfl, rfl⟩
  · refine z_iload_n d_X8_isSheet_12 rfl ?_
    refine z_i2l d_X8_isSheet_13 ?_
    refine z_lconst (v := 0) d_X8_isSheet_14 (by decide) ?_
    refine z_ldc2 d_X8_isSheet_15 l_X8_288 ?_
    refine z_cSi d_X8_isSheet_18 q_X8_isSheet_92 ⟨rfl, rfl⟩ (ct_X8_in) rfl rfl rfl ⟨Nat.zero_le _, Nat.zero_le _⟩ ?_
    rw [inLc (lo := 0) (hi := 2) (by decide) (by decide)]
    refine z_if_eq d_X8_isSheet_21 (fun h_21 => ?_) (fun h_21 => ?_)
    · refine z_iconst d_X8_isSheet_28 ki_0 ?_
      exact z_zreturn d_X8_isSheet_29 rfl (by first | rfl | exact nar_b _) ⟨by first | (rw [b0 h_9]; rfl) | (rw [b1 h_9, b0 h_21]; rfl) | (rw [b1 h_9, b1 h_21]; rfl), rfl, rfl, rfl, rfl⟩
    · refine z_iconst d_X8_isSheet_24 ki_1 ?_
      refine z_goto d_X8_isSheet_25 ?_
      exact z_zreturn d_X8_isSheet_29 rfl (by first | rfl | exact nar_b _) ⟨by first | (rw [b0 h_9]; rfl) | (rw [b1 h_9, b0 h_21]; rfl) | (rw [b1 h_9, b1 h_21]; rfl), rfl, rfl, rfl, rfl⟩
set_option maxRecDepth 100000 in
set_option maxHeartbeats 4000000 in
theorem ct_X8_isPicture {E : zE} {Sh : zSh} {I : zI} {L : zL} {R : zR} {k l : Int32} : zCf E m_X8_isPicture Sh [.int k, .int l] I L R (some (.int (b2i (inV 1 3 k && inV 1 3 l)))) (I) (L) (R) := by
  refine z_met (by decide) [some (.int k), some (.int l)] rfl rfl (Nat.le_of_ble_eq_true rfl) (fun X => ?_)
  refine z_iload_n d_X8_isPicture_0 rfl ?_
  refine z_i2l d_X8_isPicture_1 ?_
  refine z_lconst (v := 1) d_X8_isPicture_2 (by decide) ?_
  refine z_ldc2 d_X8_isPicture_3 l_X8_252 ?_
  refine z_cSi d_X8_isPicture_6 q_X8_isPicture_92 ⟨rfl, rfl⟩ (ct_X8_in) rfl rfl rfl ⟨Nat.zero_le _, Nat.zero_le _⟩ ?_
  rw [inLc (lo := 1) (hi := 3) (by decide) (by decide)]
  refine z_if_eq d_X8_isPicture_9 (fun h_9 => ?_) (fun h_9 => ?_)
  · refine z_iconst d_X8_isPicture_28 ki_0 ?_
    exact z_zreturn d_X8_isPicture_29 rfl (by first | rfl | exact nar_b _) ⟨by first | (rw [b0 h_9]; rfl) | (rw [b1 h_9, b0 h_21]; rfl) | (rw [b1 h_9, b1 h_21]; rfl), rfl, rfl, rfl, rfl⟩
  · refine z_iload_n d_X8_isPicture_12 rfl ?_
    refine z_i2l d_X8_isPicture_13 ?_
    refine z_lconst (v := 1) d_X8_isPicture_14 (by decide) ?_
    refine z_ldc2 d_X8_isPicture_15 l_X8_252 ?_
    refine z_cSi d_X8_isPicture_18 q_X8_isPicture_92 ⟨rfl, rfl⟩ (ct_X8_in) rfl rfl rfl ⟨Nat.zero_le _, Nat.zero_le _⟩ ?_
    rw [inLc (lo := 1) (hi := 3) (by decide) (by decide)]
    refine z_if_eq d_X8_isPicture_21 (fun h_21 => ?_) (fun h_21 => ?_)
    · refine z_iconst d_X8_isPicture_28 ki_0 ?_
      exact z_zreturn d_X8_isPicture_29 rfl (by first | rfl | exact nar_b _) ⟨by first | (rw [b0 h_9]; rfl) | (rw [b1 h_9, b0 h_21]; rfl) | (rw [b1 h_9, b1 h_21]; rfl), rfl, rfl, rfl, rfl⟩
    · refine z_iconst d_X8_isPicture_24 ki_1 ?_
      refine z_goto d_X8_isPicture_25 ?_
      exact z_zreturn d_X8_isPicture_29 rfl (by first | rfl | exact nar_b _) ⟨by first | (rw [b0 h_9]; rfl) | (rw [b1 h_9, b0 h_21]; rfl) | (rw [b1 h_9, b1 h_21]; rfl), rfl, rfl, rfl, rfl⟩
